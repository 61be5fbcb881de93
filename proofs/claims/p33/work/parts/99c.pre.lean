def CI (G : GG) (ad : Nat → Nat → Nat) (n m : Nat) (u u2 : Nat → Int32) (L : List Nat) (f : HF) : Prop := ∃ (tc w : Nat → Int × Int) (q : Nat → (Nat → Int32) → Prop), SH (spC (NR 30 0 4) ((0, 6) : Int × Int) tc w q) nnC G ad L f ∧ WBp w 8 ∧ WBp tc 4 ∧ QIp q ∧ ZZp w q ∧ (∀ j, (tc j).1 = (tc j).2) ∧ w 2 = ((n : Int), (n : Int)) ∧ w 7 = ((m : Int), (m : Int)) ∧ (∀ g, q 2 g → ∀ k, k < 3 * n → g k = u k) ∧ ∀ g, q 7 g → ∀ k, k < 3 * m → g k = u2 k
def MI (G : GG) (ad : Nat → Nat → Nat) (n m : Nat) (u u2 : Nat → Int32) (L : List Nat) (f : HF) : Prop := ∃ (wm wm2 : WW) (g0 : Nat → Int32), SH (spM (IA 0 0 14 9999 wm) (IA 0 0 14 9999 wm2) (EQ g0) LDa) nnM G ad L f ∧ BBp 0 0 14 9999 wm ∧ BBp 0 0 14 9999 wm2 ∧ TX g0 ∧ wm = (((n : Int), (n : Int)), u) ∧ wm2 = (((m : Int), (m : Int)), u2)
def RWd (n : Nat) (u d : Nat → Int32) : Prop := WBd (cW u) (cD u) n ∧ (∀ k, k < n → mW d k = cW u k) ∧ ∀ k, k < n → mD d k = cD u k
theorem itm_ext {wk du wk2 du2 : Nat → Int32} {n s m : Nat} (h1 : ∀ k, k < n → wk k = wk2 k) (h2 : ∀ k, k < n → du k = du2 k) (hm : m ≤ n) : itm wk du n s m = itm wk2 du2 n s m := by
  induction m with
  | zero => rfl
  | succ m ih =>
    unfold itm
    rw [ih (by omega), h2 m (by omega), wko_ext h1 h2]
theorem mst_ext {wk du wk2 du2 : Nat → Int32} {n m : Nat} (h1 : ∀ k, k < n → wk k = wk2 k) (h2 : ∀ k, k < n → du k = du2 k) : mst wk du n m = mst wk2 du2 n m := by
  induction m with
  | zero => rfl
  | succ m ih =>
    unfold mst
    rw [ih, itm_ext h1 h2 (Nat.le_refl n)]
theorem inT_ext {wk du wk2 du2 : Nat → Int32} {n : Nat} {x : Int32} (h1 : ∀ k, k < n → wk k = wk2 k) (h2 : ∀ k, k < n → du k = du2 k) : inT wk du n x = inT wk2 du2 n x := by
  unfold inT
  rw [mst_ext h1 h2, wko_ext h1 h2]
theorem RWd_m {n : Nat} {u d : Nat → Int32} (h : RWd n u d) : WBd (mW d) (mD d) n := ⟨h.1.1, fun k hk => by rw [h.2.1 k hk, h.2.2 k hk]; exact h.1.2 k hk⟩
theorem RWd_one {n : Nat} {u d : Nat → Int32} {x r1 r2 : Int32} (h : RWd n u d) (e1 : r1.toInt = inT (cW u) (cD u) n x) (e2 : r2.toInt = inT (mW d) (mD d) n x) : r1 = r2 := by
  rw [inT_ext h.2.1 h.2.2] at e2
  exact Int32.toInt_inj.mp (e1.trans e2.symm)
theorem wd_n {i1 i2 r : Int32} {n : Nat} {n2 : Int} {u u2 : Nat → Int32} (h : wdE i1 i2 r (n : Int) n2 u u2) : ∃ k : Nat, n2 = (k : Int) := by
  rcases h with ⟨_, _, e, _⟩ | ⟨_, _, _, e, _⟩ | ⟨_, _, ⟨_, _, e, _⟩ | ⟨_, _, e, _⟩⟩
  · exact ⟨0, e⟩
  · exact ⟨n, e⟩
  · exact ⟨n + 1, by omega⟩
  · exact ⟨n, e⟩
theorem wd_rel {i1 i2 r r2 : Int32} {n k : Nat} {u u2 d : Nat → Int32} {w2 : WW} (h : RWd n u d) (h1 : wdE i1 i2 r (n : Int) (k : Int) u u2) (h2 : wdX i1 i2 r2 (((n : Int), (n : Int)), d) w2) : w2 = (((k : Int), (k : Int)), w2.2) ∧ RWd k u2 w2.2 := by
  rcases h1 with ⟨a1, _, e1, c1⟩ | ⟨a1, b1, _, e1, c1⟩ | ⟨a1, b1, ⟨x1, _, e1, c1⟩ | ⟨x1, _, e1, c1⟩⟩ <;> rcases h2 with ⟨a2, _, e2⟩ | ⟨a2, b2, _, e2⟩ | ⟨a2, b2, ⟨x2, _, e2⟩ | ⟨x2, _, e2⟩⟩
  · rw [e2, c1, e1]
    obtain rfl : k = 0 := by omega
    exact ⟨rfl, ⟨Nat.zero_le _, fun k hk => absurd hk (Nat.not_lt_zero _)⟩, fun k hk => absurd hk (Nat.not_lt_zero _), fun k hk => absurd hk (Nat.not_lt_zero _)⟩
  · exact absurd a1 a2
  · exact absurd a1 a2
  · exact absurd a1 a2
  · exact absurd a2 a1
  · rw [e2, c1, e1]
    obtain rfl : k = n := by omega
    exact ⟨rfl, h⟩
  · exact absurd b2 b1
  · exact absurd b2 b1
  · exact absurd a2 a1
  · exact absurd b1 b2
  · obtain rfl : k = n + 1 := by omega
    have x3 : n < 8 := by omega
    rw [c1]
    have e3 : w2.2 = upd (upd d (160 + 2 * n) i1) (161 + 2 * n) i2 := by rw [e2]; rfl
    have e4 : w2.1 = (((n + 1 : Nat) : Int), ((n + 1 : Nat) : Int)) := by rw [e2]; rfl
    refine ⟨Prod.ext e4 rfl, ?_⟩
    rw [e3, show ((n : Int)).toNat = n from rfl]
    have cw : ∀ j, j < n → cW (upd (upd (upd u (3 * n) i1) (3 * n + 1) i2) (3 * n + 2) 0) j = cW u j ∧ cD (upd (upd (upd u (3 * n) i1) (3 * n + 1) i2) (3 * n + 2) 0) j = cD u j := fun j hj => by
      unfold cW cD
      refine ⟨?_, ?_⟩
      · rw [pk_un (by omega), pk_un (by omega), pk_un (by omega)]
      · rw [pk_un (by omega), pk_un (by omega), pk_un (by omega)]
    have cw2 : cW (upd (upd (upd u (3 * n) i1) (3 * n + 1) i2) (3 * n + 2) 0) n = i1 ∧ cD (upd (upd (upd u (3 * n) i1) (3 * n + 1) i2) (3 * n + 2) 0) n = i2 := by
      unfold cW cD
      refine ⟨?_, ?_⟩
      · rw [pk_un (by omega), pk_un (by omega), pk_us]
      · rw [pk_un (by omega), pk_us]
    have mw : ∀ j, j < n → mW (upd (upd d (160 + 2 * n) i1) (161 + 2 * n) i2) j = mW d j ∧ mD (upd (upd d (160 + 2 * n) i1) (161 + 2 * n) i2) j = mD d j := fun j hj => by
      unfold mW mD
      refine ⟨?_, ?_⟩
      · rw [pk_un (by omega), pk_un (by omega)]
      · rw [pk_un (by omega), pk_un (by omega)]
    have mw2 : mW (upd (upd d (160 + 2 * n) i1) (161 + 2 * n) i2) n = i1 ∧ mD (upd (upd d (160 + 2 * n) i1) (161 + 2 * n) i2) n = i2 := by
      unfold mW mD
      refine ⟨?_, ?_⟩
      · rw [pk_un (by omega), pk_us]
      · rw [pk_us]
    refine ⟨⟨by omega, fun j hj => ?_⟩, fun j hj => ?_, fun j hj => ?_⟩
    · rcases Nat.lt_or_eq_of_le (Nat.lt_succ_iff.mp hj) with z | rfl
      · rw [(cw j z).1, (cw j z).2]; exact h.1.2 j z
      · rw [cw2.1, cw2.2]; exact b1
    · rcases Nat.lt_or_eq_of_le (Nat.lt_succ_iff.mp hj) with z | rfl
      · rw [(mw j z).1, (cw j z).1]; exact h.2.1 j z
      · rw [mw2.1, cw2.1]
    · rcases Nat.lt_or_eq_of_le (Nat.lt_succ_iff.mp hj) with z | rfl
      · rw [(mw j z).2, (cw j z).2]; exact h.2.2 j z
      · rw [mw2.2, cw2.2]
  · exact absurd x1 x2
  · exact absurd a2 a1
  · exact absurd b1 b2
  · exact absurd x2 x1
  · rw [e2, c1, e1]
    obtain rfl : k = n := by omega
    exact ⟨rfl, h⟩
theorem ZZ_2 {w w2 : Nat → Int × Int} {q : Nat → (Nat → Int32) → Prop} (h : ZZp w q) (e : ∀ k, k ≠ 2 → w2 k = w k) : ZZp w2 q := fun j h1 h2 h3 => by rw [e j h2]; exact h j h1 h2 h3
theorem ZZ_c {w w2 : Nat → Int × Int} {q q2 : Nat → (Nat → Int32) → Prop} (h : ZZp w q) (c : ∀ j, j < 10 → j ≠ 2 → j ≠ 7 → ∃ i, i < 10 ∧ i ≠ 2 ∧ i ≠ 7 ∧ w2 j = w i ∧ q2 j = q i) : ZZp w2 q2 := fun j h1 h2 h3 => by
  obtain ⟨i, a, b, d, e1, e2⟩ := c j h1 h2 h3
  rw [e1, e2]
  exact h i a b d
theorem j10 {j : Nat} (h : j < 10) (h2 : j ≠ 2) (h7 : j ≠ 7) : j = 0 ∨ j = 1 ∨ j = 3 ∨ j = 4 ∨ j = 5 ∨ j = 6 ∨ j = 8 ∨ j = 9 := by omega
theorem tc_c {tc tc2 : Nat → Int × Int} (hE : ∀ j, (tc j).1 = (tc j).2) (c : ∀ j, ∃ i, tc2 j = tc i) : ∀ j, (tc2 j).1 = (tc2 j).2 := fun j => by
  obtain ⟨i, e⟩ := c j
  rw [e]; exact hE i
theorem pr_eq {a : Int × Int} {n : Int} (h : a.1 = a.2) (e : n = a.1) : a = (n, n) := Prod.ext e.symm (h.symm.trans e.symm)
theorem law_ix {i x k : Int32} {L : Nat} (e : x = i + k) (hi : 0 ≤ i.toInt ∧ i.toInt + 6 ≤ (L : Int)) (hL : L ≤ 3072) (hk : 0 ≤ k.toInt ∧ k.toInt ≤ 5) : x.toInt = i.toInt + k.toInt := by
  rw [e]; exact ti_add (by omega) (by omega)
theorem law_in {i x k : Int32} {L : Nat} (e : x = i + k) (hi : 0 ≤ i.toInt ∧ i.toInt + 6 ≤ (L : Int)) (hL : L ≤ 3072) (hk : 0 ≤ k.toInt ∧ k.toInt ≤ 5) : vp_in x L := by
  have h := law_ix e hi hL hk
  intro z
  rcases z with z | z
  · rw [Int32.lt_iff_toInt_lt] at z
    have z0 : (0 : Int32).toInt = 0 := rfl
    omega
  · rw [tnc] at z; omega
theorem law_rd {i x k : Int32} {L : Nat} {xs : Nat → Int32} (e : x = i + k) (hi : 0 ≤ i.toInt ∧ i.toInt + 6 ≤ (L : Int)) (hL : L ≤ 3072) (hk : 0 ≤ k.toInt ∧ k.toInt ≤ 5) : xs x.toNatClampNeg = xs (i.toInt.toNat + k.toInt.toNat) := by
  have h := law_ix e hi hL hk
  rw [tnc, show x.toInt.toNat = i.toInt.toNat + k.toInt.toNat by omega]
