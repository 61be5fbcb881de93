section WSR
variable {wk du : Nat → Int32} {s n k m : Nat} {d a b : Int} {w2 : Int × Int} {v x y i r : Int32}
def cW (c : Nat → Int32) (k : Nat) : Int32 := c (3 * k)
def cD (c : Nat → Int32) (k : Nat) : Int32 := c (3 * k + 1)
theorem tncW (x : Int32) : x.toNatClampNeg = x.toInt.toNat := rfl
theorem cn_e (h : bn w2.1 w2.2 v) (e : w2 = ((n : Int), (n : Int))) : v.toInt = (n : Int) := by
  rw [e] at h
  exact Int.le_antisymm h.2 h.1
theorem bit_0 {p : Prop} [Decidable p] (e : x = if p then 1 else 0) (h : x = 0) : ¬ p := fun q => by
  rw [if_pos q, h] at e
  exact absurd e (by decide)
theorem bit_1 {p : Prop} [Decidable p] (e : x = if p then 1 else 0) (h : ¬ x = 0) : p := by
  by_cases q : p
  · exact q
  · rw [if_neg q] at e; exact absurd e h
theorem wko_s0 (h : a = wko wk du s d k) (z : ¬ (s.testBit k = true ∧ (du k).toInt ≤ d)) : a = wko wk du s d (k + 1) := by
  unfold wko
  rw [if_neg z, h, Int.add_zero]
theorem wko_s1 (h : a = wko wk du s d k) (z1 : s.testBit k = true) (z2 : (du k).toInt ≤ d) (e : b = a + (wk k).toInt) : b = wko wk du s d (k + 1) := by
  unfold wko
  rw [if_pos ⟨z1, z2⟩, e, h]
theorem wko_sum (hwb : WBd wk du n) (hk : k < n) (h : x.toInt = wko wk du s d k) : (x + wk k).toInt = x.toInt + (wk k).toInt := by
  have b1 := hwb.1
  have b2 := wko_bd (wk := wk) (du := du) (s := s) (d := d) (m := k) (fun j hj => ⟨by have := (hwb.2 j (by omega)).1.1; omega, (hwb.2 j (by omega)).1.2⟩)
  have b3 := (hwb.2 k hk).1
  exact ti_add (by omega) (by omega)
theorem sc_nat (h : x.toInt = y.toInt + 1) (h0 : 0 ≤ y.toInt) : x.toInt.toNat = y.toInt.toNat + 1 := by omega
theorem itm_s0 (h : itm wk du n s k = true) (z : ¬ s.testBit k = true) : itm wk du n s (k + 1) = true := by
  unfold itm
  rw [h, if_neg z]; rfl
theorem itm_s1 (h : itm wk du n s k = true) (z : wko wk du s (du k).toInt n ≤ (du k).toInt) : itm wk du n s (k + 1) = true := by
  unfold itm
  rw [h]
  split
  · rw [decide_eq_true z]; rfl
  · rfl
theorem itm_f (hk : s.testBit k = true) (z : ¬ wko wk du s (du k).toInt n ≤ (du k).toInt) : ∀ j, itm wk du n s (k + 1 + j) = false := by
  intro j
  induction j with
  | zero =>
    show itm wk du n s (k + 1) = false
    unfold itm
    rw [if_pos hk, decide_eq_false z, Bool.and_false]
  | succ j ih =>
    show itm wk du n s (k + 1 + j + 1) = false
    unfold itm
    rw [ih, Bool.false_and]
theorem itm_no (hk : s.testBit k = true) (z : ¬ wko wk du s (du k).toInt n ≤ (du k).toInt) (h : k < n) : itm wk du n s n = false := by
  have a := itm_f hk z (n - (k + 1))
  rw [show k + 1 + (n - (k + 1)) = n by omega] at a
  exact a
theorem mst_s0 (h : (m : Int) = mst wk du n k) (z : ¬ (pcn (mst wk du n k) < pcn k ∧ itm wk du n k n = true)) : (m : Int) = mst wk du n (k + 1) := by
  conv => rhs; unfold mst
  rw [if_neg z]; exact h
theorem mst_s1 (z1 : pcn (mst wk du n k) < pcn k) (z2 : itm wk du n k n = true) : (k : Int) = mst wk du n (k + 1) := by
  conv => rhs; unfold mst
  rw [if_pos ⟨z1, z2⟩]
theorem bcF : ∀ s : Fin 256, (bcnt (Int32.ofNat s.1)).toInt = (pcn s.1 : Int) := by decide +kernel
theorem bc_pc (h : bn 0 255 x) : (bcnt x).toInt = (pcn x.toInt.toNat : Int) := by
  have a := bcF ⟨x.toInt.toNat, by have := h.1; have := h.2; omega⟩
  rw [← ofN (bn_w h (by decide))] at a
  exact a
theorem shF : ∀ k : Fin 9, ((1 : Int32) <<< (Int32.ofNat k.1 &&& 31)).toInt = ((2 ^ k.1 : Nat) : Int) := by decide +kernel
theorem sh_p (e : x = 1 <<< (v &&& 31)) (hv : v.toInt = (n : Int)) (h8 : n ≤ 8) : x.toInt = ((2 ^ n : Nat) : Int) := by
  have a := shF ⟨n, by omega⟩
  have e2 : v = Int32.ofNat n := by
    apply Int32.toInt_inj.mp
    rw [Int32.toInt_ofNat_of_lt (by omega)]; exact hv
  rw [e, e2]; exact a
end WSR
set_option maxHeartbeats 4000000 in
set_option maxRecDepth 100000 in
theorem x_X9_getE {l : Launch} {G : GG}  {L : List Nat} {f : HF} {ad : Nat → Nat → Nat} {rs : FS} {fc : Int × Int} {tc w : Nat → Int × Int} {q : Nat → (Nat → Int32) → Prop} {i1 i2 : Int32} {n : Nat} {u9 : Nat → Int32} (I : SH (spC rs fc tc w q) nnC G ad L f) (hW : WBp w 8) (hT : WBp tc 4) (hQ : QIp q) (b_i1 : bn 0 7 i1) (b_i2 : bn 0 2 i2) (hn : w 2 = ((n : Int), (n : Int))) (hc : (∀ g, q 2 g → ∀ k, k < 3 * n → g k = u9 k)) (hlt : i1.toInt < (n : Int)) : PMp l yX9_get cX9_get 3 .int 0 0 0 G [.ref (ad 20 2), .int i1, .int i2] L f (fun r => (r = u9 (3 * i1.toInt.toNat + i2.toInt.toNat))) := by
  refine PMi.of (post := fun r L1 f1 => ((r = u9 (3 * i1.toInt.toNat + i2.toInt.toNat))) ∧ L1 = L ∧ f1 = f) (own := RX9) (by decide) rfl (Nat.le_of_ble_eq_true rfl) (fun sz p e s m args below meth c A ls hA1 hname S Y hl => ?_)
  have hx := S.hx
  have hb := S.hb
  have hl : lv_has ls 3 [(0, .ref (ad 20 2)), (1, .int i1), (2, .int i2)] := hl
  refine lv_iload_n hx hb dX9_get_0 rfl (lv_at hl 1 rfl) ?_
  refine lv_if_lt (tgt := 21) hx hb dX9_get_1 (by decide) (fun h => absurd h (bd_nlt b_i1 (show bn 0 0 (0 : Int32) from bn_k (by decide)) (by decide))) (fun _ => ?_)
  refine lv_iload_n hx hb dX9_get_4 rfl (lv_at hl 1 rfl) ?_
  refine lv_aload_n hx hb dX9_get_5 rfl (lv_at hl 0 rfl) ?_
  obtain ⟨v_81055, v_81057, p_ad_20_2, b_81056, b_81058⟩ := opnC_20 (j := 2) I (by decide)
  have p_ad_20_2 : pt L f (ad 20 2) (.inr (9, [.ref (ad 21 2), .int v_81055, .int v_81057])) := p_ad_20_2
  refine pg_get S Y ok_X9 2 (by decide) kf9_25 (v := .int v_81057) p_ad_20_2 rfl dX9_get_6 ?_
  refine lv_icmp_ge (tgt := 21) hx hb dX9_get_9 (by decide) (fun c_81059 => ?_) (fun c_81059 => ?_)
  · have B_81060 : bn 0 7 v_81057 := bn_w (bn_lel c_81059 (bn_w (a' := 0) (b' := 8) b_81058 (hW 2)) b_i1) (by decide)
    refine lv_iconst (v := (-1)) hx hb dX9_get_21 (by decide) ?_
    exact prI (post := fun r L1 f1 => ((r = u9 (3 * i1.toInt.toNat + i2.toInt.toNat))) ∧ L1 = L ∧ f1 = f) S Y rfl (by decide) (by decide) hA1 ⟨(by exfalso; have z1 := (cn_e b_81058 hn); have z2 := c_81059; rw [Int32.le_iff_toInt_le] at z2; have z3 := hlt; omega), rfl, rfl⟩ dX9_get_22
  · have B_81061 : bn 1 8 v_81057 := bn_w (bn_gtl c_81059 (bn_w (a' := 0) (b' := 8) b_81058 (hW 2)) b_i1) (by decide)
    refine lv_iload_n hx hb dX9_get_12 rfl (lv_at hl 2 rfl) ?_
    refine lv_if_lt (tgt := 21) hx hb dX9_get_13 (by decide) (fun h => absurd h (bd_nlt b_i2 (show bn 0 0 (0 : Int32) from bn_k (by decide)) (by decide))) (fun _ => ?_)
    refine lv_iload_n hx hb dX9_get_16 rfl (lv_at hl 2 rfl) ?_
    refine lv_iconst (v := 3) hx hb dX9_get_17 (by decide) ?_
    refine lv_icmp_lt (tgt := 23) hx hb dX9_get_18 (by decide) (fun _ => ?_) (fun h => absurd (bd_lt b_i2 (show bn 3 3 (3 : Int32) from bn_k (by decide)) (by decide)) h)
    refine lv_aload_n hx hb dX9_get_23 rfl (lv_at hl 0 rfl) ?_
    refine pg_get S Y ok_X9 0 (by decide) kf9_9 (v := .ref (ad 21 2)) p_ad_20_2 rfl dX9_get_24 ?_
    refine lv_iload_n hx hb dX9_get_27 rfl (lv_at hl 1 rfl) ?_
    refine lv_iconst (v := 3) hx hb dX9_get_28 (by decide) ?_
    refine lv_imul hx hb dX9_get_29 ?_
    refine lv_topi (fun x_81062 ex_81062 => ?_)
    refine lv_iload_n hx hb dX9_get_30 rfl (lv_at hl 2 rfl) ?_
    refine lv_iadd hx hb dX9_get_31 ?_
    refine lv_topi (fun x_81063 ex_81063 => ?_)
    obtain ⟨g_81064, p_ad_21_2, o_81065⟩ := I.opi (k := 21) (j := 2) (by decide) rfl
    have p_ad_21_2 : pt L f (ad 21 2) (.inl (G.2 0, 24, .inl g_81064)) := p_ad_21_2
    obtain ⟨v_81066, ev_81066⟩ : ∃ z, z = g_81064 (x_81063 : Int32).toNatClampNeg := ⟨_, rfl⟩
    refine pg_iald S Y (v := v_81066) p_ad_21_2 (vp_bn (bn_eq ex_81063 (bn_add (bn_eq ex_81062 (bn_mul b_i1 (show bn 3 3 (3 : Int32) from bn_k (by decide)) (by decide))) b_i2 (by decide))) (by decide)) ev_81066.symm dX9_get_32 ?_
    exact prI (post := fun r L1 f1 => ((r = u9 (3 * i1.toInt.toNat + i2.toInt.toNat))) ∧ L1 = L ∧ f1 = f) S Y rfl (by decide) (by decide) hA1 ⟨(by rw [ev_81066, show (x_81063 : Int32).toNatClampNeg = 3 * i1.toInt.toNat + i2.toInt.toNat from (by have z9 := (la_add ex_81063 (la_mul ex_81062 (rfl : i1.toInt = i1.toInt) (show (3 : Int32).toInt = 3 from rfl) b_i1 (show bn 3 3 (3 : Int32) from bn_k (by decide)) (by decide)) (rfl : i2.toInt = i2.toInt) (bn_eq ex_81062 (bn_mul b_i1 (show bn 3 3 (3 : Int32) from bn_k (by decide)) (by decide))) b_i2 (by decide)); have y1 := b_i1.1; have y2 := b_i1.2; have y3 := b_i2.1; have y4 := b_i2.2; rw [tncW]; omega)]; exact hc g_81064 o_81065 _ (by have y1 := b_i1.1; have y2 := b_i1.2; have y3 := b_i2.1; have y4 := b_i2.2; have y5 := hlt; omega)), rfl, rfl⟩ dX9_get_33
set_option maxHeartbeats 4000000 in
set_option maxRecDepth 100000 in
theorem x_X0_workOfE {l : Launch} {G : GG}  {L : List Nat} {f : HF} {ad : Nat → Nat → Nat} {rs : FS} {fc : Int × Int} {tc w : Nat → Int × Int} {q : Nat → (Nat → Int32) → Prop} {i1 i2 : Int32} {n : Nat} {u9 : Nat → Int32} (I : SH (spC rs fc tc w q) nnC G ad L f) (hW : WBp w 8) (hT : WBp tc 4) (hQ : QIp q) (b_i1 : bn 0 255 i1) (hn : w 2 = ((n : Int), (n : Int))) (hc : (∀ g, q 2 g → ∀ k, k < 3 * n → g k = u9 k)) (hwb : WBd (cW u9) (cD u9) n) : PMp l yX0_workOf cX0_workOf 5 .int 1 0 0 G [.ref (ad 8 0), .int i1, .int i2] L f (fun r => (r.toInt = wko (cW u9) (cD u9) i1.toInt.toNat i2.toInt n)) := by
  refine PMi.of (post := fun r L1 f1 => ((r.toInt = wko (cW u9) (cD u9) i1.toInt.toNat i2.toInt n)) ∧ L1 = L ∧ f1 = f) (own := RX0) (by decide) rfl (Nat.le_of_ble_eq_true rfl) (fun sz p e s m args below meth c A ls hA1 hname S Y hl => ?_)
  have hx := S.hx
  have hb := S.hb
  have hl : lv_has ls 5 [(0, .ref (ad 8 0)), (1, .int i1), (2, .int i2)] := hl
  have J_5 : ∀ (n5 : Nat) (y5_3 y5_4 : Int32) (H : Heap) (locs : List Loc) (ls : Array Slot), (bn 0 8 y5_4) → (y5_3.toInt = wko (cW u9) (cD u9) i1.toInt.toNat i2.toInt y5_4.toInt.toNat ∧ y5_4.toInt ≤ (n : Int)) → (((8 : Int) - y5_4.toInt).toNat = n5) → (DY G A s [] L f H locs) → (lv_has ls 5 [(0, .ref (ad 8 0)), (1, .int i1), (2, .int i2), (3, .int y5_3), (4, .int y5_4)]) → W p l e (rmD 1 0 0) s m args below meth c H locs (0) (0) (MQ below (va_Qi (fun r (u : List Nat × HF) => (fun r L1 f1 => ((r.toInt = wko (cW u9) (cD u9) i1.toInt.toNat i2.toInt n)) ∧ L1 = L ∧ f1 = f) r u.1 u.2) (fun u t => pOut G (va_A (va_pl L f) sz) u.1 u.2 t) (va_A (va_pl L f) sz)) args s 0 0 A) (F0 m 5 ls []) := by
    intro n5
    induction n5 using Nat.strongRecOn with
    | _ n5 ih5 =>
      intro y5_3 y5_4 H locs ls b_y5_4 hK9 hm5 Y hl
      refine lv_iload hx hb dX0_workOf_5 (lv_at hl 4 rfl) ?_
      refine lv_aload_n hx hb dX0_workOf_7 rfl (lv_at hl 0 rfl) ?_
      have p_ad_8_0 := opnC_8 (j := 0) I (by decide)
      have p_ad_8_0 : pt L f (ad 8 0) (.inr (0, [.ref (ad 1 0), .ref (ad 60 0), .ref (ad 61 0)])) := p_ad_8_0
      refine pg_get S Y ok_X0 0 (by decide) kf0_18 (v := .ref (ad 1 0)) p_ad_8_0 rfl dX0_workOf_8 ?_
      obtain ⟨v_81367, v_81369, v_81371, v_81373, v_81375, p_ad_1_0, b_81368, b_81370, b_81372, b_81374, b_81376⟩ := opnC_1 (j := 0) I (by decide)
      have p_ad_1_0 : pt L f (ad 1 0) (.inr (10, [.ref (ad 40 0), .ref (ad 41 0), .ref (ad 42 0), .ref (ad 10 0), .ref (ad 43 0), .ref (ad 20 0), .ref (ad 20 1), .ref (ad 20 2), .ref (ad 20 3), .ref (ad 20 4), .int v_81367, .int v_81369, .int v_81371, .int v_81373, .int v_81375])) := p_ad_1_0
      refine pg_getN S Y ok_X10 7 (by decide) kf0_62 (v := .ref (ad 20 2)) p_ad_1_0 rfl dX0_workOf_11 ?_
      obtain ⟨v_81377, v_81379, p_ad_20_2, b_81378, b_81380⟩ := opnC_20 (j := 2) I (by decide)
      have p_ad_20_2 : pt L f (ad 20 2) (.inr (9, [.ref (ad 21 2), .int v_81377, .int v_81379])) := p_ad_20_2
      refine pg_getN S Y ok_X9 2 (by decide) kf0_56 (v := .int v_81379) p_ad_20_2 rfl dX0_workOf_14 ?_
      refine lv_icmp_ge (tgt := 68) hx hb dX0_workOf_17 (by decide) (fun c_81381 => ?_) (fun c_81381 => ?_)
      · refine lv_iload_n hx hb dX0_workOf_68 rfl (lv_at hl 3 rfl) ?_
        exact prI (post := fun r L1 f1 => ((r.toInt = wko (cW u9) (cD u9) i1.toInt.toNat i2.toInt n)) ∧ L1 = L ∧ f1 = f) S Y rfl (by decide) (by decide) hA1 ⟨(by have z1 := (cn_e b_81380 hn); have z2 := c_81381; rw [Int32.le_iff_toInt_le] at z2; have z3 := hK9.2; have z4 := hK9.1; rw [show y5_4.toInt.toNat = n by omega] at z4; exact z4), rfl, rfl⟩ dX0_workOf_69
      · have B_81382 : bn 1 8 v_81379 := bn_w (bn_gtl c_81381 (bn_w (a' := 0) (b' := 8) b_81380 (hW 2)) b_y5_4) (by decide)
        have B_81383 : bn 0 7 y5_4 := bn_w (bn_gtr c_81381 (bn_w (a' := 0) (b' := 8) b_81380 (hW 2)) b_y5_4) (by decide)
        refine lv_iload_n hx hb dX0_workOf_20 rfl (lv_at hl 1 rfl) ?_
        refine lv_iload hx hb dX0_workOf_21 (lv_at hl 4 rfl) ?_
        refine lv_ishr hx hb dX0_workOf_23 ?_
        refine lv_topi (fun x_81384 ex_81384 => ?_)
        refine lv_iconst (v := 1) hx hb dX0_workOf_24 (by decide) ?_
        refine lv_iand hx hb dX0_workOf_25 ?_
        refine lv_topi (fun x_81385 ex_81385 => ?_)
        refine lv_if_eq (tgt := 62) hx hb dX0_workOf_26 (by decide) (fun c_81386 => ?_) (fun c_81386 => ?_)
        · have B_81387 : bn 0 0 x_81385 := bn_w (bn_eq c_81386 (show bn 0 0 (0 : Int32) from bn_k (by decide))) (by decide)
          obtain ⟨x_81388, ex_81388⟩ : ∃ z : Int32, z = y5_4 + 1 := ⟨_, rfl⟩
          refine lv_iinc (v := x_81388) (lv' := [(4, .int x_81388), (0, .ref (ad 8 0)), (1, .int i1), (2, .int i2), (3, .int y5_3)]) hx hb dX0_workOf_62 hl (k := 4) rfl (by rw [ex_81388]; rfl) (by decide) rfl (fun ls hl => ?_)
          refine lv_goto (tgt := 5) hx hb dX0_workOf_65 (by decide) ?_
          exact ih5 _ (by rw [← hm5]; exact ms_up (m := 1) ex_81388 (show bn 1 1 (1 : Int32) from bn_k (by decide)) B_81383 (bn_w (bn_eq ex_81388 (bn_add B_81383 (show bn 1 1 (1 : Int32) from bn_k (by decide)) (by decide))) (by decide) : bn 0 8 x_81388) (by decide)) y5_3 x_81388  _ _ _  (bn_w (bn_eq ex_81388 (bn_add B_81383 (show bn 1 1 (1 : Int32) from bn_k (by decide)) (by decide))) (by decide)) ⟨by rw [(show x_81388.toInt.toNat = y5_4.toInt.toNat + 1 from sc_nat (by have z9 := (la_add ex_81388 (rfl : y5_4.toInt = y5_4.toInt) (show (1 : Int32).toInt = 1 from rfl) B_81383 (show bn 1 1 (1 : Int32) from bn_k (by decide)) (by decide)); omega) (B_81383).1)]; exact (wko_s0 hK9.1 (fun q => bit_0 (show x_81385 = _ from by rw [ex_81385, ex_81384]; exact has_bit (bn_w b_i1 (by decide)) (bn_w B_81383 (by decide))) c_81386 q.1)), (by have z9 := (la_add ex_81388 (rfl : y5_4.toInt = y5_4.toInt) (show (1 : Int32).toInt = 1 from rfl) B_81383 (show bn 1 1 (1 : Int32) from bn_k (by decide)) (by decide)); have z8 : y5_4.toInt < (n : Int) := (by have z1 := (cn_e b_81380 hn); have z2 := (Int32.not_le.mp c_81381); rw [Int32.lt_iff_toInt_lt] at z2; omega); omega)⟩ rfl Y (lv_sub hl [1, 2, 3, 4, 0] rfl)
        · refine lv_aload_n hx hb dX0_workOf_29 rfl (lv_at hl 0 rfl) ?_
          refine pg_get S Y ok_X0 0 (by decide) kf0_18 (v := .ref (ad 1 0)) p_ad_8_0 rfl dX0_workOf_30 ?_
          refine pg_getN S Y ok_X10 7 (by decide) kf0_62 (v := .ref (ad 20 2)) p_ad_1_0 rfl dX0_workOf_33 ?_
          refine lv_iload hx hb dX0_workOf_36 (lv_at hl 4 rfl) ?_
          refine lv_iconst (v := 1) hx hb dX0_workOf_38 (by decide) ?_
          refine cVp (As := [.int y5_4, .int 1]) (rest := []) S Y (x_X9_getE (l := l) I hW hT hQ (bn_w B_81383 (by decide)) (bn_w (show bn 1 1 (1 : Int32) from bn_k (by decide)) (by decide)) hn hc (show y5_4.toInt < (n : Int) from (by have z1 := (cn_e b_81380 hn); have z2 := (Int32.not_le.mp c_81381); rw [Int32.lt_iff_toInt_lt] at z2; omega))) cw_X9_get km0_61 p_ad_20_2 ok_X9.1 rfl rfl ⟨Nat.le_of_ble_eq_true rfl, Nat.le_of_ble_eq_true rfl⟩ hl.1 rfl (Nat.le_of_ble_eq_true rfl) ⟨Nat.le_of_ble_eq_true rfl, Nat.le_of_ble_eq_true rfl⟩ dX0_workOf_39 (fun r_81389 H locs er_81389 Y => ?_)
          refine lv_iload_n hx hb dX0_workOf_42 rfl (lv_at hl 2 rfl) ?_
          refine lv_icmp_gt (tgt := 62) hx hb dX0_workOf_43 (by decide) (fun c_81390 => ?_) (fun c_81390 => ?_)
          · have B_81391 : bn (-2147483648) 2147483646 i2 := bn_w (bn_ltl c_81390 (bn_any i2) (bn_any r_81389)) (by decide)
            have B_81392 : bn (-2147483647) 2147483647 r_81389 := bn_w (bn_ltr c_81390 (bn_any i2) (bn_any r_81389)) (by decide)
            obtain ⟨x_81393, ex_81393⟩ : ∃ z : Int32, z = y5_4 + 1 := ⟨_, rfl⟩
            refine lv_iinc (v := x_81393) (lv' := [(4, .int x_81393), (0, .ref (ad 8 0)), (1, .int i1), (2, .int i2), (3, .int y5_3)]) hx hb dX0_workOf_62 hl (k := 4) rfl (by rw [ex_81393]; rfl) (by decide) rfl (fun ls hl => ?_)
            refine lv_goto (tgt := 5) hx hb dX0_workOf_65 (by decide) ?_
            exact ih5 _ (by rw [← hm5]; exact ms_up (m := 1) ex_81393 (show bn 1 1 (1 : Int32) from bn_k (by decide)) B_81383 (bn_w (bn_eq ex_81393 (bn_add B_81383 (show bn 1 1 (1 : Int32) from bn_k (by decide)) (by decide))) (by decide) : bn 0 8 x_81393) (by decide)) y5_3 x_81393  _ _ _  (bn_w (bn_eq ex_81393 (bn_add B_81383 (show bn 1 1 (1 : Int32) from bn_k (by decide)) (by decide))) (by decide)) ⟨by rw [(show x_81393.toInt.toNat = y5_4.toInt.toNat + 1 from sc_nat (by have z9 := (la_add ex_81393 (rfl : y5_4.toInt = y5_4.toInt) (show (1 : Int32).toInt = 1 from rfl) B_81383 (show bn 1 1 (1 : Int32) from bn_k (by decide)) (by decide)); omega) (B_81383).1)]; exact (wko_s0 hK9.1 (fun q => by have z1 := q.2; rw [(show (cD u9 y5_4.toInt.toNat).toInt = r_81389.toInt from by rw [show r_81389 = cD u9 y5_4.toInt.toNat from er_81389])] at z1; have z2 := c_81390; rw [Int32.lt_iff_toInt_lt] at z2; omega)), (by have z9 := (la_add ex_81393 (rfl : y5_4.toInt = y5_4.toInt) (show (1 : Int32).toInt = 1 from rfl) B_81383 (show bn 1 1 (1 : Int32) from bn_k (by decide)) (by decide)); have z8 : y5_4.toInt < (n : Int) := (by have z1 := (cn_e b_81380 hn); have z2 := (Int32.not_le.mp c_81381); rw [Int32.lt_iff_toInt_lt] at z2; omega); omega)⟩ rfl Y (lv_sub hl [1, 2, 3, 4, 0] rfl)
          · refine lv_iload_n hx hb dX0_workOf_46 rfl (lv_at hl 3 rfl) ?_
            refine lv_aload_n hx hb dX0_workOf_47 rfl (lv_at hl 0 rfl) ?_
            refine pg_get S Y ok_X0 0 (by decide) kf0_18 (v := .ref (ad 1 0)) p_ad_8_0 rfl dX0_workOf_48 ?_
            refine pg_getN S Y ok_X10 7 (by decide) kf0_62 (v := .ref (ad 20 2)) p_ad_1_0 rfl dX0_workOf_51 ?_
            refine lv_iload hx hb dX0_workOf_54 (lv_at hl 4 rfl) ?_
            refine lv_iconst (v := 0) hx hb dX0_workOf_56 (by decide) ?_
            refine cVp (As := [.int y5_4, .int 0]) (rest := [.int y5_3]) S Y (x_X9_getE (l := l) I hW hT hQ (bn_w B_81383 (by decide)) (bn_w (show bn 0 0 (0 : Int32) from bn_k (by decide)) (by decide)) hn hc (show y5_4.toInt < (n : Int) from (by have z1 := (cn_e b_81380 hn); have z2 := (Int32.not_le.mp c_81381); rw [Int32.lt_iff_toInt_lt] at z2; omega))) cw_X9_get km0_61 p_ad_20_2 ok_X9.1 rfl rfl ⟨Nat.le_of_ble_eq_true rfl, Nat.le_of_ble_eq_true rfl⟩ hl.1 rfl (Nat.le_of_ble_eq_true rfl) ⟨Nat.le_of_ble_eq_true rfl, Nat.le_of_ble_eq_true rfl⟩ dX0_workOf_57 (fun r_81394 H locs er_81394 Y => ?_)
            refine lv_iadd hx hb dX0_workOf_60 ?_
            refine lv_topi (fun x_81395 ex_81395 => ?_)
            refine lv_istore_n (lv' := [(3, .int x_81395), (0, .ref (ad 8 0)), (1, .int i1), (2, .int i2), (4, .int y5_4)]) hx hb dX0_workOf_61 rfl hl (by decide) rfl (fun ls hl => ?_)
            obtain ⟨x_81396, ex_81396⟩ : ∃ z : Int32, z = y5_4 + 1 := ⟨_, rfl⟩
            refine lv_iinc (v := x_81396) (lv' := [(4, .int x_81396), (3, .int x_81395), (0, .ref (ad 8 0)), (1, .int i1), (2, .int i2)]) hx hb dX0_workOf_62 hl (k := 4) rfl (by rw [ex_81396]; rfl) (by decide) rfl (fun ls hl => ?_)
            refine lv_goto (tgt := 5) hx hb dX0_workOf_65 (by decide) ?_
            exact ih5 _ (by rw [← hm5]; exact ms_up (m := 1) ex_81396 (show bn 1 1 (1 : Int32) from bn_k (by decide)) B_81383 (bn_w (bn_eq ex_81396 (bn_add B_81383 (show bn 1 1 (1 : Int32) from bn_k (by decide)) (by decide))) (by decide) : bn 0 8 x_81396) (by decide)) x_81395 x_81396  _ _ _  (bn_w (bn_eq ex_81396 (bn_add B_81383 (show bn 1 1 (1 : Int32) from bn_k (by decide)) (by decide))) (by decide)) ⟨by rw [(show x_81396.toInt.toNat = y5_4.toInt.toNat + 1 from sc_nat (by have z9 := (la_add ex_81396 (rfl : y5_4.toInt = y5_4.toInt) (show (1 : Int32).toInt = 1 from rfl) B_81383 (show bn 1 1 (1 : Int32) from bn_k (by decide)) (by decide)); omega) (B_81383).1)]; exact (wko_s1 hK9.1 (bit_1 (show x_81385 = _ from by rw [ex_81385, ex_81384]; exact has_bit (bn_w b_i1 (by decide)) (bn_w B_81383 (by decide))) c_81386) (by rw [(show (cD u9 y5_4.toInt.toNat).toInt = r_81389.toInt from by rw [show r_81389 = cD u9 y5_4.toInt.toNat from er_81389])]; have z2 := (Int32.not_lt.mp c_81390); rw [Int32.le_iff_toInt_le] at z2; omega) (by rw [ex_81395, show r_81394 = cW u9 y5_4.toInt.toNat from er_81394]; exact wko_sum hwb (by have z8 : y5_4.toInt < (n : Int) := (by have z1 := (cn_e b_81380 hn); have z2 := (Int32.not_le.mp c_81381); rw [Int32.lt_iff_toInt_lt] at z2; omega); have z7 := (B_81383).1; omega) hK9.1)), (by have z9 := (la_add ex_81396 (rfl : y5_4.toInt = y5_4.toInt) (show (1 : Int32).toInt = 1 from rfl) B_81383 (show bn 1 1 (1 : Int32) from bn_k (by decide)) (by decide)); have z8 : y5_4.toInt < (n : Int) := (by have z1 := (cn_e b_81380 hn); have z2 := (Int32.not_le.mp c_81381); rw [Int32.lt_iff_toInt_lt] at z2; omega); omega)⟩ rfl Y (lv_sub hl [2, 3, 4, 1, 0] rfl)
  refine lv_iconst (v := 0) hx hb dX0_workOf_0 (by decide) ?_
  refine lv_istore_n (lv' := [(3, .int 0), (0, .ref (ad 8 0)), (1, .int i1), (2, .int i2)]) hx hb dX0_workOf_1 rfl hl (by decide) rfl (fun ls hl => ?_)
  refine lv_iconst (v := 0) hx hb dX0_workOf_2 (by decide) ?_
  refine lv_istore (lv' := [(4, .int 0), (3, .int 0), (0, .ref (ad 8 0)), (1, .int i1), (2, .int i2)]) hx hb dX0_workOf_3 hl (by decide) rfl (fun ls hl => ?_)
  exact J_5 _ 0 0  _ _ _  (bn_w (show bn 0 0 (0 : Int32) from bn_k (by decide)) (by decide)) ⟨rfl, by show (0 : Int) ≤ n; omega⟩ rfl Y (lv_sub hl [2, 3, 4, 1, 0] rfl)
theorem wo_le {wk du : Nat → Int32} {s n k : Nat} {r d : Int32} (e : r.toInt = wko wk du s d.toInt n) (ed : d = du k) (h : r.toInt ≤ d.toInt) : wko wk du s (du k).toInt n ≤ (du k).toInt := by
  rw [← ed, ← e]; exact h
theorem wo_gt {wk du : Nat → Int32} {s n k : Nat} {r d : Int32} (e : r.toInt = wko wk du s d.toInt n) (ed : d = du k) (h : d.toInt < r.toInt) : ¬ wko wk du s (du k).toInt n ≤ (du k).toInt := by
  rw [← ed, ← e]; omega
set_option maxHeartbeats 4000000 in
set_option maxRecDepth 100000 in
theorem x_X0_isInTimeE {l : Launch} {G : GG}  {L : List Nat} {f : HF} {ad : Nat → Nat → Nat} {rs : FS} {fc : Int × Int} {tc w : Nat → Int × Int} {q : Nat → (Nat → Int32) → Prop} {i1 : Int32} {n : Nat} {u9 : Nat → Int32} (I : SH (spC rs fc tc w q) nnC G ad L f) (hW : WBp w 8) (hT : WBp tc 4) (hQ : QIp q) (b_i1 : bn 0 255 i1) (hn : w 2 = ((n : Int), (n : Int))) (hc : (∀ g, q 2 g → ∀ k, k < 3 * n → g k = u9 k)) (hwb : WBd (cW u9) (cD u9) n) : PMp l yX0_isInTime cX0_isInTime 4 .boolean 2 0 0 G [.ref (ad 8 0), .int i1] L f (fun r => ((r = 1 ∧ itm (cW u9) (cD u9) n i1.toInt.toNat n = true) ∨ (r = 0 ∧ itm (cW u9) (cD u9) n i1.toInt.toNat n = false))) := by
  refine PMi.of (post := fun r L1 f1 => (((r = 1 ∧ itm (cW u9) (cD u9) n i1.toInt.toNat n = true) ∨ (r = 0 ∧ itm (cW u9) (cD u9) n i1.toInt.toNat n = false))) ∧ L1 = L ∧ f1 = f) (own := RX0) (by decide) rfl (Nat.le_of_ble_eq_true rfl) (fun sz p e s m args below meth c A ls hA1 hname S Y hl => ?_)
  have hx := S.hx
  have hb := S.hb
  have hl : lv_has ls 4 [(0, .ref (ad 8 0)), (1, .int i1)] := hl
  have J_2 : ∀ (n2 : Nat) (y2_2 : Int32) (H : Heap) (locs : List Loc) (ls : Array Slot), (bn 0 8 y2_2) → (itm (cW u9) (cD u9) n i1.toInt.toNat y2_2.toInt.toNat = true ∧ y2_2.toInt ≤ (n : Int)) → (((8 : Int) - y2_2.toInt).toNat = n2) → (DY G A s [] L f H locs) → (lv_has ls 4 [(0, .ref (ad 8 0)), (1, .int i1), (2, .int y2_2)]) → W p l e (rmD 2 0 0) s m args below meth c H locs (0) (0) (MQ below (va_Qi (fun r (u : List Nat × HF) => (fun r L1 f1 => (((r = 1 ∧ itm (cW u9) (cD u9) n i1.toInt.toNat n = true) ∨ (r = 0 ∧ itm (cW u9) (cD u9) n i1.toInt.toNat n = false))) ∧ L1 = L ∧ f1 = f) r u.1 u.2) (fun u t => pOut G (va_A (va_pl L f) sz) u.1 u.2 t) (va_A (va_pl L f) sz)) args s 0 0 A) (F0 m 2 ls []) := by
    intro n2
    induction n2 using Nat.strongRecOn with
    | _ n2 ih2 =>
      intro y2_2 H locs ls b_y2_2 hI9 hm2 Y hl
      refine lv_iload_n hx hb dX0_isInTime_2 rfl (lv_at hl 2 rfl) ?_
      refine lv_aload_n hx hb dX0_isInTime_3 rfl (lv_at hl 0 rfl) ?_
      have p_ad_8_0 := opnC_8 (j := 0) I (by decide)
      have p_ad_8_0 : pt L f (ad 8 0) (.inr (0, [.ref (ad 1 0), .ref (ad 60 0), .ref (ad 61 0)])) := p_ad_8_0
      refine pg_get S Y ok_X0 0 (by decide) kf0_18 (v := .ref (ad 1 0)) p_ad_8_0 rfl dX0_isInTime_4 ?_
      obtain ⟨v_81677, v_81679, v_81681, v_81683, v_81685, p_ad_1_0, b_81678, b_81680, b_81682, b_81684, b_81686⟩ := opnC_1 (j := 0) I (by decide)
      have p_ad_1_0 : pt L f (ad 1 0) (.inr (10, [.ref (ad 40 0), .ref (ad 41 0), .ref (ad 42 0), .ref (ad 10 0), .ref (ad 43 0), .ref (ad 20 0), .ref (ad 20 1), .ref (ad 20 2), .ref (ad 20 3), .ref (ad 20 4), .int v_81677, .int v_81679, .int v_81681, .int v_81683, .int v_81685])) := p_ad_1_0
      refine pg_getN S Y ok_X10 7 (by decide) kf0_62 (v := .ref (ad 20 2)) p_ad_1_0 rfl dX0_isInTime_7 ?_
      obtain ⟨v_81687, v_81689, p_ad_20_2, b_81688, b_81690⟩ := opnC_20 (j := 2) I (by decide)
      have p_ad_20_2 : pt L f (ad 20 2) (.inr (9, [.ref (ad 21 2), .int v_81687, .int v_81689])) := p_ad_20_2
      refine pg_getN S Y ok_X9 2 (by decide) kf0_56 (v := .int v_81689) p_ad_20_2 rfl dX0_isInTime_10 ?_
      refine lv_icmp_ge (tgt := 55) hx hb dX0_isInTime_13 (by decide) (fun c_81691 => ?_) (fun c_81691 => ?_)
      · refine lv_iconst (v := 1) hx hb dX0_isInTime_55 (by decide) ?_
        exact prI (post := fun r L1 f1 => (((r = 1 ∧ itm (cW u9) (cD u9) n i1.toInt.toNat n = true) ∨ (r = 0 ∧ itm (cW u9) (cD u9) n i1.toInt.toNat n = false))) ∧ L1 = L ∧ f1 = f) S Y rfl (by decide) (by decide) hA1 ⟨(Or.inl ⟨rfl, by have z1 := (cn_e b_81690 hn); have z2 := c_81691; rw [Int32.le_iff_toInt_le] at z2; have z3 := hI9.2; have z4 := hI9.1; rw [show y2_2.toInt.toNat = n by omega] at z4; exact z4⟩), rfl, rfl⟩ dX0_isInTime_56
      · have B_81692 : bn 1 8 v_81689 := bn_w (bn_gtl c_81691 (bn_w (a' := 0) (b' := 8) b_81690 (hW 2)) b_y2_2) (by decide)
        have B_81693 : bn 0 7 y2_2 := bn_w (bn_gtr c_81691 (bn_w (a' := 0) (b' := 8) b_81690 (hW 2)) b_y2_2) (by decide)
        refine lv_aload_n hx hb dX0_isInTime_16 rfl (lv_at hl 0 rfl) ?_
        refine pg_get S Y ok_X0 0 (by decide) kf0_18 (v := .ref (ad 1 0)) p_ad_8_0 rfl dX0_isInTime_17 ?_
        refine pg_getN S Y ok_X10 7 (by decide) kf0_62 (v := .ref (ad 20 2)) p_ad_1_0 rfl dX0_isInTime_20 ?_
        refine lv_iload_n hx hb dX0_isInTime_23 rfl (lv_at hl 2 rfl) ?_
        refine lv_iconst (v := 1) hx hb dX0_isInTime_24 (by decide) ?_
        refine cVp (As := [.int y2_2, .int 1]) (rest := []) S Y (x_X9_getE (l := l) I hW hT hQ (bn_w B_81693 (by decide)) (bn_w (show bn 1 1 (1 : Int32) from bn_k (by decide)) (by decide)) hn hc (show y2_2.toInt < (n : Int) from (by have z1 := (cn_e b_81690 hn); have z2 := (Int32.not_le.mp c_81691); rw [Int32.lt_iff_toInt_lt] at z2; omega))) cw_X9_get km0_61 p_ad_20_2 ok_X9.1 rfl rfl ⟨Nat.le_of_ble_eq_true rfl, Nat.le_of_ble_eq_true rfl⟩ hl.1 rfl (Nat.le_of_ble_eq_true rfl) ⟨Nat.le_of_ble_eq_true rfl, Nat.le_of_ble_eq_true rfl⟩ dX0_isInTime_25 (fun r_81694 H locs er_81694 Y => ?_)
        refine lv_istore_n (lv' := [(3, .int r_81694), (0, .ref (ad 8 0)), (1, .int i1), (2, .int y2_2)]) hx hb dX0_isInTime_28 rfl hl (by decide) rfl (fun ls hl => ?_)
        refine lv_iload_n hx hb dX0_isInTime_29 rfl (lv_at hl 2 rfl) ?_
        refine lv_iload_n hx hb dX0_isInTime_30 rfl (lv_at hl 3 rfl) ?_
        refine lv_ishr hx hb dX0_isInTime_31 ?_
        refine lv_topi (fun x_81695 ex_81695 => ?_)
        refine lv_iconst (v := 1) hx hb dX0_isInTime_32 (by decide) ?_
        refine lv_iand hx hb dX0_isInTime_33 ?_
        refine lv_topi (fun x_81696 ex_81696 => ?_)
        refine lv_if_eq (tgt := 49) hx hb dX0_isInTime_34 (by decide) (fun c_81697 => ?_) (fun c_81697 => ?_)
        · have B_81698 : bn 0 0 x_81696 := bn_w (bn_eq c_81697 (show bn 0 0 (0 : Int32) from bn_k (by decide))) (by decide)
          obtain ⟨x_81699, ex_81699⟩ : ∃ z : Int32, z = y2_2 + 1 := ⟨_, rfl⟩
          refine lv_iinc (v := x_81699) (lv' := [(2, .int x_81699), (3, .int r_81694), (0, .ref (ad 8 0)), (1, .int i1)]) hx hb dX0_isInTime_49 hl (k := 3) rfl (by rw [ex_81699]; rfl) (by decide) rfl (fun ls hl => ?_)
          refine lv_goto (tgt := 2) hx hb dX0_isInTime_52 (by decide) ?_
          exact ih2 _ (by rw [← hm2]; exact ms_up (m := 1) ex_81699 (show bn 1 1 (1 : Int32) from bn_k (by decide)) B_81693 (bn_w (bn_eq ex_81699 (bn_add B_81693 (show bn 1 1 (1 : Int32) from bn_k (by decide)) (by decide))) (by decide) : bn 0 8 x_81699) (by decide)) x_81699  _ _ _  (bn_w (bn_eq ex_81699 (bn_add B_81693 (show bn 1 1 (1 : Int32) from bn_k (by decide)) (by decide))) (by decide)) ⟨by rw [(show x_81699.toInt.toNat = y2_2.toInt.toNat + 1 from sc_nat (by have z9 := (la_add ex_81699 (rfl : y2_2.toInt = y2_2.toInt) (show (1 : Int32).toInt = 1 from rfl) B_81693 (show bn 1 1 (1 : Int32) from bn_k (by decide)) (by decide)); omega) (B_81693).1)]; exact (itm_s0 hI9.1 (bit_0 (show x_81696 = _ from by rw [ex_81696, ex_81695]; exact has_bit (bn_w b_i1 (by decide)) (bn_w B_81693 (by decide))) c_81697)), (by have z9 := (la_add ex_81699 (rfl : y2_2.toInt = y2_2.toInt) (show (1 : Int32).toInt = 1 from rfl) B_81693 (show bn 1 1 (1 : Int32) from bn_k (by decide)) (by decide)); have z8 : y2_2.toInt < (n : Int) := (by have z1 := (cn_e b_81690 hn); have z2 := (Int32.not_le.mp c_81691); rw [Int32.lt_iff_toInt_lt] at z2; omega); omega)⟩ rfl Y (lv_sub hl [2, 3, 0] rfl)
        · refine lv_aload_n hx hb dX0_isInTime_37 rfl (lv_at hl 1 rfl) ?_
          refine lv_iload_n hx hb dX0_isInTime_38 rfl (lv_at hl 2 rfl) ?_
          refine lv_iload_n hx hb dX0_isInTime_39 rfl (lv_at hl 0 rfl) ?_
          refine cVp (As := [.int i1, .int r_81694]) (rest := []) S Y (x_X0_workOfE (l := l) I hW hT hQ (bn_w b_i1 (by decide)) hn hc hwb) cw_X0_workOf km0_69 p_ad_8_0 ok_X0.1 rfl rfl ⟨Nat.le_of_ble_eq_true rfl, Nat.le_of_ble_eq_true rfl⟩ hl.1 rfl (Nat.le_of_ble_eq_true rfl) ⟨Nat.le_of_ble_eq_true rfl, Nat.le_of_ble_eq_true rfl⟩ dX0_isInTime_40 (fun r_81700 H locs er_81700 Y => ?_)
          refine lv_iload_n hx hb dX0_isInTime_43 rfl (lv_at hl 0 rfl) ?_
          refine lv_icmp_le (tgt := 49) hx hb dX0_isInTime_44 (by decide) (fun c_81701 => ?_) (fun c_81701 => ?_)
          · obtain ⟨x_81704, ex_81704⟩ : ∃ z : Int32, z = y2_2 + 1 := ⟨_, rfl⟩
            refine lv_iinc (v := x_81704) (lv' := [(2, .int x_81704), (3, .int r_81694), (0, .ref (ad 8 0)), (1, .int i1)]) hx hb dX0_isInTime_49 hl (k := 3) rfl (by rw [ex_81704]; rfl) (by decide) rfl (fun ls hl => ?_)
            refine lv_goto (tgt := 2) hx hb dX0_isInTime_52 (by decide) ?_
            exact ih2 _ (by rw [← hm2]; exact ms_up (m := 1) ex_81704 (show bn 1 1 (1 : Int32) from bn_k (by decide)) B_81693 (bn_w (bn_eq ex_81704 (bn_add B_81693 (show bn 1 1 (1 : Int32) from bn_k (by decide)) (by decide))) (by decide) : bn 0 8 x_81704) (by decide)) x_81704  _ _ _  (bn_w (bn_eq ex_81704 (bn_add B_81693 (show bn 1 1 (1 : Int32) from bn_k (by decide)) (by decide))) (by decide)) ⟨by rw [(show x_81704.toInt.toNat = y2_2.toInt.toNat + 1 from sc_nat (by have z9 := (la_add ex_81704 (rfl : y2_2.toInt = y2_2.toInt) (show (1 : Int32).toInt = 1 from rfl) B_81693 (show bn 1 1 (1 : Int32) from bn_k (by decide)) (by decide)); omega) (B_81693).1)]; exact (itm_s1 hI9.1 (wo_le er_81700 (show r_81694 = cD u9 y2_2.toInt.toNat from er_81694) (by have z2 := c_81701; rw [Int32.le_iff_toInt_le] at z2; omega))), (by have z9 := (la_add ex_81704 (rfl : y2_2.toInt = y2_2.toInt) (show (1 : Int32).toInt = 1 from rfl) B_81693 (show bn 1 1 (1 : Int32) from bn_k (by decide)) (by decide)); have z8 : y2_2.toInt < (n : Int) := (by have z1 := (cn_e b_81690 hn); have z2 := (Int32.not_le.mp c_81691); rw [Int32.lt_iff_toInt_lt] at z2; omega); omega)⟩ rfl Y (lv_sub hl [2, 3, 0] rfl)
          · have B_81702 : bn (-2147483647) 2147483647 r_81700 := bn_w (bn_gtl c_81701 (bn_any r_81700) (bn_any r_81694)) (by decide)
            have B_81703 : bn (-2147483648) 2147483646 r_81694 := bn_w (bn_gtr c_81701 (bn_any r_81700) (bn_any r_81694)) (by decide)
            refine lv_iconst (v := 0) hx hb dX0_isInTime_47 (by decide) ?_
            exact prI (post := fun r L1 f1 => (((r = 1 ∧ itm (cW u9) (cD u9) n i1.toInt.toNat n = true) ∨ (r = 0 ∧ itm (cW u9) (cD u9) n i1.toInt.toNat n = false))) ∧ L1 = L ∧ f1 = f) S Y rfl (by decide) (by decide) hA1 ⟨(Or.inr ⟨rfl, itm_no (bit_1 (show x_81696 = _ from by rw [ex_81696, ex_81695]; exact has_bit (bn_w b_i1 (by decide)) (bn_w B_81693 (by decide))) c_81697) (wo_gt er_81700 (show r_81694 = cD u9 y2_2.toInt.toNat from er_81694) (by have z2 := (Int32.not_le.mp c_81701); rw [Int32.lt_iff_toInt_lt] at z2; omega)) (by have z8 : y2_2.toInt < (n : Int) := (by have z1 := (cn_e b_81690 hn); have z2 := (Int32.not_le.mp c_81691); rw [Int32.lt_iff_toInt_lt] at z2; omega); have z7 := (B_81693).1; omega)⟩), rfl, rfl⟩ dX0_isInTime_48
  refine lv_iconst (v := 0) hx hb dX0_isInTime_0 (by decide) ?_
  refine lv_istore_n (lv' := [(2, .int 0), (0, .ref (ad 8 0)), (1, .int i1)]) hx hb dX0_isInTime_1 rfl hl (by decide) rfl (fun ls hl => ?_)
  exact J_2 _ 0  _ _ _  (bn_w (show bn 0 0 (0 : Int32) from bn_k (by decide)) (by decide)) ⟨rfl, by show (0 : Int) ≤ n; omega⟩ rfl Y (lv_sub hl [1, 2, 0] rfl)
theorem mst_b {wk du : Nat → Int32} {n : Nat} {x y : Int32} (h : x.toInt = (mst wk du n y.toInt.toNat : Int) ∧ 1 ≤ y.toInt ∧ y.toInt ≤ ((2 ^ n : Nat) : Int)) (h8 : n ≤ 8) : bn 0 255 x := by
  have p := pow8 h8
  rcases mst_lt (wk := wk) (du := du) (n := n) (m := y.toInt.toNat) with q | q
  · exact ⟨by omega, by omega⟩
  · exact ⟨by omega, by omega⟩
theorem mst_c {wk du : Nat → Int32} {n : Nat} {x y r1 r2 : Int32} (h : x.toInt = (mst wk du n y.toInt.toNat : Int) ∧ 1 ≤ y.toInt ∧ y.toInt ≤ ((2 ^ n : Nat) : Int)) (hx : bn 0 255 x) (hy : bn 0 255 y) (e1 : r1 = bcnt y) (e2 : r2 = bcnt x) : r1.toInt = (pcn y.toInt.toNat : Int) ∧ r2.toInt = (pcn (mst wk du n y.toInt.toNat) : Int) := by
  refine ⟨by rw [e1]; exact bc_pc hy, ?_⟩
  rw [e2, bc_pc hx]
  rw [show x.toInt.toNat = mst wk du n y.toInt.toNat by omega]
theorem ii_no {r : Int32} {b : Bool} (e : (r = 1 ∧ b = true) ∨ (r = 0 ∧ b = false)) (h : r = 0) : ¬ b = true := by
  rcases e with ⟨e1, e2⟩ | ⟨e1, e2⟩
  · rw [h] at e1; exact absurd e1 (by decide)
  · rw [e2]; decide
theorem ii_yes {r : Int32} {b : Bool} (e : (r = 1 ∧ b = true) ∨ (r = 0 ∧ b = false)) (h : ¬ r = 0) : b = true := by
  rcases e with ⟨e1, e2⟩ | ⟨e1, e2⟩
  · exact e2
  · exact absurd e1 h
set_option maxHeartbeats 4000000 in
set_option maxRecDepth 100000 in
theorem x_X0_mostInTimeE {l : Launch} {G : GG}  {L : List Nat} {f : HF} {ad : Nat → Nat → Nat} {rs : FS} {fc : Int × Int} {tc w : Nat → Int × Int} {q : Nat → (Nat → Int32) → Prop} {n : Nat} {u9 : Nat → Int32} (I : SH (spC rs fc tc w q) nnC G ad L f) (hW : WBp w 8) (hT : WBp tc 4) (hQ : QIp q) (hn : w 2 = ((n : Int), (n : Int))) (hc : (∀ g, q 2 g → ∀ k, k < 3 * n → g k = u9 k)) (hwb : WBd (cW u9) (cD u9) n) : PMp l yX0_mostInTime cX0_mostInTime 3 .int 3 0 0 G [.ref (ad 8 0)] L f (fun r => (r.toInt = (mst (cW u9) (cD u9) n (2 ^ n) : Int))) := by
  refine PMi.of (post := fun r L1 f1 => ((r.toInt = (mst (cW u9) (cD u9) n (2 ^ n) : Int))) ∧ L1 = L ∧ f1 = f) (own := RX0) (by decide) rfl (Nat.le_of_ble_eq_true rfl) (fun sz p e s m args below meth c A ls hA1 hname S Y hl => ?_)
  have hx := S.hx
  have hb := S.hb
  have hl : lv_has ls 3 [(0, .ref (ad 8 0))] := hl
  have J_4 : ∀ (n4 : Nat) (y4_1 y4_2 : Int32) (H : Heap) (locs : List Loc) (ls : Array Slot), (bn 0 255 y4_1) → (bn 1 299 y4_2) → (y4_1.toInt = (mst (cW u9) (cD u9) n y4_2.toInt.toNat : Int) ∧ 1 ≤ y4_2.toInt ∧ y4_2.toInt ≤ ((2 ^ n : Nat) : Int)) → (((299 : Int) - y4_2.toInt).toNat = n4) → (DY G A s [] L f H locs) → (lv_has ls 3 [(0, .ref (ad 8 0)), (1, .int y4_1), (2, .int y4_2)]) → W p l e (rmD 3 0 0) s m args below meth c H locs (0) (0) (MQ below (va_Qi (fun r (u : List Nat × HF) => (fun r L1 f1 => ((r.toInt = (mst (cW u9) (cD u9) n (2 ^ n) : Int))) ∧ L1 = L ∧ f1 = f) r u.1 u.2) (fun u t => pOut G (va_A (va_pl L f) sz) u.1 u.2 t) (va_A (va_pl L f) sz)) args s 0 0 A) (F0 m 4 ls []) := by
    intro n4
    induction n4 using Nat.strongRecOn with
    | _ n4 ih4 =>
      intro y4_1 y4_2 H locs ls b_y4_1 b_y4_2 hM9 hm4 Y hl
      refine lv_iload_n hx hb dX0_mostInTime_4 rfl (lv_at hl 2 rfl) ?_
      refine lv_iconst (v := 1) hx hb dX0_mostInTime_5 (by decide) ?_
      refine lv_aload_n hx hb dX0_mostInTime_6 rfl (lv_at hl 0 rfl) ?_
      have p_ad_8_0 := opnC_8 (j := 0) I (by decide)
      have p_ad_8_0 : pt L f (ad 8 0) (.inr (0, [.ref (ad 1 0), .ref (ad 60 0), .ref (ad 61 0)])) := p_ad_8_0
      refine pg_get S Y ok_X0 0 (by decide) kf0_18 (v := .ref (ad 1 0)) p_ad_8_0 rfl dX0_mostInTime_7 ?_
      obtain ⟨v_82815, v_82817, v_82819, v_82821, v_82823, p_ad_1_0, b_82816, b_82818, b_82820, b_82822, b_82824⟩ := opnC_1 (j := 0) I (by decide)
      have p_ad_1_0 : pt L f (ad 1 0) (.inr (10, [.ref (ad 40 0), .ref (ad 41 0), .ref (ad 42 0), .ref (ad 10 0), .ref (ad 43 0), .ref (ad 20 0), .ref (ad 20 1), .ref (ad 20 2), .ref (ad 20 3), .ref (ad 20 4), .int v_82815, .int v_82817, .int v_82819, .int v_82821, .int v_82823])) := p_ad_1_0
      refine pg_getN S Y ok_X10 7 (by decide) kf0_62 (v := .ref (ad 20 2)) p_ad_1_0 rfl dX0_mostInTime_10 ?_
      obtain ⟨v_82825, v_82827, p_ad_20_2, b_82826, b_82828⟩ := opnC_20 (j := 2) I (by decide)
      have p_ad_20_2 : pt L f (ad 20 2) (.inr (9, [.ref (ad 21 2), .int v_82825, .int v_82827])) := p_ad_20_2
      refine pg_getN S Y ok_X9 2 (by decide) kf0_56 (v := .int v_82827) p_ad_20_2 rfl dX0_mostInTime_13 ?_
      refine lv_ishl hx hb dX0_mostInTime_16 ?_
      refine lv_topi (fun x_82829 ex_82829 => ?_)
      refine lv_icmp_ge (tgt := 47) hx hb dX0_mostInTime_17 (by decide) (fun c_82830 => ?_) (fun c_82830 => ?_)
      · refine lv_iload_n hx hb dX0_mostInTime_47 rfl (lv_at hl 1 rfl) ?_
        exact prI (post := fun r L1 f1 => ((r.toInt = (mst (cW u9) (cD u9) n (2 ^ n) : Int))) ∧ L1 = L ∧ f1 = f) S Y rfl (by decide) (by decide) hA1 ⟨(by have z1 := sh_p ex_82829 (cn_e b_82828 hn) hwb.1; have z2 := c_82830; rw [Int32.le_iff_toInt_le] at z2; have z3 := hM9.2.2; have z4 := hM9.1; rw [show y4_2.toInt.toNat = 2 ^ n by omega] at z4; exact z4), rfl, rfl⟩ dX0_mostInTime_48
      · have B_82831 : bn 2 256 x_82829 := bn_w (bn_gtl c_82830 (bn_eq ex_82829 (bn_shl (n := 8) (bn_w (bn_w (a' := 0) (b' := 8) b_82828 (hW 2)) (by decide) : bn 0 8 v_82827) (by decide) (by decide))) b_y4_2) (by decide)
        have B_82832 : bn 1 255 y4_2 := bn_w (bn_gtr c_82830 (bn_eq ex_82829 (bn_shl (n := 8) (bn_w (bn_w (a' := 0) (b' := 8) b_82828 (hW 2)) (by decide) : bn 0 8 v_82827) (by decide) (by decide))) b_y4_2) (by decide)
        refine lv_iload_n hx hb dX0_mostInTime_20 rfl (lv_at hl 2 rfl) ?_
        refine cSp (As := [.int y4_2]) (rest := []) S Y (x_bitCount (l := l) ) cw_X106_bitCount_0f7a4 km0_42 rfl ⟨Nat.le_of_ble_eq_true rfl, Nat.le_of_ble_eq_true rfl⟩ hl.1 rfl (Nat.le_of_ble_eq_true rfl) ⟨Nat.le_of_ble_eq_true rfl, Nat.le_of_ble_eq_true rfl⟩ dX0_mostInTime_21 (fun r_82833 H locs er_82833 Y => ?_)
        refine lv_iload_n hx hb dX0_mostInTime_24 rfl (lv_at hl 1 rfl) ?_
        refine cSp (As := [.int y4_1]) (rest := [.int r_82833]) S Y (x_bitCount (l := l) ) cw_X106_bitCount_0f7a4 km0_42 rfl ⟨Nat.le_of_ble_eq_true rfl, Nat.le_of_ble_eq_true rfl⟩ hl.1 rfl (Nat.le_of_ble_eq_true rfl) ⟨Nat.le_of_ble_eq_true rfl, Nat.le_of_ble_eq_true rfl⟩ dX0_mostInTime_25 (fun r_82834 H locs er_82834 Y => ?_)
        refine lv_icmp_le (tgt := 41) hx hb dX0_mostInTime_28 (by decide) (fun c_82835 => ?_) (fun c_82835 => ?_)
        · obtain ⟨x_82838, ex_82838⟩ : ∃ z : Int32, z = y4_2 + 1 := ⟨_, rfl⟩
          refine lv_iinc (v := x_82838) (lv' := [(2, .int x_82838), (0, .ref (ad 8 0)), (1, .int y4_1)]) hx hb dX0_mostInTime_41 hl (k := 2) rfl (by rw [ex_82838]; rfl) (by decide) rfl (fun ls hl => ?_)
          refine lv_goto (tgt := 4) hx hb dX0_mostInTime_44 (by decide) ?_
          exact ih4 _ (by rw [← hm4]; exact ms_up (m := 1) ex_82838 (show bn 1 1 (1 : Int32) from bn_k (by decide)) B_82832 (bn_w (bn_eq ex_82838 (bn_add B_82832 (show bn 1 1 (1 : Int32) from bn_k (by decide)) (by decide))) (by decide) : bn 1 299 x_82838) (by decide)) y4_1 x_82838  _ _ _  (bn_w b_y4_1 (by decide)) (bn_w (bn_eq ex_82838 (bn_add B_82832 (show bn 1 1 (1 : Int32) from bn_k (by decide)) (by decide))) (by decide)) ⟨by have z3 : (y4_1.toInt.toNat : Int) = (mst (cW u9) (cD u9) n (y4_2.toInt.toNat + 1) : Int) := (mst_s0 (m := y4_1.toInt.toNat) (by have z3 := hM9.1; have z4 := ((mst_b hM9 hwb.1)).1; omega) (fun q => by have z5 := (mst_c hM9 (mst_b hM9 hwb.1) (bn_w B_82832 (by decide)) er_82833 er_82834); have z2 := c_82835; rw [Int32.le_iff_toInt_le] at z2; have z7 := q.1; omega)); rw [(show x_82838.toInt.toNat = y4_2.toInt.toNat + 1 from sc_nat (by have z9 := (la_add ex_82838 (rfl : y4_2.toInt = y4_2.toInt) (show (1 : Int32).toInt = 1 from rfl) B_82832 (show bn 1 1 (1 : Int32) from bn_k (by decide)) (by decide)); omega) (by have z8 := (B_82832).1; omega)), ← z3]; have z4 := (mst_b hM9 hwb.1).1; omega, by have z9 := (la_add ex_82838 (rfl : y4_2.toInt = y4_2.toInt) (show (1 : Int32).toInt = 1 from rfl) B_82832 (show bn 1 1 (1 : Int32) from bn_k (by decide)) (by decide)); have z8 := (B_82832).1; omega, (by have z1 := sh_p ex_82829 (cn_e b_82828 hn) hwb.1; have z2 := (Int32.not_le.mp c_82830); rw [Int32.lt_iff_toInt_lt] at z2; have z9 := (la_add ex_82838 (rfl : y4_2.toInt = y4_2.toInt) (show (1 : Int32).toInt = 1 from rfl) B_82832 (show bn 1 1 (1 : Int32) from bn_k (by decide)) (by decide)); omega)⟩ rfl Y (lv_sub hl [1, 2, 0] rfl)
        · have B_82836 : bn (-2147483647) 2147483647 r_82833 := bn_w (bn_gtl c_82835 (bn_any r_82833) (bn_any r_82834)) (by decide)
          have B_82837 : bn (-2147483648) 2147483646 r_82834 := bn_w (bn_gtr c_82835 (bn_any r_82833) (bn_any r_82834)) (by decide)
          refine lv_aload_n hx hb dX0_mostInTime_31 rfl (lv_at hl 0 rfl) ?_
          refine lv_iload_n hx hb dX0_mostInTime_32 rfl (lv_at hl 2 rfl) ?_
          refine cVp (As := [.int y4_2]) (rest := []) S Y (x_X0_isInTimeE (l := l) I hW hT hQ (bn_w B_82832 (by decide)) hn hc hwb) cw_X0_isInTime km0_65 p_ad_8_0 ok_X0.1 rfl rfl ⟨Nat.le_of_ble_eq_true rfl, Nat.le_of_ble_eq_true rfl⟩ hl.1 rfl (Nat.le_of_ble_eq_true rfl) ⟨Nat.le_of_ble_eq_true rfl, Nat.le_of_ble_eq_true rfl⟩ dX0_mostInTime_33 (fun r_82839 H locs er_82839 Y => ?_)
          have br_82839 : bn 0 1 r_82839 := by rcases er_82839 with ⟨z, _⟩ | ⟨z, _⟩ <;> (rw [z]; exact bn_k (by decide))
          refine lv_if_eq (tgt := 41) hx hb dX0_mostInTime_36 (by decide) (fun c_82840 => ?_) (fun c_82840 => ?_)
          · have B_82841 : bn 0 0 r_82839 := bn_w (bn_eq c_82840 (show bn 0 0 (0 : Int32) from bn_k (by decide))) (by decide)
            obtain ⟨x_82843, ex_82843⟩ : ∃ z : Int32, z = y4_2 + 1 := ⟨_, rfl⟩
            refine lv_iinc (v := x_82843) (lv' := [(2, .int x_82843), (0, .ref (ad 8 0)), (1, .int y4_1)]) hx hb dX0_mostInTime_41 hl (k := 2) rfl (by rw [ex_82843]; rfl) (by decide) rfl (fun ls hl => ?_)
            refine lv_goto (tgt := 4) hx hb dX0_mostInTime_44 (by decide) ?_
            exact ih4 _ (by rw [← hm4]; exact ms_up (m := 1) ex_82843 (show bn 1 1 (1 : Int32) from bn_k (by decide)) B_82832 (bn_w (bn_eq ex_82843 (bn_add B_82832 (show bn 1 1 (1 : Int32) from bn_k (by decide)) (by decide))) (by decide) : bn 1 299 x_82843) (by decide)) y4_1 x_82843  _ _ _  (bn_w b_y4_1 (by decide)) (bn_w (bn_eq ex_82843 (bn_add B_82832 (show bn 1 1 (1 : Int32) from bn_k (by decide)) (by decide))) (by decide)) ⟨by have z3 : (y4_1.toInt.toNat : Int) = (mst (cW u9) (cD u9) n (y4_2.toInt.toNat + 1) : Int) := (mst_s0 (m := y4_1.toInt.toNat) (by have z3 := hM9.1; have z4 := (mst_b hM9 hwb.1).1; omega) (fun q => ii_no er_82839 c_82840 q.2)); rw [(show x_82843.toInt.toNat = y4_2.toInt.toNat + 1 from sc_nat (by have z9 := (la_add ex_82843 (rfl : y4_2.toInt = y4_2.toInt) (show (1 : Int32).toInt = 1 from rfl) B_82832 (show bn 1 1 (1 : Int32) from bn_k (by decide)) (by decide)); omega) (by have z8 := (B_82832).1; omega)), ← z3]; have z4 := (mst_b hM9 hwb.1).1; omega, by have z9 := (la_add ex_82843 (rfl : y4_2.toInt = y4_2.toInt) (show (1 : Int32).toInt = 1 from rfl) B_82832 (show bn 1 1 (1 : Int32) from bn_k (by decide)) (by decide)); have z8 := (B_82832).1; omega, (by have z1 := sh_p ex_82829 (cn_e b_82828 hn) hwb.1; have z2 := (Int32.not_le.mp c_82830); rw [Int32.lt_iff_toInt_lt] at z2; have z9 := (la_add ex_82843 (rfl : y4_2.toInt = y4_2.toInt) (show (1 : Int32).toInt = 1 from rfl) B_82832 (show bn 1 1 (1 : Int32) from bn_k (by decide)) (by decide)); omega)⟩ rfl Y (lv_sub hl [1, 2, 0] rfl)
          · have B_82842 : bn 1 1 r_82839 := bn_w (bn_nel c_82840 br_82839 (show bn 0 0 (0 : Int32) from bn_k (by decide))) (by decide)
            refine lv_iload_n hx hb dX0_mostInTime_39 rfl (lv_at hl 2 rfl) ?_
            refine lv_istore_n (lv' := [(1, .int y4_2), (0, .ref (ad 8 0)), (2, .int y4_2)]) hx hb dX0_mostInTime_40 rfl hl (by decide) rfl (fun ls hl => ?_)
            obtain ⟨x_82844, ex_82844⟩ : ∃ z : Int32, z = y4_2 + 1 := ⟨_, rfl⟩
            refine lv_iinc (v := x_82844) (lv' := [(2, .int x_82844), (1, .int y4_2), (0, .ref (ad 8 0))]) hx hb dX0_mostInTime_41 hl (k := 2) rfl (by rw [ex_82844]; rfl) (by decide) rfl (fun ls hl => ?_)
            refine lv_goto (tgt := 4) hx hb dX0_mostInTime_44 (by decide) ?_
            exact ih4 _ (by rw [← hm4]; exact ms_up (m := 1) ex_82844 (show bn 1 1 (1 : Int32) from bn_k (by decide)) B_82832 (bn_w (bn_eq ex_82844 (bn_add B_82832 (show bn 1 1 (1 : Int32) from bn_k (by decide)) (by decide))) (by decide) : bn 1 299 x_82844) (by decide)) y4_2 x_82844  _ _ _  (bn_w B_82832 (by decide)) (bn_w (bn_eq ex_82844 (bn_add B_82832 (show bn 1 1 (1 : Int32) from bn_k (by decide)) (by decide))) (by decide)) ⟨by have z3 : (y4_2.toInt.toNat : Int) = (mst (cW u9) (cD u9) n (y4_2.toInt.toNat + 1) : Int) := (mst_s1 (by have z5 := (mst_c hM9 (mst_b hM9 hwb.1) (bn_w B_82832 (by decide)) er_82833 er_82834); have z2 := (Int32.not_le.mp c_82835); rw [Int32.lt_iff_toInt_lt] at z2; omega) (ii_yes er_82839 c_82840)); rw [(show x_82844.toInt.toNat = y4_2.toInt.toNat + 1 from sc_nat (by have z9 := (la_add ex_82844 (rfl : y4_2.toInt = y4_2.toInt) (show (1 : Int32).toInt = 1 from rfl) B_82832 (show bn 1 1 (1 : Int32) from bn_k (by decide)) (by decide)); omega) (by have z8 := (B_82832).1; omega)), ← z3]; have z4 := (B_82832).1; omega, by have z9 := (la_add ex_82844 (rfl : y4_2.toInt = y4_2.toInt) (show (1 : Int32).toInt = 1 from rfl) B_82832 (show bn 1 1 (1 : Int32) from bn_k (by decide)) (by decide)); have z8 := (B_82832).1; omega, (by have z1 := sh_p ex_82829 (cn_e b_82828 hn) hwb.1; have z2 := (Int32.not_le.mp c_82830); rw [Int32.lt_iff_toInt_lt] at z2; have z9 := (la_add ex_82844 (rfl : y4_2.toInt = y4_2.toInt) (show (1 : Int32).toInt = 1 from rfl) B_82832 (show bn 1 1 (1 : Int32) from bn_k (by decide)) (by decide)); omega)⟩ rfl Y (lv_sub hl [2, 1, 0] rfl)
  refine lv_iconst (v := 0) hx hb dX0_mostInTime_0 (by decide) ?_
  refine lv_istore_n (lv' := [(1, .int 0), (0, .ref (ad 8 0))]) hx hb dX0_mostInTime_1 rfl hl (by decide) rfl (fun ls hl => ?_)
  refine lv_iconst (v := 1) hx hb dX0_mostInTime_2 (by decide) ?_
  refine lv_istore_n (lv' := [(2, .int 1), (1, .int 0), (0, .ref (ad 8 0))]) hx hb dX0_mostInTime_3 rfl hl (by decide) rfl (fun ls hl => ?_)
  exact J_4 _ 0 1  _ _ _  (bn_w (show bn 0 0 (0 : Int32) from bn_k (by decide)) (by decide)) (bn_w (show bn 1 1 (1 : Int32) from bn_k (by decide)) (by decide)) ⟨by rw [show (1 : Int32).toInt.toNat = 1 from rfl, mst_1]; rfl, by decide, by have := Nat.one_le_two_pow (n := n); show (1 : Int) ≤ _; omega⟩ rfl Y (lv_sub hl [2, 1, 0] rfl)
theorem mst_r {wk du : Nat → Int32} {n : Nat} {x : Int32} (h : x.toInt = (mst wk du n (2 ^ n) : Int)) (h8 : n ≤ 8) : bn 0 255 x := by
  have p := pow8 h8
  rcases mst_lt (wk := wk) (du := du) (n := n) (m := 2 ^ n) with q | q
  · exact ⟨by omega, by omega⟩
  · exact ⟨by omega, by omega⟩
set_option maxHeartbeats 4000000 in
set_option maxRecDepth 100000 in
theorem x_X11_inTimeE {l : Launch} {G : GG}  {L : List Nat} {f : HF} {ad : Nat → Nat → Nat} {tc w : Nat → Int × Int} {q : Nat → (Nat → Int32) → Prop} {i1 : Int32} {n : Nat} {u9 : Nat → Int32} (I : SH (spC (NR 30 0 4) ((0, 6) : Int × Int) tc w q) nnC G ad L f) (hW : WBp w 8) (hT : WBp tc 4) (hQ : QIp q) (hn : w 2 = ((n : Int), (n : Int))) (hc : (∀ g, q 2 g → ∀ k, k < 3 * n → g k = u9 k)) (hwb : WBd (cW u9) (cD u9) n) : PMp l yX11_inTime cX11_inTime 3 .int 4 0 0 G [.ref (ad 0 0), .int i1] L f (fun r => (r.toInt = inT (cW u9) (cD u9) n i1)) := by
  refine PMi.of (post := fun r L1 f1 => ((r.toInt = inT (cW u9) (cD u9) n i1)) ∧ L1 = L ∧ f1 = f) (own := RX11) (by decide) rfl (Nat.le_of_ble_eq_true rfl) (fun sz p e s m args below meth c A ls hA1 hname S Y hl => ?_)
  have hx := S.hx
  have hb := S.hb
  have hl : lv_has ls 3 [(0, .ref (ad 0 0)), (1, .int i1)] := hl
  refine lv_iload_n hx hb dX11_inTime_0 rfl (lv_at hl 1 rfl) ?_
  refine lv_iconst (v := 0) hx hb dX11_inTime_1 (by decide) ?_
  refine lv_iconst (v := 2) hx hb dX11_inTime_2 (by decide) ?_
  refine cSp (As := [.int i1, .int 0, .int 2]) (rest := []) S Y (x_X11_withinX (l := l) ) cw_X11_within km11_146 rfl ⟨Nat.le_of_ble_eq_true rfl, Nat.le_of_ble_eq_true rfl⟩ hl.1 rfl (Nat.le_of_ble_eq_true rfl) ⟨Nat.le_of_ble_eq_true rfl, Nat.le_of_ble_eq_true rfl⟩ dX11_inTime_3 (fun r_82865 H locs er_82865 Y => ?_)
  refine lv_if_ne (tgt := 11) hx hb dX11_inTime_6 (by decide) (fun c_82866 => ?_) (fun c_82866 => ?_)
  · refine lv_aload_n hx hb dX11_inTime_11 rfl (lv_at hl 0 rfl) ?_
    have p_ad_0_0 := opnC_0 (j := 0) I (by decide)
    have p_ad_0_0 : pt L f (ad 0 0) (.inr (11, [.ref (ad 1 0), .ref (ad 1 1), .ref (ad 2 0), .ref (ad 3 0), .ref (ad 4 0), .ref (ad 5 0), .ref (ad 6 0), .ref (ad 7 0), .ref (ad 8 0)])) := p_ad_0_0
    refine pg_get S Y ok_X11 8 (by decide) kf11_75 (v := .ref (ad 8 0)) p_ad_0_0 rfl dX11_inTime_12 ?_
    refine cVp (As := []) (rest := []) S Y (x_X0_mostInTimeE (l := l) I hW hT hQ hn hc hwb) cw_X0_mostInTime km11_296 (I.opo (k := 8) (j := 0) (by decide) rfl).choose_spec.1 ok_X0.1 rfl rfl ⟨Nat.le_of_ble_eq_true rfl, Nat.le_of_ble_eq_true rfl⟩ hl.1 rfl (Nat.le_of_ble_eq_true rfl) ⟨Nat.le_of_ble_eq_true rfl, Nat.le_of_ble_eq_true rfl⟩ dX11_inTime_15 (fun r_82868 H locs er_82868 Y => ?_)
    have br_82868 : bn 0 255 r_82868 := mst_r er_82868 hwb.1
    refine lv_istore_n (lv' := [(2, .int r_82868), (0, .ref (ad 0 0)), (1, .int i1)]) hx hb dX11_inTime_18 rfl hl (by decide) rfl (fun ls hl => ?_)
    refine lv_iload_n hx hb dX11_inTime_19 rfl (lv_at hl 2 rfl) ?_
    refine lv_if_ne (tgt := 28) hx hb dX11_inTime_20 (by decide) (fun c_82869 => ?_) (fun c_82869 => ?_)
    · refine lv_iload_n hx hb dX11_inTime_28 rfl (lv_at hl 2 rfl) ?_
      refine lv_iconst (v := 1) hx hb dX11_inTime_29 (by decide) ?_
      refine lv_icmp_ne (tgt := 37) hx hb dX11_inTime_30 (by decide) (fun c_82871 => ?_) (fun c_82871 => ?_)
      · refine lv_aload_n hx hb dX11_inTime_37 rfl (lv_at hl 1 rfl) ?_
        refine pg_get S Y ok_X11 8 (by decide) kf11_75 (v := .ref (ad 8 0)) p_ad_0_0 rfl dX11_inTime_38 ?_
        refine lv_iload_n hx hb dX11_inTime_41 rfl (lv_at hl 0 rfl) ?_
        refine lv_sipush (v := 999) hx hb dX11_inTime_42 (by decide) ?_
        refine cVp (As := [.int r_82868, .int 999]) (rest := []) S Y (x_X0_workOfE (l := l) I hW hT hQ (bn_w br_82868 (by decide)) hn hc hwb) cw_X0_workOf km11_304 (I.opo (k := 8) (j := 0) (by decide) rfl).choose_spec.1 ok_X0.1 rfl rfl ⟨Nat.le_of_ble_eq_true rfl, Nat.le_of_ble_eq_true rfl⟩ hl.1 rfl (Nat.le_of_ble_eq_true rfl) ⟨Nat.le_of_ble_eq_true rfl, Nat.le_of_ble_eq_true rfl⟩ dX11_inTime_45 (fun r_82873 H locs er_82873 Y => ?_)
        exact prI (post := fun r L1 f1 => ((r.toInt = inT (cW u9) (cD u9) n i1)) ∧ L1 = L ∧ f1 = f) S Y rfl (by decide) (by decide) hA1 ⟨(inT_2 (inT_w (win_t er_82865 c_82866) c_82869 c_82871) er_82868 er_82873), rfl, rfl⟩ dX11_inTime_48
      · have B_82872 : bn 1 1 i1 := bn_w (bn_eq c_82871 (show bn 1 1 (1 : Int32) from bn_k (by decide))) (by decide)
        refine lv_iload_n hx hb dX11_inTime_33 rfl (lv_at hl 0 rfl) ?_
        refine lv_goto (tgt := 48) hx hb dX11_inTime_34 (by decide) ?_
        exact prI (post := fun r L1 f1 => ((r.toInt = inT (cW u9) (cD u9) n i1)) ∧ L1 = L ∧ f1 = f) S Y rfl (by decide) (by decide) hA1 ⟨(inT_1 (by rw [c_82871]; rfl) er_82868), rfl, rfl⟩ dX11_inTime_48
    · have B_82870 : bn 0 0 i1 := bn_w (bn_eq c_82869 (show bn 0 0 (0 : Int32) from bn_k (by decide))) (by decide)
      refine lv_iload_n hx hb dX11_inTime_23 rfl (lv_at hl 0 rfl) ?_
      refine cSp (As := [.int r_82868]) (rest := []) S Y (x_bitCount (l := l) ) cw_X106_bitCount_0f7a4 km11_299 rfl ⟨Nat.le_of_ble_eq_true rfl, Nat.le_of_ble_eq_true rfl⟩ hl.1 rfl (Nat.le_of_ble_eq_true rfl) ⟨Nat.le_of_ble_eq_true rfl, Nat.le_of_ble_eq_true rfl⟩ dX11_inTime_24 (fun r_82874 H locs er_82874 Y => ?_)
      exact prI (post := fun r L1 f1 => ((r.toInt = inT (cW u9) (cD u9) n i1)) ∧ L1 = L ∧ f1 = f) S Y rfl (by decide) (by decide) hA1 ⟨(inT_0 (by rw [c_82869]; rfl) er_82868 (by rw [er_82874]; exact bc_pc br_82868)), rfl, rfl⟩ dX11_inTime_27
  · have B_82867 : bn 0 0 r_82865 := bn_w (bn_eq c_82866 (show bn 0 0 (0 : Int32) from bn_k (by decide))) (by decide)
    refine lv_iconst (v := (-1)) hx hb dX11_inTime_9 (by decide) ?_
    exact prI (post := fun r L1 f1 => ((r.toInt = inT (cW u9) (cD u9) n i1)) ∧ L1 = L ∧ f1 = f) S Y rfl (by decide) (by decide) hA1 ⟨(inT_n (win_f er_82865 c_82866)), rfl, rfl⟩ dX11_inTime_10
