section MWS
variable {wk du : Nat → Int32} {s n k : Nat} {d : Int} {x y r l : Int32} {w : WW} {s1 pl oh dh : Int} {g : Nat → Int32}
def mW (c : Nat → Int32) (k : Nat) : Int32 := c (160 + 2 * k)
def mD (c : Nat → Int32) (k : Nat) : Int32 := c (161 + 2 * k)
theorem hs_1 {p : Prop} [Decidable p] (e : x = if p then 1 else 0) (h : x = 1) : (1 : Int32) = if p then 1 else 0 := h.symm.trans e
theorem hs_0 {p : Prop} [Decidable p] (e : x = if p then 1 else 0) (h : ¬ x = 1) : (0 : Int32) = if p then 1 else 0 := by
  by_cases q : p
  · rw [if_pos q] at e; exact absurd e h
  · rw [if_neg q]
theorem bits_b {a : Int} {b : Nat} (h : (a + (pcn l.toInt.toNat : Int) = (b : Int)) ∧ bn 0 255 l) : bn 0 255 l := h.2
theorem bits_s {b : Nat} {x2 l2 : Int32} (h : (x.toInt + (pcn l.toInt.toNat : Int) = (b : Int)) ∧ bn 0 255 l) (h8 : b ≤ 8) (hl : bn 1 255 l) (ex : x2 = x + 1) (el : l2 = l &&& (l - 1)) (h0 : 0 ≤ x.toInt) : ((x2.toInt + (pcn l2.toInt.toNat : Int) = (b : Int)) ∧ bn 0 255 l2) ∧ pcn l2.toInt.toNat < pcn l.toInt.toNat ∧ 0 ≤ x2.toInt := by
  have a := low_bit hl
  rw [← el] at a
  have e : x2.toInt = x.toInt + 1 := by
    rw [ex]
    exact ti_add (by have z : (1 : Int32).toInt = 1 := rfl; omega) (by have z : (1 : Int32).toInt = 1 := rfl; omega)
  exact ⟨⟨by omega, a.2⟩, by omega, by omega⟩
theorem wd_at (h : IA s1 pl oh dh w g) {i : Int32} (ev : x = g i.toNatClampNeg) (hi : i.toInt.toNat = k) (hk : 160 ≤ k ∧ k < 176) : x = w.2 k := by
  rw [ev, tncW, hi]
  exact IA_wd h k hk.1 hk.2
end MWS
set_option maxHeartbeats 4000000 in
set_option maxRecDepth 100000 in
theorem x_X12_hasE {l : Launch} {G : GG}  {L : List Nat} {f : HF}  {i1 i2 : Int32} (b_i1 : bn 0 255 i1) (b_i2 : bn 0 7 i2) : PMp l yX12_has cX12_has 2 .boolean 0 0 0 G [.int i1, .int i2] L f (fun r => (bn 0 1 r ∧ r = (if i1.toInt.toNat.testBit i2.toInt.toNat = true then 1 else 0))) := by
  refine PMi.of (post := fun r L1 f1 => ((bn 0 1 r ∧ r = (if i1.toInt.toNat.testBit i2.toInt.toNat = true then 1 else 0))) ∧ L1 = L ∧ f1 = f) (own := RX12) (by decide) rfl (Nat.le_of_ble_eq_true rfl) (fun sz p e s m args below meth c A ls hA1 hname S Y hl => ?_)
  have hx := S.hx
  have hb := S.hb
  have hl : lv_has ls 2 [(0, .int i1), (1, .int i2)] := hl
  refine lv_iload_n hx hb dX12_has_0 rfl (lv_at hl 0 rfl) ?_
  refine lv_iload_n hx hb dX12_has_1 rfl (lv_at hl 1 rfl) ?_
  refine lv_ishr hx hb dX12_has_2 ?_
  refine lv_topi (fun x_90766 ex_90766 => ?_)
  refine lv_iconst (v := 1) hx hb dX12_has_3 (by decide) ?_
  refine lv_iand hx hb dX12_has_4 ?_
  refine lv_topi (fun x_90767 ex_90767 => ?_)
  refine lv_iconst (v := 1) hx hb dX12_has_5 (by decide) ?_
  refine lv_icmp_ne (tgt := 13) hx hb dX12_has_6 (by decide) (fun c_90768 => ?_) (fun c_90768 => ?_)
  · refine lv_iconst (v := 0) hx hb dX12_has_13 (by decide) ?_
    exact prI (post := fun r L1 f1 => ((bn 0 1 r ∧ r = (if i1.toInt.toNat.testBit i2.toInt.toNat = true then 1 else 0))) ∧ L1 = L ∧ f1 = f) S Y rfl (by decide) (by decide) hA1 ⟨⟨bn_k (by decide), hs_0 (show x_90767 = _ from by rw [ex_90767, ex_90766]; exact has_bit b_i1 b_i2) c_90768⟩, rfl, rfl⟩ dX12_has_14
  · have B_90769 : bn 1 1 x_90767 := bn_w (bn_eq c_90768 (show bn 1 1 (1 : Int32) from bn_k (by decide))) (by decide)
    refine lv_iconst (v := 1) hx hb dX12_has_9 (by decide) ?_
    refine lv_goto (tgt := 14) hx hb dX12_has_10 (by decide) ?_
    exact prI (post := fun r L1 f1 => ((bn 0 1 r ∧ r = (if i1.toInt.toNat.testBit i2.toInt.toNat = true then 1 else 0))) ∧ L1 = L ∧ f1 = f) S Y rfl (by decide) (by decide) hA1 ⟨⟨bn_k (by decide), hs_1 (show x_90767 = _ from by rw [ex_90767, ex_90766]; exact has_bit b_i1 b_i2) c_90768⟩, rfl, rfl⟩ dX12_has_14
theorem bits_b2 {x l : Int32} {b : Nat} (h : ((x.toInt + (pcn l.toInt.toNat : Int) = (b : Int)) ∧ bn 0 255 l) ∧ 0 ≤ x.toInt) : bn 0 255 l := h.1.2
set_option maxHeartbeats 4000000 in
set_option maxRecDepth 100000 in
theorem x_X12_bitsE {l : Launch} {G : GG}  {L : List Nat} {f : HF}  {i1 : Int32} (b_i1 : bn 0 255 i1) : PMp l yX12_bits cX12_bits 3 .int 0 0 0 G [.int i1] L f (fun r => (r.toInt = (pcn i1.toInt.toNat : Int))) := by
  refine PMi.of (post := fun r L1 f1 => ((r.toInt = (pcn i1.toInt.toNat : Int))) ∧ L1 = L ∧ f1 = f) (own := RX12) (by decide) rfl (Nat.le_of_ble_eq_true rfl) (fun sz p e s m args below meth c A ls hA1 hname S Y hl => ?_)
  have hx := S.hx
  have hb := S.hb
  have hl : lv_has ls 3 [(0, .int i1)] := hl
  have J_4 : ∀ (n4 : Nat) (y4_1 y4_2 : Int32) (H : Heap) (locs : List Loc) (ls : Array Slot), (bn 0 255 y4_2) → (((y4_1.toInt + (pcn y4_2.toInt.toNat : Int) = (pcn i1.toInt.toNat : Int)) ∧ bn 0 255 y4_2) ∧ 0 ≤ y4_1.toInt) → (pcn y4_2.toInt.toNat = n4) → (DY G A s [] L f H locs) → (lv_has ls 3 [(0, .int i1), (1, .int y4_1), (2, .int y4_2)]) → W p l e (rmD 0 0 0) s m args below meth c H locs (0) (0) (MQ below (va_Qi (fun r (u : List Nat × HF) => (fun r L1 f1 => ((r.toInt = (pcn i1.toInt.toNat : Int))) ∧ L1 = L ∧ f1 = f) r u.1 u.2) (fun u t => pOut G (va_A (va_pl L f) sz) u.1 u.2 t) (va_A (va_pl L f) sz)) args s 0 0 A) (F0 m 4 ls []) := by
    intro n4
    induction n4 using Nat.strongRecOn with
    | _ n4 ih4 =>
      intro y4_1 y4_2 H locs ls b_y4_2 hB9 hm4 Y hl
      refine lv_iload_n hx hb dX12_bits_4 rfl (lv_at hl 2 rfl) ?_
      refine lv_if_eq (tgt := 20) hx hb dX12_bits_5 (by decide) (fun c_91130 => ?_) (fun c_91130 => ?_)
      · have B_91131 : bn 0 0 y4_2 := bn_w (bn_eq c_91130 (show bn 0 0 (0 : Int32) from bn_k (by decide))) (by decide)
        refine lv_iload_n hx hb dX12_bits_20 rfl (lv_at hl 1 rfl) ?_
        exact prI (post := fun r L1 f1 => ((r.toInt = (pcn i1.toInt.toNat : Int))) ∧ L1 = L ∧ f1 = f) S Y rfl (by decide) (by decide) hA1 ⟨(by have z1 := hB9.1.1; rw [c_91130, show pcn ((0 : Int32).toInt.toNat) = 0 from by decide] at z1; omega), rfl, rfl⟩ dX12_bits_21
      · have B_91132 : bn 1 255 y4_2 := bn_w (bn_nel c_91130 b_y4_2 (show bn 0 0 (0 : Int32) from bn_k (by decide))) (by decide)
        obtain ⟨x_91133, ex_91133⟩ : ∃ z : Int32, z = y4_1 + 1 := ⟨_, rfl⟩
        refine lv_iinc (v := x_91133) (lv' := [(1, .int x_91133), (0, .int i1), (2, .int y4_2)]) hx hb dX12_bits_8 hl (k := 1) rfl (by rw [ex_91133]; rfl) (by decide) rfl (fun ls hl => ?_)
        refine lv_iload_n hx hb dX12_bits_11 rfl (lv_at hl 2 rfl) ?_
        refine lv_iload_n hx hb dX12_bits_12 rfl (lv_at hl 2 rfl) ?_
        refine lv_iconst (v := 1) hx hb dX12_bits_13 (by decide) ?_
        refine lv_isub hx hb dX12_bits_14 ?_
        refine lv_topi (fun x_91134 ex_91134 => ?_)
        refine lv_iand hx hb dX12_bits_15 ?_
        refine lv_topi (fun x_91135 ex_91135 => ?_)
        refine lv_istore_n (lv' := [(2, .int x_91135), (1, .int x_91133), (0, .int i1)]) hx hb dX12_bits_16 rfl hl (by decide) rfl (fun ls hl => ?_)
        refine lv_goto (tgt := 4) hx hb dX12_bits_17 (by decide) ?_
        have p_91136 := bits_s hB9.1 pcn_le (bn_w B_91132 (by decide)) ex_91133 (show x_91135 = y4_2 &&& (y4_2 - 1) from by rw [ex_91135, ex_91134]) hB9.2
        exact ih4 _ (by rw [← hm4]; exact (bits_s hB9.1 pcn_le (bn_w B_91132 (by decide)) ex_91133 (show x_91135 = y4_2 &&& (y4_2 - 1) from by rw [ex_91135, ex_91134]) hB9.2).2.1) x_91133 x_91135  _ _ _  (bits_b2 ⟨p_91136.1, p_91136.2.2⟩) ⟨p_91136.1, p_91136.2.2⟩ rfl Y (lv_sub hl [2, 1, 0] rfl)
  refine lv_iconst (v := 0) hx hb dX12_bits_0 (by decide) ?_
  refine lv_istore_n (lv' := [(1, .int 0), (0, .int i1)]) hx hb dX12_bits_1 rfl hl (by decide) rfl (fun ls hl => ?_)
  refine lv_iload_n hx hb dX12_bits_2 rfl (lv_at hl 1 rfl) ?_
  refine lv_istore_n (lv' := [(2, .int i1), (1, .int 0), (0, .int i1)]) hx hb dX12_bits_3 rfl hl (by decide) rfl (fun ls hl => ?_)
  exact J_4 _ 0 i1  _ _ _  (bits_b2 (show (((0 : Int32).toInt + (pcn i1.toInt.toNat : Int) = (pcn i1.toInt.toNat : Int)) ∧ bn 0 255 i1) ∧ 0 ≤ (0 : Int32).toInt from ⟨⟨by rw [show (0 : Int32).toInt = 0 from rfl]; omega, b_i1⟩, by decide⟩)) (show (((0 : Int32).toInt + (pcn i1.toInt.toNat : Int) = (pcn i1.toInt.toNat : Int)) ∧ bn 0 255 i1) ∧ 0 ≤ (0 : Int32).toInt from ⟨⟨by rw [show (0 : Int32).toInt = 0 from rfl]; omega, b_i1⟩, by decide⟩) rfl Y (lv_sub hl [2, 1, 0] rfl)
set_option maxHeartbeats 4000000 in
set_option maxRecDepth 100000 in
theorem x_X12_workOfE {l : Launch} {G : GG}  {L : List Nat} {f : HF} {ad : Nat → Nat → Nat} {w : WW} {pi : (Nat → Int32) → Prop} {g0 : Nat → Int32} {i1 : Int32} {n : Nat} (I : SH (spM (IA 0 0 14 9999 w) pi (EQ g0) LDa) nnM G ad L f) (hB : BBp 0 0 14 9999 w) (hX : TX g0) (b_i1 : bn 0 255 i1) (hn : w.1 = ((n : Int), (n : Int))) (hwb : WBd (mW w.2) (mD w.2) n) : PMp l yX12_workOf cX12_workOf 4 .int 1 0 0 G [.ref (ad 0 0), .int i1] L f (fun r => (r.toInt = wko (mW w.2) (mD w.2) i1.toInt.toNat 999 n)) := by
  refine PMi.of (post := fun r L1 f1 => ((r.toInt = wko (mW w.2) (mD w.2) i1.toInt.toNat 999 n)) ∧ L1 = L ∧ f1 = f) (own := RX12) (by decide) rfl (Nat.le_of_ble_eq_true rfl) (fun sz p e s m args below meth c A ls hA1 hname S Y hl => ?_)
  have hx := S.hx
  have hb := S.hb
  have hl : lv_has ls 4 [(0, .ref (ad 0 0)), (1, .int i1)] := hl
  have J_4 : ∀ (n4 : Nat) (y4_2 y4_3 : Int32) (H : Heap) (locs : List Loc) (ls : Array Slot), (bn 0 8 y4_3) → (y4_2.toInt = wko (mW w.2) (mD w.2) i1.toInt.toNat 999 y4_3.toInt.toNat ∧ y4_3.toInt ≤ (n : Int)) → (((8 : Int) - y4_3.toInt).toNat = n4) → (DY G A s [] L f H locs) → (lv_has ls 4 [(0, .ref (ad 0 0)), (1, .int i1), (2, .int y4_2), (3, .int y4_3)]) → W p l e (rmD 1 0 0) s m args below meth c H locs (0) (0) (MQ below (va_Qi (fun r (u : List Nat × HF) => (fun r L1 f1 => ((r.toInt = wko (mW w.2) (mD w.2) i1.toInt.toNat 999 n)) ∧ L1 = L ∧ f1 = f) r u.1 u.2) (fun u t => pOut G (va_A (va_pl L f) sz) u.1 u.2 t) (va_A (va_pl L f) sz)) args s 0 0 A) (F0 m 4 ls []) := by
    intro n4
    induction n4 using Nat.strongRecOn with
    | _ n4 ih4 =>
      intro y4_2 y4_3 H locs ls b_y4_3 hK9 hm4 Y hl
      refine lv_iload_n hx hb dX12_workOf_4 rfl (lv_at hl 3 rfl) ?_
      refine lv_aload_n hx hb dX12_workOf_5 rfl (lv_at hl 0 rfl) ?_
      obtain ⟨v_91657, v_91659, v_91661, v_91663, v_91665, v_91667, v_91669, v_91671, v_91672, v_91674, v_91676, v_91678, v_91680, v_91682, v_91684, v_91686, v_91688, v_91690, p_ad_0_0, b_91658, b_91660, b_91662, b_91664, b_91666, b_91668, b_91670, b_91673, b_91675, b_91677, b_91679, b_91681, b_91683, b_91685, b_91687, b_91689, b_91691⟩ := opnM_0 (j := 0) I (by decide)
      have p_ad_0_0 : pt L f (ad 0 0) (.inr (12, [.ref (ad 1 0), .ref (ad 2 0), .ref (ad 3 0), .ref (ad 4 0), .int v_91657, .int v_91659, .int v_91661, .int v_91663, .int v_91665, .int v_91667, .int v_91669, .long v_91671, .int v_91672, .int v_91674, .int v_91676, .ref (ad 5 0), .ref (ad 6 0), .int v_91678, .int v_91680, .int v_91682, .int v_91684, .int v_91686, .ref (ad 7 0), .ref (ad 8 0), .ref (ad 9 0), .int v_91688, .ref (ad 10 0), .ref (ad 11 0), .ref (ad 12 0), .ref (ad 13 0), .int v_91690, .ref (ad 14 0)])) := p_ad_0_0
      refine pg_get S Y ok_X12 0 (by decide) kf12_7 (v := .ref (ad 1 0)) p_ad_0_0 rfl dX12_workOf_6 ?_
      refine lv_bipush (v := 6) hx hb dX12_workOf_9 (by decide) ?_
      obtain ⟨g_91692, p_ad_1_0, o_91693⟩ := I.opi (k := 1) (j := 0) (by decide) rfl
      have p_ad_1_0 : pt L f (ad 1 0) (.inl (G.2 0, 10568, .inl g_91692)) := p_ad_1_0
      obtain ⟨v_91694, ev_91694⟩ : ∃ z, z = g_91692 (6 : Int32).toNatClampNeg := ⟨_, rfl⟩
      refine pg_iald S Y (v := v_91694) p_ad_1_0 (by unfold vp_in; decide) ev_91694.symm dX12_workOf_11 ?_
      have bv_91694 : bn 0 8 v_91694 := bn_eq ev_91694 (bn_w (a' := 0) (b' := 8) (IA_6 o_91693) (by have h9 := hB; unfold BBp at h9; omega))
      refine lv_icmp_ge (tgt := 48) hx hb dX12_workOf_12 (by decide) (fun c_91695 => ?_) (fun c_91695 => ?_)
      · refine lv_iload_n hx hb dX12_workOf_48 rfl (lv_at hl 2 rfl) ?_
        exact prI (post := fun r L1 f1 => ((r.toInt = wko (mW w.2) (mD w.2) i1.toInt.toNat 999 n)) ∧ L1 = L ∧ f1 = f) S Y rfl (by decide) (by decide) hA1 ⟨(by have z1 := (cn_e (w2 := w.1) (show bn w.1.1 w.1.2 v_91694 from by rw [ev_91694]; exact IA_6 o_91693) hn); have z2 := c_91695; rw [Int32.le_iff_toInt_le] at z2; have z3 := hK9.2; have z4 := hK9.1; rw [show y4_3.toInt.toNat = n by omega] at z4; exact z4), rfl, rfl⟩ dX12_workOf_49
      · have B_91696 : bn 1 8 v_91694 := bn_w (bn_gtl c_91695 bv_91694 b_y4_3) (by decide)
        have B_91697 : bn 0 7 y4_3 := bn_w (bn_gtr c_91695 bv_91694 b_y4_3) (by decide)
        refine lv_iload_n hx hb dX12_workOf_15 rfl (lv_at hl 2 rfl) ?_
        refine lv_iload_n hx hb dX12_workOf_16 rfl (lv_at hl 1 rfl) ?_
        refine lv_iload_n hx hb dX12_workOf_17 rfl (lv_at hl 3 rfl) ?_
        refine cSp (As := [.int i1, .int y4_3]) (rest := [.int y4_2]) S Y (x_X12_hasE (l := l) (bn_w b_i1 (by decide)) (bn_w B_91697 (by decide))) cw_X12_has km12_244 rfl ⟨Nat.le_of_ble_eq_true rfl, Nat.le_of_ble_eq_true rfl⟩ hl.1 rfl (Nat.le_of_ble_eq_true rfl) ⟨Nat.le_of_ble_eq_true rfl, Nat.le_of_ble_eq_true rfl⟩ dX12_workOf_18 (fun r_91698 H locs er_91698 Y => ?_)
        refine lv_if_eq (tgt := 39) hx hb dX12_workOf_21 (by decide) (fun c_91699 => ?_) (fun c_91699 => ?_)
        · have B_91700 : bn 0 0 r_91698 := bn_w (bn_eq c_91699 (show bn 0 0 (0 : Int32) from bn_k (by decide))) (by decide)
          refine lv_iconst (v := 0) hx hb dX12_workOf_39 (by decide) ?_
          refine lv_iadd hx hb dX12_workOf_40 ?_
          refine lv_topi (fun x_91702 ex_91702 => ?_)
          refine lv_istore_n (lv' := [(2, .int x_91702), (0, .ref (ad 0 0)), (1, .int i1), (3, .int y4_3)]) hx hb dX12_workOf_41 rfl hl (by decide) rfl (fun ls hl => ?_)
          obtain ⟨x_91703, ex_91703⟩ : ∃ z : Int32, z = y4_3 + 1 := ⟨_, rfl⟩
          refine lv_iinc (v := x_91703) (lv' := [(3, .int x_91703), (2, .int x_91702), (0, .ref (ad 0 0)), (1, .int i1)]) hx hb dX12_workOf_42 hl (k := 3) rfl (by rw [ex_91703]; rfl) (by decide) rfl (fun ls hl => ?_)
          refine lv_goto (tgt := 4) hx hb dX12_workOf_45 (by decide) ?_
          exact ih4 _ (by rw [← hm4]; exact ms_up (m := 1) ex_91703 (show bn 1 1 (1 : Int32) from bn_k (by decide)) B_91697 (bn_w (bn_eq ex_91703 (bn_add B_91697 (show bn 1 1 (1 : Int32) from bn_k (by decide)) (by decide))) (by decide) : bn 0 8 x_91703) (by decide)) x_91702 x_91703  _ _ _  (bn_w (bn_eq ex_91703 (bn_add B_91697 (show bn 1 1 (1 : Int32) from bn_k (by decide)) (by decide))) (by decide)) ⟨by rw [(show x_91703.toInt.toNat = y4_3.toInt.toNat + 1 from sc_nat (by have z9 := (la_add ex_91703 (rfl : y4_3.toInt = y4_3.toInt) (show (1 : Int32).toInt = 1 from rfl) B_91697 (show bn 1 1 (1 : Int32) from bn_k (by decide)) (by decide)); omega) (B_91697).1)]; exact (wko_s0 (by rw [ex_91702, Int32.add_zero]; exact hK9.1) (fun q => bit_0 er_91698.2 c_91699 q.1)), (by have z9 := (la_add ex_91703 (rfl : y4_3.toInt = y4_3.toInt) (show (1 : Int32).toInt = 1 from rfl) B_91697 (show bn 1 1 (1 : Int32) from bn_k (by decide)) (by decide)); have z8 : y4_3.toInt < (n : Int) := (by have z1 := (cn_e (w2 := w.1) (show bn w.1.1 w.1.2 v_91694 from by rw [ev_91694]; exact IA_6 o_91693) hn); have z2 := (Int32.not_le.mp c_91695); rw [Int32.lt_iff_toInt_lt] at z2; omega); omega)⟩ rfl Y (lv_sub hl [2, 3, 1, 0] rfl)
        · have B_91701 : bn 1 1 r_91698 := bn_w (bn_nel c_91699 er_91698.1 (show bn 0 0 (0 : Int32) from bn_k (by decide))) (by decide)
          refine lv_aload_n hx hb dX12_workOf_24 rfl (lv_at hl 0 rfl) ?_
          refine pg_get S Y ok_X12 0 (by decide) kf12_7 (v := .ref (ad 1 0)) p_ad_0_0 rfl dX12_workOf_25 ?_
          refine lv_sipush (v := 160) hx hb dX12_workOf_28 (by decide) ?_
          refine lv_iconst (v := 2) hx hb dX12_workOf_31 (by decide) ?_
          refine lv_iload_n hx hb dX12_workOf_32 rfl (lv_at hl 3 rfl) ?_
          refine lv_imul hx hb dX12_workOf_33 ?_
          refine lv_topi (fun x_91704 ex_91704 => ?_)
          refine lv_iadd hx hb dX12_workOf_34 ?_
          refine lv_topi (fun x_91705 ex_91705 => ?_)
          obtain ⟨v_91706, ev_91706⟩ : ∃ z, z = g_91692 (x_91705 : Int32).toNatClampNeg := ⟨_, rfl⟩
          refine pg_iald S Y (v := v_91706) p_ad_1_0 (vp_bn (bn_eq ex_91705 (bn_add (show bn 160 160 (160 : Int32) from bn_k (by decide)) (bn_eq ex_91704 (bn_mul (show bn 2 2 (2 : Int32) from bn_k (by decide)) B_91697 (by decide))) (by decide))) (by decide)) ev_91706.symm dX12_workOf_35 ?_
          refine lv_goto (tgt := 40) hx hb dX12_workOf_36 (by decide) ?_
          refine lv_iadd hx hb dX12_workOf_40 ?_
          refine lv_topi (fun x_91707 ex_91707 => ?_)
          refine lv_istore_n (lv' := [(2, .int x_91707), (0, .ref (ad 0 0)), (1, .int i1), (3, .int y4_3)]) hx hb dX12_workOf_41 rfl hl (by decide) rfl (fun ls hl => ?_)
          obtain ⟨x_91708, ex_91708⟩ : ∃ z : Int32, z = y4_3 + 1 := ⟨_, rfl⟩
          refine lv_iinc (v := x_91708) (lv' := [(3, .int x_91708), (2, .int x_91707), (0, .ref (ad 0 0)), (1, .int i1)]) hx hb dX12_workOf_42 hl (k := 3) rfl (by rw [ex_91708]; rfl) (by decide) rfl (fun ls hl => ?_)
          refine lv_goto (tgt := 4) hx hb dX12_workOf_45 (by decide) ?_
          exact ih4 _ (by rw [← hm4]; exact ms_up (m := 1) ex_91708 (show bn 1 1 (1 : Int32) from bn_k (by decide)) B_91697 (bn_w (bn_eq ex_91708 (bn_add B_91697 (show bn 1 1 (1 : Int32) from bn_k (by decide)) (by decide))) (by decide) : bn 0 8 x_91708) (by decide)) x_91707 x_91708  _ _ _  (bn_w (bn_eq ex_91708 (bn_add B_91697 (show bn 1 1 (1 : Int32) from bn_k (by decide)) (by decide))) (by decide)) ⟨by rw [(show x_91708.toInt.toNat = y4_3.toInt.toNat + 1 from sc_nat (by have z9 := (la_add ex_91708 (rfl : y4_3.toInt = y4_3.toInt) (show (1 : Int32).toInt = 1 from rfl) B_91697 (show bn 1 1 (1 : Int32) from bn_k (by decide)) (by decide)); omega) (B_91697).1)]; exact (wko_s1 hK9.1 (bit_1 er_91698.2 c_91699) (hwb.2 _ (by have z8 : y4_3.toInt < (n : Int) := (by have z1 := (cn_e (w2 := w.1) (show bn w.1.1 w.1.2 v_91694 from by rw [ev_91694]; exact IA_6 o_91693) hn); have z2 := (Int32.not_le.mp c_91695); rw [Int32.lt_iff_toInt_lt] at z2; omega); have z7 := (B_91697).1; omega)).2.2 (by rw [ex_91707, show v_91706 = mW w.2 y4_3.toInt.toNat from (wd_at (k := 160 + 2 * y4_3.toInt.toNat) o_91693 ev_91706 (by have z9 := (la_add ex_91705 (show (160 : Int32).toInt = 160 from rfl) (la_mul ex_91704 (show (2 : Int32).toInt = 2 from rfl) (rfl : y4_3.toInt = y4_3.toInt) (show bn 2 2 (2 : Int32) from bn_k (by decide)) B_91697 (by decide)) (show bn 160 160 (160 : Int32) from bn_k (by decide)) (bn_eq ex_91704 (bn_mul (show bn 2 2 (2 : Int32) from bn_k (by decide)) B_91697 (by decide))) (by decide)); have z8 := (B_91697).1; omega) (by have z7 := (B_91697).1; have z6 := (B_91697).2; omega))]; exact wko_sum hwb (by have z8 : y4_3.toInt < (n : Int) := (by have z1 := (cn_e (w2 := w.1) (show bn w.1.1 w.1.2 v_91694 from by rw [ev_91694]; exact IA_6 o_91693) hn); have z2 := (Int32.not_le.mp c_91695); rw [Int32.lt_iff_toInt_lt] at z2; omega); have z7 := (B_91697).1; omega) hK9.1)), (by have z9 := (la_add ex_91708 (rfl : y4_3.toInt = y4_3.toInt) (show (1 : Int32).toInt = 1 from rfl) B_91697 (show bn 1 1 (1 : Int32) from bn_k (by decide)) (by decide)); have z8 : y4_3.toInt < (n : Int) := (by have z1 := (cn_e (w2 := w.1) (show bn w.1.1 w.1.2 v_91694 from by rw [ev_91694]; exact IA_6 o_91693) hn); have z2 := (Int32.not_le.mp c_91695); rw [Int32.lt_iff_toInt_lt] at z2; omega); omega)⟩ rfl Y (lv_sub hl [2, 3, 1, 0] rfl)
  refine lv_iconst (v := 0) hx hb dX12_workOf_0 (by decide) ?_
  refine lv_istore_n (lv' := [(2, .int 0), (0, .ref (ad 0 0)), (1, .int i1)]) hx hb dX12_workOf_1 rfl hl (by decide) rfl (fun ls hl => ?_)
  refine lv_iconst (v := 0) hx hb dX12_workOf_2 (by decide) ?_
  refine lv_istore_n (lv' := [(3, .int 0), (2, .int 0), (0, .ref (ad 0 0)), (1, .int i1)]) hx hb dX12_workOf_3 rfl hl (by decide) rfl (fun ls hl => ?_)
  exact J_4 _ 0 0  _ _ _  (bn_w (show bn 0 0 (0 : Int32) from bn_k (by decide)) (by decide)) ⟨rfl, by show (0 : Int) ≤ n; omega⟩ rfl Y (lv_sub hl [2, 3, 1, 0] rfl)
theorem inn_0 {wk du : Nat → Int32} {s n : Nat} {d : Int32} {p q r : Prop} (hp : p) (hq : q) (hr : r) : ((0 : Int32).toInt = wko wk du s d.toInt ((0 : Int32).toInt.toNat) ∧ (0 : Int32).toInt ≤ (n : Int)) ∧ p ∧ q ∧ r := ⟨⟨rfl, by show (0 : Int) ≤ n; omega⟩, hp, hq, hr⟩
set_option maxHeartbeats 4000000 in
set_option maxRecDepth 100000 in
theorem x_X12_isInTimeE {l : Launch} {G : GG}  {L : List Nat} {f : HF} {ad : Nat → Nat → Nat} {w : WW} {pi : (Nat → Int32) → Prop} {g0 : Nat → Int32} {i1 : Int32} {n : Nat} (I : SH (spM (IA 0 0 14 9999 w) pi (EQ g0) LDa) nnM G ad L f) (hB : BBp 0 0 14 9999 w) (hX : TX g0) (b_i1 : bn 0 255 i1) (hn : w.1 = ((n : Int), (n : Int))) (hwb : WBd (mW w.2) (mD w.2) n) : PMp l yX12_isInTime cX12_isInTime 6 .boolean 1 0 0 G [.ref (ad 0 0), .int i1] L f (fun r => ((r = 1 ∧ itm (mW w.2) (mD w.2) n i1.toInt.toNat n = true) ∨ (r = 0 ∧ itm (mW w.2) (mD w.2) n i1.toInt.toNat n = false))) := by
  refine PMi.of (post := fun r L1 f1 => (((r = 1 ∧ itm (mW w.2) (mD w.2) n i1.toInt.toNat n = true) ∨ (r = 0 ∧ itm (mW w.2) (mD w.2) n i1.toInt.toNat n = false))) ∧ L1 = L ∧ f1 = f) (own := RX12) (by decide) rfl (Nat.le_of_ble_eq_true rfl) (fun sz p e s m args below meth c A ls hA1 hname S Y hl => ?_)
  have hx := S.hx
  have hb := S.hb
  have hl : lv_has ls 6 [(0, .ref (ad 0 0)), (1, .int i1)] := hl
  have J_2 : ∀ (n2 : Nat) (y2_2 : Int32) (H : Heap) (locs : List Loc) (ls : Array Slot), (bn 0 8 y2_2) → (itm (mW w.2) (mD w.2) n i1.toInt.toNat y2_2.toInt.toNat = true ∧ y2_2.toInt ≤ (n : Int)) → (((8 : Int) - y2_2.toInt).toNat = n2) → (DY G A s [] L f H locs) → (lv_has ls 6 [(0, .ref (ad 0 0)), (1, .int i1), (2, .int y2_2)]) → W p l e (rmD 1 0 0) s m args below meth c H locs (0) (0) (MQ below (va_Qi (fun r (u : List Nat × HF) => (fun r L1 f1 => (((r = 1 ∧ itm (mW w.2) (mD w.2) n i1.toInt.toNat n = true) ∨ (r = 0 ∧ itm (mW w.2) (mD w.2) n i1.toInt.toNat n = false))) ∧ L1 = L ∧ f1 = f) r u.1 u.2) (fun u t => pOut G (va_A (va_pl L f) sz) u.1 u.2 t) (va_A (va_pl L f) sz)) args s 0 0 A) (F0 m 2 ls []) := by
    intro n2
    induction n2 using Nat.strongRecOn with
    | _ n2 ih2 =>
      intro y2_2 H locs ls b_y2_2 hO9 hm2 Y hl
      have J_45 : ∀ (n45 : Nat) (y45_3 y45_4 y45_5 : Int32) (H : Heap) (locs : List Loc) (ls : Array Slot), (bn 0 8 y45_5) → (bn 0 7 y2_2) → ((y45_4.toInt = wko (mW w.2) (mD w.2) i1.toInt.toNat y45_3.toInt y45_5.toInt.toNat ∧ y45_5.toInt ≤ (n : Int)) ∧ y45_3 = mD w.2 y2_2.toInt.toNat ∧ i1.toInt.toNat.testBit y2_2.toInt.toNat = true ∧ y2_2.toInt < (n : Int)) → (((8 : Int) - y45_5.toInt).toNat = n45) → (DY G A s [] L f H locs) → (lv_has ls 6 [(0, .ref (ad 0 0)), (1, .int i1), (2, .int y2_2), (3, .int y45_3), (4, .int y45_4), (5, .int y45_5)]) → W p l e (rmD 1 0 0) s m args below meth c H locs (0) (0) (MQ below (va_Qi (fun r (u : List Nat × HF) => (fun r L1 f1 => (((r = 1 ∧ itm (mW w.2) (mD w.2) n i1.toInt.toNat n = true) ∨ (r = 0 ∧ itm (mW w.2) (mD w.2) n i1.toInt.toNat n = false))) ∧ L1 = L ∧ f1 = f) r u.1 u.2) (fun u t => pOut G (va_A (va_pl L f) sz) u.1 u.2 t) (va_A (va_pl L f) sz)) args s 0 0 A) (F0 m 45 ls []) := by
        intro n45
        induction n45 using Nat.strongRecOn with
        | _ n45 ih45 =>
          intro y45_3 y45_4 y45_5 H locs ls b_y45_5 b45_y2_2 hV9 hm45 Y hl
          refine lv_iload hx hb dX12_isInTime_45 (lv_at hl 5 rfl) ?_
          refine lv_aload_n hx hb dX12_isInTime_47 rfl (lv_at hl 0 rfl) ?_
          obtain ⟨v_92879, v_92881, v_92883, v_92885, v_92887, v_92889, v_92891, v_92893, v_92894, v_92896, v_92898, v_92900, v_92902, v_92904, v_92906, v_92908, v_92910, v_92912, p_ad_0_0, b_92880, b_92882, b_92884, b_92886, b_92888, b_92890, b_92892, b_92895, b_92897, b_92899, b_92901, b_92903, b_92905, b_92907, b_92909, b_92911, b_92913⟩ := opnM_0 (j := 0) I (by decide)
          have p_ad_0_0 : pt L f (ad 0 0) (.inr (12, [.ref (ad 1 0), .ref (ad 2 0), .ref (ad 3 0), .ref (ad 4 0), .int v_92879, .int v_92881, .int v_92883, .int v_92885, .int v_92887, .int v_92889, .int v_92891, .long v_92893, .int v_92894, .int v_92896, .int v_92898, .ref (ad 5 0), .ref (ad 6 0), .int v_92900, .int v_92902, .int v_92904, .int v_92906, .int v_92908, .ref (ad 7 0), .ref (ad 8 0), .ref (ad 9 0), .int v_92910, .ref (ad 10 0), .ref (ad 11 0), .ref (ad 12 0), .ref (ad 13 0), .int v_92912, .ref (ad 14 0)])) := p_ad_0_0
          refine pg_get S Y ok_X12 0 (by decide) kf12_7 (v := .ref (ad 1 0)) p_ad_0_0 rfl dX12_isInTime_48 ?_
          refine lv_bipush (v := 6) hx hb dX12_isInTime_51 (by decide) ?_
          obtain ⟨g_92914, p_ad_1_0, o_92915⟩ := I.opi (k := 1) (j := 0) (by decide) rfl
          have p_ad_1_0 : pt L f (ad 1 0) (.inl (G.2 0, 10568, .inl g_92914)) := p_ad_1_0
          obtain ⟨v_92916, ev_92916⟩ : ∃ z, z = g_92914 (6 : Int32).toNatClampNeg := ⟨_, rfl⟩
          refine pg_iald S Y (v := v_92916) p_ad_1_0 (by unfold vp_in; decide) ev_92916.symm dX12_isInTime_53 ?_
          have bv_92916 : bn 0 8 v_92916 := bn_eq ev_92916 (bn_w (a' := 0) (b' := 8) (IA_6 o_92915) (by have h9 := hB; unfold BBp at h9; omega))
          refine lv_icmp_ge (tgt := 113) hx hb dX12_isInTime_54 (by decide) (fun c_92917 => ?_) (fun c_92917 => ?_)
          · refine lv_iload hx hb dX12_isInTime_113 (lv_at hl 4 rfl) ?_
            refine lv_iload_n hx hb dX12_isInTime_115 rfl (lv_at hl 3 rfl) ?_
            refine lv_icmp_le (tgt := 121) hx hb dX12_isInTime_116 (by decide) (fun c_92920 => ?_) (fun c_92920 => ?_)
            · obtain ⟨x_92923, ex_92923⟩ : ∃ z : Int32, z = y2_2 + 1 := ⟨_, rfl⟩
              refine lv_iinc (v := x_92923) (lv' := [(2, .int x_92923), (0, .ref (ad 0 0)), (1, .int i1), (3, .int y45_3), (4, .int y45_4), (5, .int y45_5)]) hx hb dX12_isInTime_121 hl (k := 2) rfl (by rw [ex_92923]; rfl) (by decide) rfl (fun ls hl => ?_)
              refine lv_goto (tgt := 2) hx hb dX12_isInTime_124 (by decide) ?_
              have hE9 : y45_4.toInt = wko (mW w.2) (mD w.2) i1.toInt.toNat y45_3.toInt n := by have z1 := (cn_e (w2 := w.1) (show bn w.1.1 w.1.2 v_92916 from by rw [ev_92916]; exact IA_6 o_92915) hn); have z2 := c_92917; rw [Int32.le_iff_toInt_le] at z2; have z3 := hV9.1.2; have z4 := hV9.1.1; rw [show y45_5.toInt.toNat = n by omega] at z4; exact z4
              exact ih2 _ (by rw [← hm2]; exact ms_up (m := 1) ex_92923 (show bn 1 1 (1 : Int32) from bn_k (by decide)) b45_y2_2 (bn_w (bn_eq ex_92923 (bn_add b45_y2_2 (show bn 1 1 (1 : Int32) from bn_k (by decide)) (by decide))) (by decide) : bn 0 8 x_92923) (by decide)) x_92923  _ _ _  (bn_w (bn_eq ex_92923 (bn_add b45_y2_2 (show bn 1 1 (1 : Int32) from bn_k (by decide)) (by decide))) (by decide)) ⟨by rw [(show x_92923.toInt.toNat = y2_2.toInt.toNat + 1 from sc_nat (by have z9 := (la_add ex_92923 (rfl : y2_2.toInt = y2_2.toInt) (show (1 : Int32).toInt = 1 from rfl) b45_y2_2 (show bn 1 1 (1 : Int32) from bn_k (by decide)) (by decide)); omega) (b45_y2_2).1)]; exact (itm_s1 hO9.1 (wo_le hE9 hV9.2.1 (by have z2 := c_92920; rw [Int32.le_iff_toInt_le] at z2; omega))), (by have z9 := (la_add ex_92923 (rfl : y2_2.toInt = y2_2.toInt) (show (1 : Int32).toInt = 1 from rfl) b45_y2_2 (show bn 1 1 (1 : Int32) from bn_k (by decide)) (by decide)); have z8 := hV9.2.2.2; omega)⟩ rfl Y (lv_sub hl [1, 2, 0] rfl)
            · have B_92921 : bn (-2147483647) 2147483647 y45_4 := bn_w (bn_gtl c_92920 (bn_any y45_4) (bn_any y45_3)) (by decide)
              have B_92922 : bn (-2147483648) 2147483646 y45_3 := bn_w (bn_gtr c_92920 (bn_any y45_4) (bn_any y45_3)) (by decide)
              refine lv_iconst (v := 0) hx hb dX12_isInTime_119 (by decide) ?_
              exact prI (post := fun r L1 f1 => (((r = 1 ∧ itm (mW w.2) (mD w.2) n i1.toInt.toNat n = true) ∨ (r = 0 ∧ itm (mW w.2) (mD w.2) n i1.toInt.toNat n = false))) ∧ L1 = L ∧ f1 = f) S Y rfl (by decide) (by decide) hA1 ⟨(Or.inr ⟨rfl, itm_no hV9.2.2.1 (wo_gt (show y45_4.toInt = wko (mW w.2) (mD w.2) i1.toInt.toNat y45_3.toInt n from by have z1 := (cn_e (w2 := w.1) (show bn w.1.1 w.1.2 v_92916 from by rw [ev_92916]; exact IA_6 o_92915) hn); have z2 := c_92917; rw [Int32.le_iff_toInt_le] at z2; have z3 := hV9.1.2; have z4 := hV9.1.1; rw [show y45_5.toInt.toNat = n by omega] at z4; exact z4) hV9.2.1 (by have z2 := (Int32.not_le.mp c_92920); rw [Int32.lt_iff_toInt_lt] at z2; omega)) (by have z8 := hV9.2.2.2; have z7 := (b45_y2_2).1; omega)⟩), rfl, rfl⟩ dX12_isInTime_120
          · have B_92918 : bn 1 8 v_92916 := bn_w (bn_gtl c_92917 bv_92916 b_y45_5) (by decide)
            have B_92919 : bn 0 7 y45_5 := bn_w (bn_gtr c_92917 bv_92916 b_y45_5) (by decide)
            refine lv_iload hx hb dX12_isInTime_57 (lv_at hl 4 rfl) ?_
            refine lv_iload_n hx hb dX12_isInTime_59 rfl (lv_at hl 1 rfl) ?_
            refine lv_iload hx hb dX12_isInTime_60 (lv_at hl 5 rfl) ?_
            refine cSp (As := [.int i1, .int y45_5]) (rest := [.int y45_4]) S Y (x_X12_hasE (l := l) (bn_w b_i1 (by decide)) (bn_w B_92919 (by decide))) cw_X12_has km12_244 rfl ⟨Nat.le_of_ble_eq_true rfl, Nat.le_of_ble_eq_true rfl⟩ hl.1 rfl (Nat.le_of_ble_eq_true rfl) ⟨Nat.le_of_ble_eq_true rfl, Nat.le_of_ble_eq_true rfl⟩ dX12_isInTime_62 (fun r_92924 H locs er_92924 Y => ?_)
            refine lv_if_eq (tgt := 103) hx hb dX12_isInTime_65 (by decide) (fun c_92925 => ?_) (fun c_92925 => ?_)
            · have B_92926 : bn 0 0 r_92924 := bn_w (bn_eq c_92925 (show bn 0 0 (0 : Int32) from bn_k (by decide))) (by decide)
              refine lv_iconst (v := 0) hx hb dX12_isInTime_103 (by decide) ?_
              refine lv_iadd hx hb dX12_isInTime_104 ?_
              refine lv_topi (fun x_92928 ex_92928 => ?_)
              refine lv_istore (lv' := [(4, .int x_92928), (0, .ref (ad 0 0)), (1, .int i1), (2, .int y2_2), (3, .int y45_3), (5, .int y45_5)]) hx hb dX12_isInTime_105 hl (by decide) rfl (fun ls hl => ?_)
              obtain ⟨x_92929, ex_92929⟩ : ∃ z : Int32, z = y45_5 + 1 := ⟨_, rfl⟩
              refine lv_iinc (v := x_92929) (lv' := [(5, .int x_92929), (4, .int x_92928), (0, .ref (ad 0 0)), (1, .int i1), (2, .int y2_2), (3, .int y45_3)]) hx hb dX12_isInTime_107 hl (k := 5) rfl (by rw [ex_92929]; rfl) (by decide) rfl (fun ls hl => ?_)
              refine lv_goto (tgt := 45) hx hb dX12_isInTime_110 (by decide) ?_
              exact ih45 _ (by rw [← hm45]; exact ms_up (m := 1) ex_92929 (show bn 1 1 (1 : Int32) from bn_k (by decide)) B_92919 (bn_w (bn_eq ex_92929 (bn_add B_92919 (show bn 1 1 (1 : Int32) from bn_k (by decide)) (by decide))) (by decide) : bn 0 8 x_92929) (by decide)) y45_3 x_92928 x_92929  _ _ _  (bn_w (bn_eq ex_92929 (bn_add B_92919 (show bn 1 1 (1 : Int32) from bn_k (by decide)) (by decide))) (by decide)) (bn_w b45_y2_2 (by decide)) ⟨⟨by rw [(show x_92929.toInt.toNat = y45_5.toInt.toNat + 1 from sc_nat (by have z9 := (la_add ex_92929 (rfl : y45_5.toInt = y45_5.toInt) (show (1 : Int32).toInt = 1 from rfl) B_92919 (show bn 1 1 (1 : Int32) from bn_k (by decide)) (by decide)); omega) (B_92919).1)]; exact (wko_s0 (by rw [ex_92928, Int32.add_zero]; exact hV9.1.1) (fun q => bit_0 er_92924.2 c_92925 q.1)), (by have z9 := (la_add ex_92929 (rfl : y45_5.toInt = y45_5.toInt) (show (1 : Int32).toInt = 1 from rfl) B_92919 (show bn 1 1 (1 : Int32) from bn_k (by decide)) (by decide)); have z8 : y45_5.toInt < (n : Int) := (by have z1 := (cn_e (w2 := w.1) (show bn w.1.1 w.1.2 v_92916 from by rw [ev_92916]; exact IA_6 o_92915) hn); have z2 := (Int32.not_le.mp c_92917); rw [Int32.lt_iff_toInt_lt] at z2; omega); omega)⟩, hV9.2.1, hV9.2.2.1, hV9.2.2.2⟩ rfl Y (lv_sub hl [2, 3, 4, 5, 1, 0] rfl)
            · have B_92927 : bn 1 1 r_92924 := bn_w (bn_nel c_92925 er_92924.1 (show bn 0 0 (0 : Int32) from bn_k (by decide))) (by decide)
              refine lv_aload_n hx hb dX12_isInTime_68 rfl (lv_at hl 0 rfl) ?_
              refine pg_get S Y ok_X12 0 (by decide) kf12_7 (v := .ref (ad 1 0)) p_ad_0_0 rfl dX12_isInTime_69 ?_
              refine lv_sipush (v := 160) hx hb dX12_isInTime_72 (by decide) ?_
              refine lv_iconst (v := 2) hx hb dX12_isInTime_75 (by decide) ?_
              refine lv_iload hx hb dX12_isInTime_76 (lv_at hl 5 rfl) ?_
              refine lv_imul hx hb dX12_isInTime_78 ?_
              refine lv_topi (fun x_92930 ex_92930 => ?_)
              refine lv_iadd hx hb dX12_isInTime_79 ?_
              refine lv_topi (fun x_92931 ex_92931 => ?_)
              refine lv_iconst (v := 1) hx hb dX12_isInTime_80 (by decide) ?_
              refine lv_iadd hx hb dX12_isInTime_81 ?_
              refine lv_topi (fun x_92932 ex_92932 => ?_)
              have B_92933 : bn 161 175 x_92932 := bn_w (bn_eq ex_92932 (bn_add (bn_eq ex_92931 (bn_add (show bn 160 160 (160 : Int32) from bn_k (by decide)) (bn_eq ex_92930 (bn_mul (show bn 2 2 (2 : Int32) from bn_k (by decide)) B_92919 (by decide))) (by decide))) (show bn 1 1 (1 : Int32) from bn_k (by decide)) (by decide))) (by decide)
              obtain ⟨v_92934, ev_92934⟩ : ∃ z, z = g_92914 (x_92932 : Int32).toNatClampNeg := ⟨_, rfl⟩
              refine pg_iald S Y (v := v_92934) p_ad_1_0 (vp_bn B_92933 (by decide)) ev_92934.symm dX12_isInTime_82 ?_
              refine lv_iload_n hx hb dX12_isInTime_83 rfl (lv_at hl 3 rfl) ?_
              refine lv_icmp_gt (tgt := 103) hx hb dX12_isInTime_84 (by decide) (fun c_92935 => ?_) (fun c_92935 => ?_)
              · have B_92936 : bn (-2147483648) 2147483646 y45_3 := bn_w (bn_ltl c_92935 (bn_any y45_3) (bn_any v_92934)) (by decide)
                have B_92937 : bn (-2147483647) 2147483647 v_92934 := bn_w (bn_ltr c_92935 (bn_any y45_3) (bn_any v_92934)) (by decide)
                refine lv_iconst (v := 0) hx hb dX12_isInTime_103 (by decide) ?_
                refine lv_iadd hx hb dX12_isInTime_104 ?_
                refine lv_topi (fun x_92938 ex_92938 => ?_)
                refine lv_istore (lv' := [(4, .int x_92938), (0, .ref (ad 0 0)), (1, .int i1), (2, .int y2_2), (3, .int y45_3), (5, .int y45_5)]) hx hb dX12_isInTime_105 hl (by decide) rfl (fun ls hl => ?_)
                obtain ⟨x_92939, ex_92939⟩ : ∃ z : Int32, z = y45_5 + 1 := ⟨_, rfl⟩
                refine lv_iinc (v := x_92939) (lv' := [(5, .int x_92939), (4, .int x_92938), (0, .ref (ad 0 0)), (1, .int i1), (2, .int y2_2), (3, .int y45_3)]) hx hb dX12_isInTime_107 hl (k := 5) rfl (by rw [ex_92939]; rfl) (by decide) rfl (fun ls hl => ?_)
                refine lv_goto (tgt := 45) hx hb dX12_isInTime_110 (by decide) ?_
                exact ih45 _ (by rw [← hm45]; exact ms_up (m := 1) ex_92939 (show bn 1 1 (1 : Int32) from bn_k (by decide)) B_92919 (bn_w (bn_eq ex_92939 (bn_add B_92919 (show bn 1 1 (1 : Int32) from bn_k (by decide)) (by decide))) (by decide) : bn 0 8 x_92939) (by decide)) y45_3 x_92938 x_92939  _ _ _  (bn_w (bn_eq ex_92939 (bn_add B_92919 (show bn 1 1 (1 : Int32) from bn_k (by decide)) (by decide))) (by decide)) (bn_w b45_y2_2 (by decide)) ⟨⟨by rw [(show x_92939.toInt.toNat = y45_5.toInt.toNat + 1 from sc_nat (by have z9 := (la_add ex_92939 (rfl : y45_5.toInt = y45_5.toInt) (show (1 : Int32).toInt = 1 from rfl) B_92919 (show bn 1 1 (1 : Int32) from bn_k (by decide)) (by decide)); omega) (B_92919).1)]; exact (wko_s0 (by rw [ex_92938, Int32.add_zero]; exact hV9.1.1) (fun q => by have z1 := q.2; rw [(show mD w.2 y45_5.toInt.toNat = v_92934 from ((wd_at (k := 161 + 2 * y45_5.toInt.toNat) o_92915 ev_92934 (by have z9 := (la_add ex_92932 (la_add ex_92931 (show (160 : Int32).toInt = 160 from rfl) (la_mul ex_92930 (show (2 : Int32).toInt = 2 from rfl) (rfl : y45_5.toInt = y45_5.toInt) (show bn 2 2 (2 : Int32) from bn_k (by decide)) B_92919 (by decide)) (show bn 160 160 (160 : Int32) from bn_k (by decide)) (bn_eq ex_92930 (bn_mul (show bn 2 2 (2 : Int32) from bn_k (by decide)) B_92919 (by decide))) (by decide)) (show (1 : Int32).toInt = 1 from rfl) (bn_eq ex_92931 (bn_add (show bn 160 160 (160 : Int32) from bn_k (by decide)) (bn_eq ex_92930 (bn_mul (show bn 2 2 (2 : Int32) from bn_k (by decide)) B_92919 (by decide))) (by decide))) (show bn 1 1 (1 : Int32) from bn_k (by decide)) (by decide)); have z8 := (B_92919).1; omega) (by have z7 := (B_92919).1; have z6 := (B_92919).2; omega))).symm)] at z1; have z2 := c_92935; rw [Int32.lt_iff_toInt_lt] at z2; omega)), (by have z9 := (la_add ex_92939 (rfl : y45_5.toInt = y45_5.toInt) (show (1 : Int32).toInt = 1 from rfl) B_92919 (show bn 1 1 (1 : Int32) from bn_k (by decide)) (by decide)); have z8 : y45_5.toInt < (n : Int) := (by have z1 := (cn_e (w2 := w.1) (show bn w.1.1 w.1.2 v_92916 from by rw [ev_92916]; exact IA_6 o_92915) hn); have z2 := (Int32.not_le.mp c_92917); rw [Int32.lt_iff_toInt_lt] at z2; omega); omega)⟩, hV9.2.1, hV9.2.2.1, hV9.2.2.2⟩ rfl Y (lv_sub hl [2, 3, 4, 5, 1, 0] rfl)
              · refine lv_aload_n hx hb dX12_isInTime_87 rfl (lv_at hl 0 rfl) ?_
                refine pg_get S Y ok_X12 0 (by decide) kf12_7 (v := .ref (ad 1 0)) p_ad_0_0 rfl dX12_isInTime_88 ?_
                refine lv_sipush (v := 160) hx hb dX12_isInTime_91 (by decide) ?_
                refine lv_iconst (v := 2) hx hb dX12_isInTime_94 (by decide) ?_
                refine lv_iload hx hb dX12_isInTime_95 (lv_at hl 5 rfl) ?_
                refine lv_imul hx hb dX12_isInTime_97 ?_
                refine lv_topi (fun x_92940 ex_92940 => ?_)
                refine lv_iadd hx hb dX12_isInTime_98 ?_
                refine lv_topi (fun x_92941 ex_92941 => ?_)
                obtain ⟨v_92942, ev_92942⟩ : ∃ z, z = g_92914 (x_92941 : Int32).toNatClampNeg := ⟨_, rfl⟩
                refine pg_iald S Y (v := v_92942) p_ad_1_0 (vp_bn (bn_eq ex_92941 (bn_add (show bn 160 160 (160 : Int32) from bn_k (by decide)) (bn_eq ex_92940 (bn_mul (show bn 2 2 (2 : Int32) from bn_k (by decide)) B_92919 (by decide))) (by decide))) (by decide)) ev_92942.symm dX12_isInTime_99 ?_
                refine lv_goto (tgt := 104) hx hb dX12_isInTime_100 (by decide) ?_
                refine lv_iadd hx hb dX12_isInTime_104 ?_
                refine lv_topi (fun x_92943 ex_92943 => ?_)
                refine lv_istore (lv' := [(4, .int x_92943), (0, .ref (ad 0 0)), (1, .int i1), (2, .int y2_2), (3, .int y45_3), (5, .int y45_5)]) hx hb dX12_isInTime_105 hl (by decide) rfl (fun ls hl => ?_)
                obtain ⟨x_92944, ex_92944⟩ : ∃ z : Int32, z = y45_5 + 1 := ⟨_, rfl⟩
                refine lv_iinc (v := x_92944) (lv' := [(5, .int x_92944), (4, .int x_92943), (0, .ref (ad 0 0)), (1, .int i1), (2, .int y2_2), (3, .int y45_3)]) hx hb dX12_isInTime_107 hl (k := 5) rfl (by rw [ex_92944]; rfl) (by decide) rfl (fun ls hl => ?_)
                refine lv_goto (tgt := 45) hx hb dX12_isInTime_110 (by decide) ?_
                exact ih45 _ (by rw [← hm45]; exact ms_up (m := 1) ex_92944 (show bn 1 1 (1 : Int32) from bn_k (by decide)) B_92919 (bn_w (bn_eq ex_92944 (bn_add B_92919 (show bn 1 1 (1 : Int32) from bn_k (by decide)) (by decide))) (by decide) : bn 0 8 x_92944) (by decide)) y45_3 x_92943 x_92944  _ _ _  (bn_w (bn_eq ex_92944 (bn_add B_92919 (show bn 1 1 (1 : Int32) from bn_k (by decide)) (by decide))) (by decide)) (bn_w b45_y2_2 (by decide)) ⟨⟨by rw [(show x_92944.toInt.toNat = y45_5.toInt.toNat + 1 from sc_nat (by have z9 := (la_add ex_92944 (rfl : y45_5.toInt = y45_5.toInt) (show (1 : Int32).toInt = 1 from rfl) B_92919 (show bn 1 1 (1 : Int32) from bn_k (by decide)) (by decide)); omega) (B_92919).1)]; exact (wko_s1 hV9.1.1 (bit_1 er_92924.2 c_92925) (by rw [(show mD w.2 y45_5.toInt.toNat = v_92934 from ((wd_at (k := 161 + 2 * y45_5.toInt.toNat) o_92915 ev_92934 (by have z9 := (la_add ex_92932 (la_add ex_92931 (show (160 : Int32).toInt = 160 from rfl) (la_mul ex_92930 (show (2 : Int32).toInt = 2 from rfl) (rfl : y45_5.toInt = y45_5.toInt) (show bn 2 2 (2 : Int32) from bn_k (by decide)) B_92919 (by decide)) (show bn 160 160 (160 : Int32) from bn_k (by decide)) (bn_eq ex_92930 (bn_mul (show bn 2 2 (2 : Int32) from bn_k (by decide)) B_92919 (by decide))) (by decide)) (show (1 : Int32).toInt = 1 from rfl) (bn_eq ex_92931 (bn_add (show bn 160 160 (160 : Int32) from bn_k (by decide)) (bn_eq ex_92930 (bn_mul (show bn 2 2 (2 : Int32) from bn_k (by decide)) B_92919 (by decide))) (by decide))) (show bn 1 1 (1 : Int32) from bn_k (by decide)) (by decide)); have z8 := (B_92919).1; omega) (by have z7 := (B_92919).1; have z6 := (B_92919).2; omega))).symm)]; have z2 := (Int32.not_lt.mp c_92935); rw [Int32.le_iff_toInt_le] at z2; omega) (by rw [ex_92943, show v_92942 = mW w.2 y45_5.toInt.toNat from (wd_at (k := 160 + 2 * y45_5.toInt.toNat) o_92915 ev_92942 (by have z9 := (la_add ex_92941 (show (160 : Int32).toInt = 160 from rfl) (la_mul ex_92940 (show (2 : Int32).toInt = 2 from rfl) (rfl : y45_5.toInt = y45_5.toInt) (show bn 2 2 (2 : Int32) from bn_k (by decide)) B_92919 (by decide)) (show bn 160 160 (160 : Int32) from bn_k (by decide)) (bn_eq ex_92940 (bn_mul (show bn 2 2 (2 : Int32) from bn_k (by decide)) B_92919 (by decide))) (by decide)); have z8 := (B_92919).1; omega) (by have z7 := (B_92919).1; have z6 := (B_92919).2; omega))]; exact wko_sum hwb (by have z8 : y45_5.toInt < (n : Int) := (by have z1 := (cn_e (w2 := w.1) (show bn w.1.1 w.1.2 v_92916 from by rw [ev_92916]; exact IA_6 o_92915) hn); have z2 := (Int32.not_le.mp c_92917); rw [Int32.lt_iff_toInt_lt] at z2; omega); have z7 := (B_92919).1; omega) hV9.1.1)), (by have z9 := (la_add ex_92944 (rfl : y45_5.toInt = y45_5.toInt) (show (1 : Int32).toInt = 1 from rfl) B_92919 (show bn 1 1 (1 : Int32) from bn_k (by decide)) (by decide)); have z8 : y45_5.toInt < (n : Int) := (by have z1 := (cn_e (w2 := w.1) (show bn w.1.1 w.1.2 v_92916 from by rw [ev_92916]; exact IA_6 o_92915) hn); have z2 := (Int32.not_le.mp c_92917); rw [Int32.lt_iff_toInt_lt] at z2; omega); omega)⟩, hV9.2.1, hV9.2.2.1, hV9.2.2.2⟩ rfl Y (lv_sub hl [2, 3, 4, 5, 1, 0] rfl)
      refine lv_iload_n hx hb dX12_isInTime_2 rfl (lv_at hl 2 rfl) ?_
      refine lv_aload_n hx hb dX12_isInTime_3 rfl (lv_at hl 0 rfl) ?_
      obtain ⟨v_92945, v_92947, v_92949, v_92951, v_92953, v_92955, v_92957, v_92959, v_92960, v_92962, v_92964, v_92966, v_92968, v_92970, v_92972, v_92974, v_92976, v_92978, p_ad_0_0, b_92946, b_92948, b_92950, b_92952, b_92954, b_92956, b_92958, b_92961, b_92963, b_92965, b_92967, b_92969, b_92971, b_92973, b_92975, b_92977, b_92979⟩ := opnM_0 (j := 0) I (by decide)
      have p_ad_0_0 : pt L f (ad 0 0) (.inr (12, [.ref (ad 1 0), .ref (ad 2 0), .ref (ad 3 0), .ref (ad 4 0), .int v_92945, .int v_92947, .int v_92949, .int v_92951, .int v_92953, .int v_92955, .int v_92957, .long v_92959, .int v_92960, .int v_92962, .int v_92964, .ref (ad 5 0), .ref (ad 6 0), .int v_92966, .int v_92968, .int v_92970, .int v_92972, .int v_92974, .ref (ad 7 0), .ref (ad 8 0), .ref (ad 9 0), .int v_92976, .ref (ad 10 0), .ref (ad 11 0), .ref (ad 12 0), .ref (ad 13 0), .int v_92978, .ref (ad 14 0)])) := p_ad_0_0
      refine pg_get S Y ok_X12 0 (by decide) kf12_7 (v := .ref (ad 1 0)) p_ad_0_0 rfl dX12_isInTime_4 ?_
      refine lv_bipush (v := 6) hx hb dX12_isInTime_7 (by decide) ?_
      obtain ⟨g_92980, p_ad_1_0, o_92981⟩ := I.opi (k := 1) (j := 0) (by decide) rfl
      have p_ad_1_0 : pt L f (ad 1 0) (.inl (G.2 0, 10568, .inl g_92980)) := p_ad_1_0
      obtain ⟨v_92982, ev_92982⟩ : ∃ z, z = g_92980 (6 : Int32).toNatClampNeg := ⟨_, rfl⟩
      refine pg_iald S Y (v := v_92982) p_ad_1_0 (by unfold vp_in; decide) ev_92982.symm dX12_isInTime_9 ?_
      have bv_92982 : bn 0 8 v_92982 := bn_eq ev_92982 (bn_w (a' := 0) (b' := 8) (IA_6 o_92981) (by have h9 := hB; unfold BBp at h9; omega))
      refine lv_icmp_ge (tgt := 127) hx hb dX12_isInTime_10 (by decide) (fun c_92983 => ?_) (fun c_92983 => ?_)
      · refine lv_iconst (v := 1) hx hb dX12_isInTime_127 (by decide) ?_
        exact prI (post := fun r L1 f1 => (((r = 1 ∧ itm (mW w.2) (mD w.2) n i1.toInt.toNat n = true) ∨ (r = 0 ∧ itm (mW w.2) (mD w.2) n i1.toInt.toNat n = false))) ∧ L1 = L ∧ f1 = f) S Y rfl (by decide) (by decide) hA1 ⟨(Or.inl ⟨rfl, by have z1 := (cn_e (w2 := w.1) (show bn w.1.1 w.1.2 v_92982 from by rw [ev_92982]; exact IA_6 o_92981) hn); have z2 := c_92983; rw [Int32.le_iff_toInt_le] at z2; have z3 := hO9.2; have z4 := hO9.1; rw [show y2_2.toInt.toNat = n by omega] at z4; exact z4⟩), rfl, rfl⟩ dX12_isInTime_128
      · have B_92984 : bn 1 8 v_92982 := bn_w (bn_gtl c_92983 bv_92982 b_y2_2) (by decide)
        have B_92985 : bn 0 7 y2_2 := bn_w (bn_gtr c_92983 bv_92982 b_y2_2) (by decide)
        refine lv_iload_n hx hb dX12_isInTime_13 rfl (lv_at hl 1 rfl) ?_
        refine lv_iload_n hx hb dX12_isInTime_14 rfl (lv_at hl 2 rfl) ?_
        refine cSp (As := [.int i1, .int y2_2]) (rest := []) S Y (x_X12_hasE (l := l) (bn_w b_i1 (by decide)) (bn_w B_92985 (by decide))) cw_X12_has km12_244 rfl ⟨Nat.le_of_ble_eq_true rfl, Nat.le_of_ble_eq_true rfl⟩ hl.1 rfl (Nat.le_of_ble_eq_true rfl) ⟨Nat.le_of_ble_eq_true rfl, Nat.le_of_ble_eq_true rfl⟩ dX12_isInTime_15 (fun r_92986 H locs er_92986 Y => ?_)
        refine lv_if_ne (tgt := 24) hx hb dX12_isInTime_18 (by decide) (fun c_92987 => ?_) (fun c_92987 => ?_)
        · have B_92988 : bn 1 1 r_92986 := bn_w (bn_nel c_92987 er_92986.1 (show bn 0 0 (0 : Int32) from bn_k (by decide))) (by decide)
          refine lv_aload_n hx hb dX12_isInTime_24 rfl (lv_at hl 0 rfl) ?_
          refine pg_get S Y ok_X12 0 (by decide) kf12_7 (v := .ref (ad 1 0)) p_ad_0_0 rfl dX12_isInTime_25 ?_
          refine lv_sipush (v := 160) hx hb dX12_isInTime_28 (by decide) ?_
          refine lv_iconst (v := 2) hx hb dX12_isInTime_31 (by decide) ?_
          refine lv_iload_n hx hb dX12_isInTime_32 rfl (lv_at hl 2 rfl) ?_
          refine lv_imul hx hb dX12_isInTime_33 ?_
          refine lv_topi (fun x_92990 ex_92990 => ?_)
          refine lv_iadd hx hb dX12_isInTime_34 ?_
          refine lv_topi (fun x_92991 ex_92991 => ?_)
          refine lv_iconst (v := 1) hx hb dX12_isInTime_35 (by decide) ?_
          refine lv_iadd hx hb dX12_isInTime_36 ?_
          refine lv_topi (fun x_92992 ex_92992 => ?_)
          have B_92993 : bn 161 175 x_92992 := bn_w (bn_eq ex_92992 (bn_add (bn_eq ex_92991 (bn_add (show bn 160 160 (160 : Int32) from bn_k (by decide)) (bn_eq ex_92990 (bn_mul (show bn 2 2 (2 : Int32) from bn_k (by decide)) B_92985 (by decide))) (by decide))) (show bn 1 1 (1 : Int32) from bn_k (by decide)) (by decide))) (by decide)
          obtain ⟨v_92994, ev_92994⟩ : ∃ z, z = g_92980 (x_92992 : Int32).toNatClampNeg := ⟨_, rfl⟩
          refine pg_iald S Y (v := v_92994) p_ad_1_0 (vp_bn B_92993 (by decide)) ev_92994.symm dX12_isInTime_37 ?_
          refine lv_istore_n (lv' := [(3, .int v_92994), (0, .ref (ad 0 0)), (1, .int i1), (2, .int y2_2)]) hx hb dX12_isInTime_38 rfl hl (by decide) rfl (fun ls hl => ?_)
          refine lv_iconst (v := 0) hx hb dX12_isInTime_39 (by decide) ?_
          refine lv_istore (lv' := [(4, .int 0), (3, .int v_92994), (0, .ref (ad 0 0)), (1, .int i1), (2, .int y2_2)]) hx hb dX12_isInTime_40 hl (by decide) rfl (fun ls hl => ?_)
          refine lv_iconst (v := 0) hx hb dX12_isInTime_42 (by decide) ?_
          refine lv_istore (lv' := [(5, .int 0), (4, .int 0), (3, .int v_92994), (0, .ref (ad 0 0)), (1, .int i1), (2, .int y2_2)]) hx hb dX12_isInTime_43 hl (by decide) rfl (fun ls hl => ?_)
          exact J_45 _ v_92994 0 0  _ _ _  (bn_w (show bn 0 0 (0 : Int32) from bn_k (by decide)) (by decide)) (bn_w B_92985 (by decide)) (inn_0 (show v_92994 = mD w.2 y2_2.toInt.toNat from (wd_at (k := 161 + 2 * y2_2.toInt.toNat) o_92981 ev_92994 (by have z9 := (la_add ex_92992 (la_add ex_92991 (show (160 : Int32).toInt = 160 from rfl) (la_mul ex_92990 (show (2 : Int32).toInt = 2 from rfl) (rfl : y2_2.toInt = y2_2.toInt) (show bn 2 2 (2 : Int32) from bn_k (by decide)) B_92985 (by decide)) (show bn 160 160 (160 : Int32) from bn_k (by decide)) (bn_eq ex_92990 (bn_mul (show bn 2 2 (2 : Int32) from bn_k (by decide)) B_92985 (by decide))) (by decide)) (show (1 : Int32).toInt = 1 from rfl) (bn_eq ex_92991 (bn_add (show bn 160 160 (160 : Int32) from bn_k (by decide)) (bn_eq ex_92990 (bn_mul (show bn 2 2 (2 : Int32) from bn_k (by decide)) B_92985 (by decide))) (by decide))) (show bn 1 1 (1 : Int32) from bn_k (by decide)) (by decide)); have z8 := (B_92985).1; omega) (by have z7 := (B_92985).1; have z6 := (B_92985).2; omega))) (bit_1 er_92986.2 c_92987) (show y2_2.toInt < (n : Int) from (by have z1 := (cn_e (w2 := w.1) (show bn w.1.1 w.1.2 v_92982 from by rw [ev_92982]; exact IA_6 o_92981) hn); have z2 := (Int32.not_le.mp c_92983); rw [Int32.lt_iff_toInt_lt] at z2; omega))) rfl Y (lv_sub hl [3, 4, 5, 2, 1, 0] rfl)
        · have B_92989 : bn 0 0 r_92986 := bn_w (bn_eq c_92987 (show bn 0 0 (0 : Int32) from bn_k (by decide))) (by decide)
          refine lv_goto (tgt := 121) hx hb dX12_isInTime_21 (by decide) ?_
          obtain ⟨x_92995, ex_92995⟩ : ∃ z : Int32, z = y2_2 + 1 := ⟨_, rfl⟩
          refine lv_iinc (v := x_92995) (lv' := [(2, .int x_92995), (0, .ref (ad 0 0)), (1, .int i1)]) hx hb dX12_isInTime_121 hl (k := 2) rfl (by rw [ex_92995]; rfl) (by decide) rfl (fun ls hl => ?_)
          refine lv_goto (tgt := 2) hx hb dX12_isInTime_124 (by decide) ?_
          exact ih2 _ (by rw [← hm2]; exact ms_up (m := 1) ex_92995 (show bn 1 1 (1 : Int32) from bn_k (by decide)) B_92985 (bn_w (bn_eq ex_92995 (bn_add B_92985 (show bn 1 1 (1 : Int32) from bn_k (by decide)) (by decide))) (by decide) : bn 0 8 x_92995) (by decide)) x_92995  _ _ _  (bn_w (bn_eq ex_92995 (bn_add B_92985 (show bn 1 1 (1 : Int32) from bn_k (by decide)) (by decide))) (by decide)) ⟨by rw [(show x_92995.toInt.toNat = y2_2.toInt.toNat + 1 from sc_nat (by have z9 := (la_add ex_92995 (rfl : y2_2.toInt = y2_2.toInt) (show (1 : Int32).toInt = 1 from rfl) B_92985 (show bn 1 1 (1 : Int32) from bn_k (by decide)) (by decide)); omega) (B_92985).1)]; exact (itm_s0 hO9.1 (bit_0 er_92986.2 c_92987)), (by have z9 := (la_add ex_92995 (rfl : y2_2.toInt = y2_2.toInt) (show (1 : Int32).toInt = 1 from rfl) B_92985 (show bn 1 1 (1 : Int32) from bn_k (by decide)) (by decide)); have z8 : y2_2.toInt < (n : Int) := (by have z1 := (cn_e (w2 := w.1) (show bn w.1.1 w.1.2 v_92982 from by rw [ev_92982]; exact IA_6 o_92981) hn); have z2 := (Int32.not_le.mp c_92983); rw [Int32.lt_iff_toInt_lt] at z2; omega); omega)⟩ rfl Y (lv_sub hl [1, 2, 0] rfl)
  refine lv_iconst (v := 0) hx hb dX12_isInTime_0 (by decide) ?_
  refine lv_istore_n (lv' := [(2, .int 0), (0, .ref (ad 0 0)), (1, .int i1)]) hx hb dX12_isInTime_1 rfl hl (by decide) rfl (fun ls hl => ?_)
  exact J_2 _ 0  _ _ _  (bn_w (show bn 0 0 (0 : Int32) from bn_k (by decide)) (by decide)) ⟨rfl, by show (0 : Int) ≤ n; omega⟩ rfl Y (lv_sub hl [1, 2, 0] rfl)
theorem mst_q {wk du : Nat → Int32} {n : Nat} {x y : Int32} {p : Prop} (h : (x.toInt = (mst wk du n y.toInt.toNat : Int) ∧ 1 ≤ y.toInt ∧ y.toInt ≤ ((2 ^ n : Nat) : Int)) ∧ n ≤ 8 ∧ p) : bn 0 255 x := mst_b h.1 h.2.1
set_option maxHeartbeats 4000000 in
set_option maxRecDepth 100000 in
theorem x_X12_inTimeE {l : Launch} {G : GG}  {L : List Nat} {f : HF} {ad : Nat → Nat → Nat} {w : WW} {pi : (Nat → Int32) → Prop} {g0 : Nat → Int32} {i1 : Int32} {n : Nat} (I : SH (spM (IA 0 0 14 9999 w) pi (EQ g0) LDa) nnM G ad L f) (hB : BBp 0 0 14 9999 w) (hX : TX g0) (hn : w.1 = ((n : Int), (n : Int))) (hwb : WBd (mW w.2) (mD w.2) n) : PMp l yX12_inTime cX12_inTime 4 .int 2 0 0 G [.ref (ad 0 0), .int i1] L f (fun r => (r.toInt = inT (mW w.2) (mD w.2) n i1)) := by
  refine PMi.of (post := fun r L1 f1 => ((r.toInt = inT (mW w.2) (mD w.2) n i1)) ∧ L1 = L ∧ f1 = f) (own := RX12) (by decide) rfl (Nat.le_of_ble_eq_true rfl) (fun sz p e s m args below meth c A ls hA1 hname S Y hl => ?_)
  have hx := S.hx
  have hb := S.hb
  have hl : lv_has ls 4 [(0, .ref (ad 0 0)), (1, .int i1)] := hl
  have J_15 : ∀ (n15 : Nat) (y15_2 y15_3 : Int32) (H : Heap) (locs : List Loc) (ls : Array Slot), (bn 0 255 y15_2) → (bn 1 299 y15_3) → ((y15_2.toInt = (mst (mW w.2) (mD w.2) n y15_3.toInt.toNat : Int) ∧ 1 ≤ y15_3.toInt ∧ y15_3.toInt ≤ ((2 ^ n : Nat) : Int)) ∧ n ≤ 8 ∧ (0 ≤ i1.toInt ∧ i1.toInt ≤ 2)) → (((299 : Int) - y15_3.toInt).toNat = n15) → (DY G A s [] L f H locs) → (lv_has ls 4 [(0, .ref (ad 0 0)), (1, .int i1), (2, .int y15_2), (3, .int y15_3)]) → W p l e (rmD 2 0 0) s m args below meth c H locs (0) (0) (MQ below (va_Qi (fun r (u : List Nat × HF) => (fun r L1 f1 => ((r.toInt = inT (mW w.2) (mD w.2) n i1)) ∧ L1 = L ∧ f1 = f) r u.1 u.2) (fun u t => pOut G (va_A (va_pl L f) sz) u.1 u.2 t) (va_A (va_pl L f) sz)) args s 0 0 A) (F0 m 15 ls []) := by
    intro n15
    induction n15 using Nat.strongRecOn with
    | _ n15 ih15 =>
      intro y15_2 y15_3 H locs ls b_y15_2 b_y15_3 hM9 hm15 Y hl
      refine lv_iload_n hx hb dX12_inTime_15 rfl (lv_at hl 3 rfl) ?_
      refine lv_iconst (v := 1) hx hb dX12_inTime_16 (by decide) ?_
      refine lv_aload_n hx hb dX12_inTime_17 rfl (lv_at hl 0 rfl) ?_
      obtain ⟨v_95462, v_95464, v_95466, v_95468, v_95470, v_95472, v_95474, v_95476, v_95477, v_95479, v_95481, v_95483, v_95485, v_95487, v_95489, v_95491, v_95493, v_95495, p_ad_0_0, b_95463, b_95465, b_95467, b_95469, b_95471, b_95473, b_95475, b_95478, b_95480, b_95482, b_95484, b_95486, b_95488, b_95490, b_95492, b_95494, b_95496⟩ := opnM_0 (j := 0) I (by decide)
      have p_ad_0_0 : pt L f (ad 0 0) (.inr (12, [.ref (ad 1 0), .ref (ad 2 0), .ref (ad 3 0), .ref (ad 4 0), .int v_95462, .int v_95464, .int v_95466, .int v_95468, .int v_95470, .int v_95472, .int v_95474, .long v_95476, .int v_95477, .int v_95479, .int v_95481, .ref (ad 5 0), .ref (ad 6 0), .int v_95483, .int v_95485, .int v_95487, .int v_95489, .int v_95491, .ref (ad 7 0), .ref (ad 8 0), .ref (ad 9 0), .int v_95493, .ref (ad 10 0), .ref (ad 11 0), .ref (ad 12 0), .ref (ad 13 0), .int v_95495, .ref (ad 14 0)])) := p_ad_0_0
      refine pg_get S Y ok_X12 0 (by decide) kf12_7 (v := .ref (ad 1 0)) p_ad_0_0 rfl dX12_inTime_18 ?_
      refine lv_bipush (v := 6) hx hb dX12_inTime_21 (by decide) ?_
      obtain ⟨g_95497, p_ad_1_0, o_95498⟩ := I.opi (k := 1) (j := 0) (by decide) rfl
      have p_ad_1_0 : pt L f (ad 1 0) (.inl (G.2 0, 10568, .inl g_95497)) := p_ad_1_0
      obtain ⟨v_95499, ev_95499⟩ : ∃ z, z = g_95497 (6 : Int32).toNatClampNeg := ⟨_, rfl⟩
      refine pg_iald S Y (v := v_95499) p_ad_1_0 (by unfold vp_in; decide) ev_95499.symm dX12_inTime_23 ?_
      have bv_95499 : bn 0 8 v_95499 := bn_eq ev_95499 (bn_w (a' := 0) (b' := 8) (IA_6 o_95498) (by have h9 := hB; unfold BBp at h9; omega))
      refine lv_ishl hx hb dX12_inTime_24 ?_
      refine lv_topi (fun x_95500 ex_95500 => ?_)
      refine lv_icmp_ge (tgt := 55) hx hb dX12_inTime_25 (by decide) (fun c_95501 => ?_) (fun c_95501 => ?_)
      · refine lv_iload_n hx hb dX12_inTime_55 rfl (lv_at hl 1 rfl) ?_
        refine lv_if_ne (tgt := 66) hx hb dX12_inTime_56 (by decide) (fun c_95504 => ?_) (fun c_95504 => ?_)
        · refine lv_iload_n hx hb dX12_inTime_66 rfl (lv_at hl 1 rfl) ?_
          refine lv_iconst (v := 1) hx hb dX12_inTime_67 (by decide) ?_
          refine lv_icmp_ne (tgt := 75) hx hb dX12_inTime_68 (by decide) (fun c_95506 => ?_) (fun c_95506 => ?_)
          · refine lv_aload_n hx hb dX12_inTime_75 rfl (lv_at hl 0 rfl) ?_
            refine lv_iload_n hx hb dX12_inTime_76 rfl (lv_at hl 2 rfl) ?_
            refine cVp (As := [.int y15_2]) (rest := []) S Y (x_X12_workOfE (l := l) I hB hX (bn_w b_y15_2 (by decide)) hn hwb) cw_X12_workOf km12_431 p_ad_0_0 ok_X12.1 rfl rfl ⟨Nat.le_of_ble_eq_true rfl, Nat.le_of_ble_eq_true rfl⟩ hl.1 rfl (Nat.le_of_ble_eq_true rfl) ⟨Nat.le_of_ble_eq_true rfl, Nat.le_of_ble_eq_true rfl⟩ dX12_inTime_77 (fun r_95508 H locs er_95508 Y => ?_)
            exact prI (post := fun r L1 f1 => ((r.toInt = inT (mW w.2) (mD w.2) n i1)) ∧ L1 = L ∧ f1 = f) S Y rfl (by decide) (by decide) hA1 ⟨(inT_2 (inT_w hM9.2.2 c_95504 c_95506) (show y15_2.toInt = (mst (mW w.2) (mD w.2) n (2 ^ n) : Int) from by have z1 := sh_p ex_95500 (cn_e (w2 := w.1) (show bn w.1.1 w.1.2 v_95499 from by rw [ev_95499]; exact IA_6 o_95498) hn) hwb.1; have z2 := c_95501; rw [Int32.le_iff_toInt_le] at z2; have z3 := hM9.1.2.2; have z4 := hM9.1.1; rw [show y15_3.toInt.toNat = 2 ^ n by omega] at z4; exact z4) er_95508), rfl, rfl⟩ dX12_inTime_80
          · have B_95507 : bn 1 1 i1 := bn_w (bn_eq c_95506 (show bn 1 1 (1 : Int32) from bn_k (by decide))) (by decide)
            refine lv_iload_n hx hb dX12_inTime_71 rfl (lv_at hl 2 rfl) ?_
            refine lv_goto (tgt := 80) hx hb dX12_inTime_72 (by decide) ?_
            exact prI (post := fun r L1 f1 => ((r.toInt = inT (mW w.2) (mD w.2) n i1)) ∧ L1 = L ∧ f1 = f) S Y rfl (by decide) (by decide) hA1 ⟨(inT_1 (by rw [c_95506]; rfl) (show y15_2.toInt = (mst (mW w.2) (mD w.2) n (2 ^ n) : Int) from by have z1 := sh_p ex_95500 (cn_e (w2 := w.1) (show bn w.1.1 w.1.2 v_95499 from by rw [ev_95499]; exact IA_6 o_95498) hn) hwb.1; have z2 := c_95501; rw [Int32.le_iff_toInt_le] at z2; have z3 := hM9.1.2.2; have z4 := hM9.1.1; rw [show y15_3.toInt.toNat = 2 ^ n by omega] at z4; exact z4)), rfl, rfl⟩ dX12_inTime_80
        · have B_95505 : bn 0 0 i1 := bn_w (bn_eq c_95504 (show bn 0 0 (0 : Int32) from bn_k (by decide))) (by decide)
          refine lv_iload_n hx hb dX12_inTime_59 rfl (lv_at hl 2 rfl) ?_
          refine cSp (As := [.int y15_2]) (rest := []) S Y (x_X12_bitsE (l := l) (bn_w b_y15_2 (by decide))) cw_X12_bits km12_268 rfl ⟨Nat.le_of_ble_eq_true rfl, Nat.le_of_ble_eq_true rfl⟩ hl.1 rfl (Nat.le_of_ble_eq_true rfl) ⟨Nat.le_of_ble_eq_true rfl, Nat.le_of_ble_eq_true rfl⟩ dX12_inTime_60 (fun r_95509 H locs er_95509 Y => ?_)
          refine lv_goto (tgt := 80) hx hb dX12_inTime_63 (by decide) ?_
          exact prI (post := fun r L1 f1 => ((r.toInt = inT (mW w.2) (mD w.2) n i1)) ∧ L1 = L ∧ f1 = f) S Y rfl (by decide) (by decide) hA1 ⟨(inT_0 (by rw [c_95504]; rfl) (show y15_2.toInt = (mst (mW w.2) (mD w.2) n (2 ^ n) : Int) from by have z1 := sh_p ex_95500 (cn_e (w2 := w.1) (show bn w.1.1 w.1.2 v_95499 from by rw [ev_95499]; exact IA_6 o_95498) hn) hwb.1; have z2 := c_95501; rw [Int32.le_iff_toInt_le] at z2; have z3 := hM9.1.2.2; have z4 := hM9.1.1; rw [show y15_3.toInt.toNat = 2 ^ n by omega] at z4; exact z4) er_95509), rfl, rfl⟩ dX12_inTime_80
      · have B_95502 : bn 2 256 x_95500 := bn_w (bn_gtl c_95501 (bn_eq ex_95500 (bn_shl (n := 8) (bn_w bv_95499 (by decide) : bn 0 8 v_95499) (by decide) (by decide))) b_y15_3) (by decide)
        have B_95503 : bn 1 255 y15_3 := bn_w (bn_gtr c_95501 (bn_eq ex_95500 (bn_shl (n := 8) (bn_w bv_95499 (by decide) : bn 0 8 v_95499) (by decide) (by decide))) b_y15_3) (by decide)
        refine lv_iload_n hx hb dX12_inTime_28 rfl (lv_at hl 3 rfl) ?_
        refine cSp (As := [.int y15_3]) (rest := []) S Y (x_X12_bitsE (l := l) (bn_w B_95503 (by decide))) cw_X12_bits km12_268 rfl ⟨Nat.le_of_ble_eq_true rfl, Nat.le_of_ble_eq_true rfl⟩ hl.1 rfl (Nat.le_of_ble_eq_true rfl) ⟨Nat.le_of_ble_eq_true rfl, Nat.le_of_ble_eq_true rfl⟩ dX12_inTime_29 (fun r_95510 H locs er_95510 Y => ?_)
        refine lv_iload_n hx hb dX12_inTime_32 rfl (lv_at hl 2 rfl) ?_
        refine cSp (As := [.int y15_2]) (rest := [.int r_95510]) S Y (x_X12_bitsE (l := l) (bn_w b_y15_2 (by decide))) cw_X12_bits km12_268 rfl ⟨Nat.le_of_ble_eq_true rfl, Nat.le_of_ble_eq_true rfl⟩ hl.1 rfl (Nat.le_of_ble_eq_true rfl) ⟨Nat.le_of_ble_eq_true rfl, Nat.le_of_ble_eq_true rfl⟩ dX12_inTime_33 (fun r_95511 H locs er_95511 Y => ?_)
        refine lv_icmp_le (tgt := 49) hx hb dX12_inTime_36 (by decide) (fun c_95512 => ?_) (fun c_95512 => ?_)
        · obtain ⟨x_95515, ex_95515⟩ : ∃ z : Int32, z = y15_3 + 1 := ⟨_, rfl⟩
          refine lv_iinc (v := x_95515) (lv' := [(3, .int x_95515), (0, .ref (ad 0 0)), (1, .int i1), (2, .int y15_2)]) hx hb dX12_inTime_49 hl (k := 3) rfl (by rw [ex_95515]; rfl) (by decide) rfl (fun ls hl => ?_)
          refine lv_goto (tgt := 15) hx hb dX12_inTime_52 (by decide) ?_
          exact ih15 _ (by rw [← hm15]; exact ms_up (m := 1) ex_95515 (show bn 1 1 (1 : Int32) from bn_k (by decide)) B_95503 (bn_w (bn_eq ex_95515 (bn_add B_95503 (show bn 1 1 (1 : Int32) from bn_k (by decide)) (by decide))) (by decide) : bn 1 299 x_95515) (by decide)) y15_2 x_95515  _ _ _  (mst_q ⟨⟨by have z3 : (y15_2.toInt.toNat : Int) = (mst (mW w.2) (mD w.2) n (y15_3.toInt.toNat + 1) : Int) := (mst_s0 (m := y15_2.toInt.toNat) (by have z3 := hM9.1.1; have z4 := (mst_q hM9).1; omega) (fun q => by have z5 := er_95510; have z6 := er_95511; have z3 := hM9.1.1; rw [show y15_2.toInt.toNat = mst (mW w.2) (mD w.2) n y15_3.toInt.toNat by omega] at z6; have z2 := c_95512; rw [Int32.le_iff_toInt_le] at z2; have z7 := q.1; omega)); rw [(show x_95515.toInt.toNat = y15_3.toInt.toNat + 1 from sc_nat (by have z9 := (la_add ex_95515 (rfl : y15_3.toInt = y15_3.toInt) (show (1 : Int32).toInt = 1 from rfl) B_95503 (show bn 1 1 (1 : Int32) from bn_k (by decide)) (by decide)); omega) (by have z8 := (B_95503).1; omega)), ← z3]; have z4 := (mst_q hM9).1; omega, by have z9 := (la_add ex_95515 (rfl : y15_3.toInt = y15_3.toInt) (show (1 : Int32).toInt = 1 from rfl) B_95503 (show bn 1 1 (1 : Int32) from bn_k (by decide)) (by decide)); have z8 := (B_95503).1; omega, (by have z1 := sh_p ex_95500 (cn_e (w2 := w.1) (show bn w.1.1 w.1.2 v_95499 from by rw [ev_95499]; exact IA_6 o_95498) hn) hwb.1; have z2 := (Int32.not_le.mp c_95501); rw [Int32.lt_iff_toInt_lt] at z2; have z9 := (la_add ex_95515 (rfl : y15_3.toInt = y15_3.toInt) (show (1 : Int32).toInt = 1 from rfl) B_95503 (show bn 1 1 (1 : Int32) from bn_k (by decide)) (by decide)); omega)⟩, hM9.2⟩) (bn_w (bn_eq ex_95515 (bn_add B_95503 (show bn 1 1 (1 : Int32) from bn_k (by decide)) (by decide))) (by decide)) ⟨⟨by have z3 : (y15_2.toInt.toNat : Int) = (mst (mW w.2) (mD w.2) n (y15_3.toInt.toNat + 1) : Int) := (mst_s0 (m := y15_2.toInt.toNat) (by have z3 := hM9.1.1; have z4 := (mst_q hM9).1; omega) (fun q => by have z5 := er_95510; have z6 := er_95511; have z3 := hM9.1.1; rw [show y15_2.toInt.toNat = mst (mW w.2) (mD w.2) n y15_3.toInt.toNat by omega] at z6; have z2 := c_95512; rw [Int32.le_iff_toInt_le] at z2; have z7 := q.1; omega)); rw [(show x_95515.toInt.toNat = y15_3.toInt.toNat + 1 from sc_nat (by have z9 := (la_add ex_95515 (rfl : y15_3.toInt = y15_3.toInt) (show (1 : Int32).toInt = 1 from rfl) B_95503 (show bn 1 1 (1 : Int32) from bn_k (by decide)) (by decide)); omega) (by have z8 := (B_95503).1; omega)), ← z3]; have z4 := (mst_q hM9).1; omega, by have z9 := (la_add ex_95515 (rfl : y15_3.toInt = y15_3.toInt) (show (1 : Int32).toInt = 1 from rfl) B_95503 (show bn 1 1 (1 : Int32) from bn_k (by decide)) (by decide)); have z8 := (B_95503).1; omega, (by have z1 := sh_p ex_95500 (cn_e (w2 := w.1) (show bn w.1.1 w.1.2 v_95499 from by rw [ev_95499]; exact IA_6 o_95498) hn) hwb.1; have z2 := (Int32.not_le.mp c_95501); rw [Int32.lt_iff_toInt_lt] at z2; have z9 := (la_add ex_95515 (rfl : y15_3.toInt = y15_3.toInt) (show (1 : Int32).toInt = 1 from rfl) B_95503 (show bn 1 1 (1 : Int32) from bn_k (by decide)) (by decide)); omega)⟩, hM9.2⟩ rfl Y (lv_sub hl [1, 2, 3, 0] rfl)
        · have B_95513 : bn (-2147483647) 2147483647 r_95510 := bn_w (bn_gtl c_95512 (bn_any r_95510) (bn_any r_95511)) (by decide)
          have B_95514 : bn (-2147483648) 2147483646 r_95511 := bn_w (bn_gtr c_95512 (bn_any r_95510) (bn_any r_95511)) (by decide)
          refine lv_aload_n hx hb dX12_inTime_39 rfl (lv_at hl 0 rfl) ?_
          refine lv_iload_n hx hb dX12_inTime_40 rfl (lv_at hl 3 rfl) ?_
          refine cVp (As := [.int y15_3]) (rest := []) S Y (x_X12_isInTimeE (l := l) I hB hX (bn_w B_95503 (by decide)) hn hwb) cw_X12_isInTime km12_428 p_ad_0_0 ok_X12.1 rfl rfl ⟨Nat.le_of_ble_eq_true rfl, Nat.le_of_ble_eq_true rfl⟩ hl.1 rfl (Nat.le_of_ble_eq_true rfl) ⟨Nat.le_of_ble_eq_true rfl, Nat.le_of_ble_eq_true rfl⟩ dX12_inTime_41 (fun r_95516 H locs er_95516 Y => ?_)
          have br_95516 : bn 0 1 r_95516 := by rcases er_95516 with ⟨z, _⟩ | ⟨z, _⟩ <;> (rw [z]; exact bn_k (by decide))
          refine lv_if_eq (tgt := 49) hx hb dX12_inTime_44 (by decide) (fun c_95517 => ?_) (fun c_95517 => ?_)
          · have B_95518 : bn 0 0 r_95516 := bn_w (bn_eq c_95517 (show bn 0 0 (0 : Int32) from bn_k (by decide))) (by decide)
            obtain ⟨x_95520, ex_95520⟩ : ∃ z : Int32, z = y15_3 + 1 := ⟨_, rfl⟩
            refine lv_iinc (v := x_95520) (lv' := [(3, .int x_95520), (0, .ref (ad 0 0)), (1, .int i1), (2, .int y15_2)]) hx hb dX12_inTime_49 hl (k := 3) rfl (by rw [ex_95520]; rfl) (by decide) rfl (fun ls hl => ?_)
            refine lv_goto (tgt := 15) hx hb dX12_inTime_52 (by decide) ?_
            exact ih15 _ (by rw [← hm15]; exact ms_up (m := 1) ex_95520 (show bn 1 1 (1 : Int32) from bn_k (by decide)) B_95503 (bn_w (bn_eq ex_95520 (bn_add B_95503 (show bn 1 1 (1 : Int32) from bn_k (by decide)) (by decide))) (by decide) : bn 1 299 x_95520) (by decide)) y15_2 x_95520  _ _ _  (mst_q ⟨⟨by have z3 : (y15_2.toInt.toNat : Int) = (mst (mW w.2) (mD w.2) n (y15_3.toInt.toNat + 1) : Int) := (mst_s0 (m := y15_2.toInt.toNat) (by have z3 := hM9.1.1; have z4 := (mst_q hM9).1; omega) (fun q => ii_no er_95516 c_95517 q.2)); rw [(show x_95520.toInt.toNat = y15_3.toInt.toNat + 1 from sc_nat (by have z9 := (la_add ex_95520 (rfl : y15_3.toInt = y15_3.toInt) (show (1 : Int32).toInt = 1 from rfl) B_95503 (show bn 1 1 (1 : Int32) from bn_k (by decide)) (by decide)); omega) (by have z8 := (B_95503).1; omega)), ← z3]; have z4 := (mst_q hM9).1; omega, by have z9 := (la_add ex_95520 (rfl : y15_3.toInt = y15_3.toInt) (show (1 : Int32).toInt = 1 from rfl) B_95503 (show bn 1 1 (1 : Int32) from bn_k (by decide)) (by decide)); have z8 := (B_95503).1; omega, (by have z1 := sh_p ex_95500 (cn_e (w2 := w.1) (show bn w.1.1 w.1.2 v_95499 from by rw [ev_95499]; exact IA_6 o_95498) hn) hwb.1; have z2 := (Int32.not_le.mp c_95501); rw [Int32.lt_iff_toInt_lt] at z2; have z9 := (la_add ex_95520 (rfl : y15_3.toInt = y15_3.toInt) (show (1 : Int32).toInt = 1 from rfl) B_95503 (show bn 1 1 (1 : Int32) from bn_k (by decide)) (by decide)); omega)⟩, hM9.2⟩) (bn_w (bn_eq ex_95520 (bn_add B_95503 (show bn 1 1 (1 : Int32) from bn_k (by decide)) (by decide))) (by decide)) ⟨⟨by have z3 : (y15_2.toInt.toNat : Int) = (mst (mW w.2) (mD w.2) n (y15_3.toInt.toNat + 1) : Int) := (mst_s0 (m := y15_2.toInt.toNat) (by have z3 := hM9.1.1; have z4 := (mst_q hM9).1; omega) (fun q => ii_no er_95516 c_95517 q.2)); rw [(show x_95520.toInt.toNat = y15_3.toInt.toNat + 1 from sc_nat (by have z9 := (la_add ex_95520 (rfl : y15_3.toInt = y15_3.toInt) (show (1 : Int32).toInt = 1 from rfl) B_95503 (show bn 1 1 (1 : Int32) from bn_k (by decide)) (by decide)); omega) (by have z8 := (B_95503).1; omega)), ← z3]; have z4 := (mst_q hM9).1; omega, by have z9 := (la_add ex_95520 (rfl : y15_3.toInt = y15_3.toInt) (show (1 : Int32).toInt = 1 from rfl) B_95503 (show bn 1 1 (1 : Int32) from bn_k (by decide)) (by decide)); have z8 := (B_95503).1; omega, (by have z1 := sh_p ex_95500 (cn_e (w2 := w.1) (show bn w.1.1 w.1.2 v_95499 from by rw [ev_95499]; exact IA_6 o_95498) hn) hwb.1; have z2 := (Int32.not_le.mp c_95501); rw [Int32.lt_iff_toInt_lt] at z2; have z9 := (la_add ex_95520 (rfl : y15_3.toInt = y15_3.toInt) (show (1 : Int32).toInt = 1 from rfl) B_95503 (show bn 1 1 (1 : Int32) from bn_k (by decide)) (by decide)); omega)⟩, hM9.2⟩ rfl Y (lv_sub hl [1, 2, 3, 0] rfl)
          · have B_95519 : bn 1 1 r_95516 := bn_w (bn_nel c_95517 br_95516 (show bn 0 0 (0 : Int32) from bn_k (by decide))) (by decide)
            refine lv_iload_n hx hb dX12_inTime_47 rfl (lv_at hl 3 rfl) ?_
            refine lv_istore_n (lv' := [(2, .int y15_3), (0, .ref (ad 0 0)), (1, .int i1), (3, .int y15_3)]) hx hb dX12_inTime_48 rfl hl (by decide) rfl (fun ls hl => ?_)
            obtain ⟨x_95521, ex_95521⟩ : ∃ z : Int32, z = y15_3 + 1 := ⟨_, rfl⟩
            refine lv_iinc (v := x_95521) (lv' := [(3, .int x_95521), (2, .int y15_3), (0, .ref (ad 0 0)), (1, .int i1)]) hx hb dX12_inTime_49 hl (k := 3) rfl (by rw [ex_95521]; rfl) (by decide) rfl (fun ls hl => ?_)
            refine lv_goto (tgt := 15) hx hb dX12_inTime_52 (by decide) ?_
            exact ih15 _ (by rw [← hm15]; exact ms_up (m := 1) ex_95521 (show bn 1 1 (1 : Int32) from bn_k (by decide)) B_95503 (bn_w (bn_eq ex_95521 (bn_add B_95503 (show bn 1 1 (1 : Int32) from bn_k (by decide)) (by decide))) (by decide) : bn 1 299 x_95521) (by decide)) y15_3 x_95521  _ _ _  (mst_q ⟨⟨by have z3 : (y15_3.toInt.toNat : Int) = (mst (mW w.2) (mD w.2) n (y15_3.toInt.toNat + 1) : Int) := (mst_s1 (by have z5 := er_95510; have z6 := er_95511; have z3 := hM9.1.1; rw [show y15_2.toInt.toNat = mst (mW w.2) (mD w.2) n y15_3.toInt.toNat by omega] at z6; have z2 := (Int32.not_le.mp c_95512); rw [Int32.lt_iff_toInt_lt] at z2; omega) (ii_yes er_95516 c_95517)); rw [(show x_95521.toInt.toNat = y15_3.toInt.toNat + 1 from sc_nat (by have z9 := (la_add ex_95521 (rfl : y15_3.toInt = y15_3.toInt) (show (1 : Int32).toInt = 1 from rfl) B_95503 (show bn 1 1 (1 : Int32) from bn_k (by decide)) (by decide)); omega) (by have z8 := (B_95503).1; omega)), ← z3]; have z4 := (B_95503).1; omega, by have z9 := (la_add ex_95521 (rfl : y15_3.toInt = y15_3.toInt) (show (1 : Int32).toInt = 1 from rfl) B_95503 (show bn 1 1 (1 : Int32) from bn_k (by decide)) (by decide)); have z8 := (B_95503).1; omega, (by have z1 := sh_p ex_95500 (cn_e (w2 := w.1) (show bn w.1.1 w.1.2 v_95499 from by rw [ev_95499]; exact IA_6 o_95498) hn) hwb.1; have z2 := (Int32.not_le.mp c_95501); rw [Int32.lt_iff_toInt_lt] at z2; have z9 := (la_add ex_95521 (rfl : y15_3.toInt = y15_3.toInt) (show (1 : Int32).toInt = 1 from rfl) B_95503 (show bn 1 1 (1 : Int32) from bn_k (by decide)) (by decide)); omega)⟩, hM9.2⟩) (bn_w (bn_eq ex_95521 (bn_add B_95503 (show bn 1 1 (1 : Int32) from bn_k (by decide)) (by decide))) (by decide)) ⟨⟨by have z3 : (y15_3.toInt.toNat : Int) = (mst (mW w.2) (mD w.2) n (y15_3.toInt.toNat + 1) : Int) := (mst_s1 (by have z5 := er_95510; have z6 := er_95511; have z3 := hM9.1.1; rw [show y15_2.toInt.toNat = mst (mW w.2) (mD w.2) n y15_3.toInt.toNat by omega] at z6; have z2 := (Int32.not_le.mp c_95512); rw [Int32.lt_iff_toInt_lt] at z2; omega) (ii_yes er_95516 c_95517)); rw [(show x_95521.toInt.toNat = y15_3.toInt.toNat + 1 from sc_nat (by have z9 := (la_add ex_95521 (rfl : y15_3.toInt = y15_3.toInt) (show (1 : Int32).toInt = 1 from rfl) B_95503 (show bn 1 1 (1 : Int32) from bn_k (by decide)) (by decide)); omega) (by have z8 := (B_95503).1; omega)), ← z3]; have z4 := (B_95503).1; omega, by have z9 := (la_add ex_95521 (rfl : y15_3.toInt = y15_3.toInt) (show (1 : Int32).toInt = 1 from rfl) B_95503 (show bn 1 1 (1 : Int32) from bn_k (by decide)) (by decide)); have z8 := (B_95503).1; omega, (by have z1 := sh_p ex_95500 (cn_e (w2 := w.1) (show bn w.1.1 w.1.2 v_95499 from by rw [ev_95499]; exact IA_6 o_95498) hn) hwb.1; have z2 := (Int32.not_le.mp c_95501); rw [Int32.lt_iff_toInt_lt] at z2; have z9 := (la_add ex_95521 (rfl : y15_3.toInt = y15_3.toInt) (show (1 : Int32).toInt = 1 from rfl) B_95503 (show bn 1 1 (1 : Int32) from bn_k (by decide)) (by decide)); omega)⟩, hM9.2⟩ rfl Y (lv_sub hl [2, 3, 1, 0] rfl)
  refine lv_iload_n hx hb dX12_inTime_0 rfl (lv_at hl 1 rfl) ?_
  refine lv_iconst (v := 0) hx hb dX12_inTime_1 (by decide) ?_
  refine lv_iconst (v := 2) hx hb dX12_inTime_2 (by decide) ?_
  refine cSp (As := [.int i1, .int 0, .int 2]) (rest := []) S Y (x_X12_isInX (l := l) ) cw_X12_isIn km12_69 rfl ⟨Nat.le_of_ble_eq_true rfl, Nat.le_of_ble_eq_true rfl⟩ hl.1 rfl (Nat.le_of_ble_eq_true rfl) ⟨Nat.le_of_ble_eq_true rfl, Nat.le_of_ble_eq_true rfl⟩ dX12_inTime_3 (fun r_95522 H locs er_95522 Y => ?_)
  refine lv_if_ne (tgt := 11) hx hb dX12_inTime_6 (by decide) (fun c_95523 => ?_) (fun c_95523 => ?_)
  · refine lv_iconst (v := 0) hx hb dX12_inTime_11 (by decide) ?_
    refine lv_istore_n (lv' := [(2, .int 0), (0, .ref (ad 0 0)), (1, .int i1)]) hx hb dX12_inTime_12 rfl hl (by decide) rfl (fun ls hl => ?_)
    refine lv_iconst (v := 1) hx hb dX12_inTime_13 (by decide) ?_
    refine lv_istore_n (lv' := [(3, .int 1), (2, .int 0), (0, .ref (ad 0 0)), (1, .int i1)]) hx hb dX12_inTime_14 rfl hl (by decide) rfl (fun ls hl => ?_)
    exact J_15 _ 0 1  _ _ _  (mst_q (show ((0 : Int32).toInt = (mst (mW w.2) (mD w.2) n (1 : Int32).toInt.toNat : Int) ∧ 1 ≤ (1 : Int32).toInt ∧ (1 : Int32).toInt ≤ ((2 ^ n : Nat) : Int)) ∧ n ≤ 8 ∧ (0 ≤ i1.toInt ∧ i1.toInt ≤ 2) from ⟨⟨by rw [show (1 : Int32).toInt.toNat = 1 from rfl, mst_1]; rfl, by decide, by have := Nat.one_le_two_pow (n := n); show (1 : Int) ≤ _; omega⟩, hwb.1, winM_t er_95522 c_95523⟩)) (bn_w (show bn 1 1 (1 : Int32) from bn_k (by decide)) (by decide)) (show ((0 : Int32).toInt = (mst (mW w.2) (mD w.2) n (1 : Int32).toInt.toNat : Int) ∧ 1 ≤ (1 : Int32).toInt ∧ (1 : Int32).toInt ≤ ((2 ^ n : Nat) : Int)) ∧ n ≤ 8 ∧ (0 ≤ i1.toInt ∧ i1.toInt ≤ 2) from ⟨⟨by rw [show (1 : Int32).toInt.toNat = 1 from rfl, mst_1]; rfl, by decide, by have := Nat.one_le_two_pow (n := n); show (1 : Int) ≤ _; omega⟩, hwb.1, winM_t er_95522 c_95523⟩) rfl Y (lv_sub hl [2, 3, 1, 0] rfl)
  · have B_95524 : bn 0 0 r_95522 := bn_w (bn_eq c_95523 (show bn 0 0 (0 : Int32) from bn_k (by decide))) (by decide)
    refine lv_iconst (v := (-1)) hx hb dX12_inTime_9 (by decide) ?_
    exact prI (post := fun r L1 f1 => ((r.toInt = inT (mW w.2) (mD w.2) n i1)) ∧ L1 = L ∧ f1 = f) S Y rfl (by decide) (by decide) hA1 ⟨(inT_n (winM_f er_95522 c_95523)), rfl, rfl⟩ dX12_inTime_10
