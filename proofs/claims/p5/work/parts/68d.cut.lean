theorem dX5_wordNumber_0 : decode cX5_wordNumber 0 = .ok (.iconst 0, 1) := by decide +kernel
theorem dX5_wordNumber_1 : decode cX5_wordNumber 1 = .ok (.istore_n 3, 1) := by decide +kernel
theorem dX5_wordNumber_2 : decode cX5_wordNumber 2 = .ok (.iconst 0, 1) := by decide +kernel
theorem dX5_wordNumber_3 : decode cX5_wordNumber 3 = .ok (.istore 4, 2) := by decide +kernel
theorem dX5_wordNumber_5 : decode cX5_wordNumber 5 = .ok (.iconst 0, 1) := by decide +kernel
theorem dX5_wordNumber_6 : decode cX5_wordNumber 6 = .ok (.istore 5, 2) := by decide +kernel
theorem dX5_wordNumber_8 : decode cX5_wordNumber 8 = .ok (.iload 5, 2) := by decide +kernel
theorem dX5_wordNumber_10 : decode cX5_wordNumber 10 = .ok (.ldc 93, 2) := by decide +kernel
theorem dX5_wordNumber_12 : decode cX5_wordNumber 12 = .ok (.invokevirtual 95, 3) := by decide +kernel
theorem km5_95 : inW (Cond.methodLink RX5 95 yJ0_length_8abf5) := ⟨List.mem_of_getElem? (i := 604) (by decide +kernel), by decide +kernel⟩
theorem dX5_wordNumber_15 : decode cX5_wordNumber 15 = .ok (.if_icmp .ge 55, 3) := by decide +kernel
theorem dX5_wordNumber_18 : decode cX5_wordNumber 18 = .ok (.ldc 93, 2) := by decide +kernel
theorem dX5_wordNumber_20 : decode cX5_wordNumber 20 = .ok (.iload 5, 2) := by decide +kernel
theorem dX5_wordNumber_22 : decode cX5_wordNumber 22 = .ok (.invokevirtual 100, 3) := by decide +kernel
theorem dX5_wordNumber_25 : decode cX5_wordNumber 25 = .ok (.bipush 32, 2) := by decide +kernel
theorem dX5_wordNumber_27 : decode cX5_wordNumber 27 = .ok (.if_icmp .ne 37, 3) := by decide +kernel
theorem dX5_wordNumber_64 : decode cX5_wordNumber 64 = .ok (.iinc 5 1, 3) := by decide +kernel
theorem dX5_wordNumber_67 : decode cX5_wordNumber 67 = .ok (.goto (-59), 3) := by decide +kernel
theorem dX5_wordNumber_30 : decode cX5_wordNumber 30 = .ok (.iload 5, 2) := by decide +kernel
theorem dX5_wordNumber_32 : decode cX5_wordNumber 32 = .ok (.iload 4, 2) := by decide +kernel
theorem dX5_wordNumber_34 : decode cX5_wordNumber 34 = .ok (.isub, 1) := by decide +kernel
theorem dX5_wordNumber_35 : decode cX5_wordNumber 35 = .ok (.iload_n 2, 1) := by decide +kernel
theorem dX5_wordNumber_36 : decode cX5_wordNumber 36 = .ok (.iload_n 1, 1) := by decide +kernel
theorem dX5_wordNumber_37 : decode cX5_wordNumber 37 = .ok (.isub, 1) := by decide +kernel
theorem dX5_wordNumber_38 : decode cX5_wordNumber 38 = .ok (.if_icmp .ne 17, 3) := by decide +kernel
theorem dX5_wordNumber_55 : decode cX5_wordNumber 55 = .ok (.iinc 3 1, 3) := by decide +kernel
theorem dX5_wordNumber_58 : decode cX5_wordNumber 58 = .ok (.iload 5, 2) := by decide +kernel
theorem dX5_wordNumber_60 : decode cX5_wordNumber 60 = .ok (.iconst 1, 1) := by decide +kernel
theorem dX5_wordNumber_61 : decode cX5_wordNumber 61 = .ok (.iadd, 1) := by decide +kernel
theorem dX5_wordNumber_62 : decode cX5_wordNumber 62 = .ok (.istore 4, 2) := by decide +kernel
theorem dX5_wordNumber_41 : decode cX5_wordNumber 41 = .ok (.aload_n 0, 1) := by decide +kernel
theorem dX5_wordNumber_42 : decode cX5_wordNumber 42 = .ok (.iload 4, 2) := by decide +kernel
theorem dX5_wordNumber_44 : decode cX5_wordNumber 44 = .ok (.iload 5, 2) := by decide +kernel
theorem dX5_wordNumber_46 : decode cX5_wordNumber 46 = .ok (.iload_n 1, 1) := by decide +kernel
theorem dX5_wordNumber_47 : decode cX5_wordNumber 47 = .ok (.invokevirtual 104, 3) := by decide +kernel
theorem cw_X5_isWord : CWv yX5_isWord cX5_isWord 5 (some .boolean) 3 := ⟨⟨⟨List.mem_of_getElem? (i := 130) (by decide +kernel), by decide +kernel⟩, ⟨List.mem_of_getElem? (i := 655) (by decide +kernel), by decide +kernel⟩, by decide +kernel⟩, ⟨List.mem_of_getElem? (i := 654) (by decide +kernel), by decide +kernel⟩, ⟨List.mem_of_getElem? (i := 4) (by decide +kernel), by decide +kernel⟩⟩
theorem km5_104 : inW (Cond.methodLink RX5 104 yX5_isWord) := ⟨List.mem_of_getElem? (i := 652) (by decide +kernel), by decide +kernel⟩
theorem dX5_wordNumber_50 : decode cX5_wordNumber 50 = .ok (.ifCond .eq 5, 3) := by decide +kernel
theorem dX5_wordNumber_53 : decode cX5_wordNumber 53 = .ok (.iload_n 3, 1) := by decide +kernel
theorem dX5_wordNumber_54 : decode cX5_wordNumber 54 = .ok (.ireturn, 1) := by decide +kernel
theorem dX5_wordNumber_70 : decode cX5_wordNumber 70 = .ok (.sipush 1001, 3) := by decide +kernel
theorem dX5_wordNumber_73 : decode cX5_wordNumber 73 = .ok (.ireturn, 1) := by decide +kernel
theorem dX5_cutWord_0 : decode cX5_cutWord 0 = .ok (.iload_n 1, 1) := by decide +kernel
theorem dX5_cutWord_1 : decode cX5_cutWord 1 = .ok (.istore_n 2, 1) := by decide +kernel
theorem dX5_cutWord_2 : decode cX5_cutWord 2 = .ok (.iload_n 2, 1) := by decide +kernel
theorem dX5_cutWord_3 : decode cX5_cutWord 3 = .ok (.aload_n 0, 1) := by decide +kernel
theorem dX5_cutWord_4 : decode cX5_cutWord 4 = .ok (.getfield 31, 3) := by decide +kernel
theorem dX5_cutWord_7 : decode cX5_cutWord 7 = .ok (.if_icmp .ge 20, 3) := by decide +kernel
theorem dX5_cutWord_27 : decode cX5_cutWord 27 = .ok (.aload_n 0, 1) := by decide +kernel
theorem dX5_cutWord_28 : decode cX5_cutWord 28 = .ok (.aload_n 0, 1) := by decide +kernel
theorem dX5_cutWord_29 : decode cX5_cutWord 29 = .ok (.iload_n 1, 1) := by decide +kernel
theorem dX5_cutWord_30 : decode cX5_cutWord 30 = .ok (.iload_n 2, 1) := by decide +kernel
theorem dX5_cutWord_31 : decode cX5_cutWord 31 = .ok (.invokevirtual 89, 3) := by decide +kernel
theorem cw_X5_wordNumber : CWv yX5_wordNumber cX5_wordNumber 6 (some .int) 2 := ⟨⟨⟨List.mem_of_getElem? (i := 130) (by decide +kernel), by decide +kernel⟩, ⟨List.mem_of_getElem? (i := 602) (by decide +kernel), by decide +kernel⟩, by decide +kernel⟩, ⟨List.mem_of_getElem? (i := 601) (by decide +kernel), by decide +kernel⟩, ⟨List.mem_of_getElem? (i := 3) (by decide +kernel), by decide +kernel⟩⟩
theorem km5_89 : inW (Cond.methodLink RX5 89 yX5_wordNumber) := ⟨List.mem_of_getElem? (i := 599) (by decide +kernel), by decide +kernel⟩
theorem dX5_cutWord_34 : decode cX5_cutWord 34 = .ok (.iload_n 1, 1) := by decide +kernel
theorem dX5_cutWord_35 : decode cX5_cutWord 35 = .ok (.iconst 0, 1) := by decide +kernel
theorem dX5_cutWord_36 : decode cX5_cutWord 36 = .ok (.invokevirtual 85, 3) := by decide +kernel
theorem cw_X5_addToken : CWv yX5_addToken cX5_addToken 4 none 3 := ⟨⟨⟨List.mem_of_getElem? (i := 130) (by decide +kernel), by decide +kernel⟩, ⟨List.mem_of_getElem? (i := 659) (by decide +kernel), by decide +kernel⟩, by decide +kernel⟩, ⟨List.mem_of_getElem? (i := 658) (by decide +kernel), by decide +kernel⟩, ⟨List.mem_of_getElem? (i := 5) (by decide +kernel), by decide +kernel⟩⟩
theorem km5_85 : inW (Cond.methodLink RX5 85 yX5_addToken) := ⟨List.mem_of_getElem? (i := 656) (by decide +kernel), by decide +kernel⟩
theorem dX5_cutWord_39 : decode cX5_cutWord 39 = .ok (.iload_n 2, 1) := by decide +kernel
theorem dX5_cutWord_40 : decode cX5_cutWord 40 = .ok (.ireturn, 1) := by decide +kernel
theorem dX5_cutWord_10 : decode cX5_cutWord 10 = .ok (.aload_n 0, 1) := by decide +kernel
theorem dX5_cutWord_11 : decode cX5_cutWord 11 = .ok (.iload_n 2, 1) := by decide +kernel
theorem dX5_cutWord_12 : decode cX5_cutWord 12 = .ok (.invokevirtual 65, 3) := by decide +kernel
theorem dX5_cutWord_15 : decode cX5_cutWord 15 = .ok (.invokestatic 69, 3) := by decide +kernel
theorem cw_X5_isLetter : CWs yX5_isLetter cX5_isLetter 1 (some .boolean) 1 := ⟨⟨⟨List.mem_of_getElem? (i := 130) (by decide +kernel), by decide +kernel⟩, ⟨List.mem_of_getElem? (i := 594) (by decide +kernel), by decide +kernel⟩, by decide +kernel⟩, ⟨List.mem_of_getElem? (i := 593) (by decide +kernel), by decide +kernel⟩⟩
theorem km5_69 : inW (Cond.methodLink RX5 69 yX5_isLetter) := ⟨List.mem_of_getElem? (i := 592) (by decide +kernel), by decide +kernel⟩
theorem dX5_cutWord_18 : decode cX5_cutWord 18 = .ok (.ifCond .eq 9, 3) := by decide +kernel
theorem dX5_cutWord_21 : decode cX5_cutWord 21 = .ok (.iinc 2 1, 3) := by decide +kernel
theorem dX5_cutWord_24 : decode cX5_cutWord 24 = .ok (.goto (-22), 3) := by decide +kernel
theorem dX5_cutNumber_0 : decode cX5_cutNumber 0 = .ok (.iload_n 1, 1) := by decide +kernel
theorem dX5_cutNumber_1 : decode cX5_cutNumber 1 = .ok (.istore_n 2, 1) := by decide +kernel
theorem dX5_cutNumber_2 : decode cX5_cutNumber 2 = .ok (.iconst 0, 1) := by decide +kernel
theorem dX5_cutNumber_3 : decode cX5_cutNumber 3 = .ok (.istore_n 3, 1) := by decide +kernel
theorem dX5_cutNumber_4 : decode cX5_cutNumber 4 = .ok (.iload_n 2, 1) := by decide +kernel
theorem dX5_cutNumber_5 : decode cX5_cutNumber 5 = .ok (.aload_n 0, 1) := by decide +kernel
theorem dX5_cutNumber_6 : decode cX5_cutNumber 6 = .ok (.getfield 31, 3) := by decide +kernel
theorem dX5_cutNumber_9 : decode cX5_cutNumber 9 = .ok (.if_icmp .ge 40, 3) := by decide +kernel
theorem dX5_cutNumber_49 : decode cX5_cutNumber 49 = .ok (.aload_n 0, 1) := by decide +kernel
theorem dX5_cutNumber_50 : decode cX5_cutNumber 50 = .ok (.sipush 1000, 3) := by decide +kernel
theorem dX5_cutNumber_53 : decode cX5_cutNumber 53 = .ok (.iload_n 1, 1) := by decide +kernel
theorem dX5_cutNumber_54 : decode cX5_cutNumber 54 = .ok (.iload_n 3, 1) := by decide +kernel
theorem dX5_cutNumber_55 : decode cX5_cutNumber 55 = .ok (.invokevirtual 85, 3) := by decide +kernel
theorem dX5_cutNumber_58 : decode cX5_cutNumber 58 = .ok (.iload_n 2, 1) := by decide +kernel
theorem dX5_cutNumber_59 : decode cX5_cutNumber 59 = .ok (.ireturn, 1) := by decide +kernel
theorem dX5_cutNumber_12 : decode cX5_cutNumber 12 = .ok (.aload_n 0, 1) := by decide +kernel
theorem dX5_cutNumber_13 : decode cX5_cutNumber 13 = .ok (.iload_n 2, 1) := by decide +kernel
theorem dX5_cutNumber_14 : decode cX5_cutNumber 14 = .ok (.invokevirtual 65, 3) := by decide +kernel
theorem dX5_cutNumber_17 : decode cX5_cutNumber 17 = .ok (.invokestatic 76, 3) := by decide +kernel
theorem cw_X5_isDigit : CWs yX5_isDigit cX5_isDigit 1 (some .boolean) 1 := ⟨⟨⟨List.mem_of_getElem? (i := 130) (by decide +kernel), by decide +kernel⟩, ⟨List.mem_of_getElem? (i := 662) (by decide +kernel), by decide +kernel⟩, by decide +kernel⟩, ⟨List.mem_of_getElem? (i := 661) (by decide +kernel), by decide +kernel⟩⟩
theorem km5_76 : inW (Cond.methodLink RX5 76 yX5_isDigit) := ⟨List.mem_of_getElem? (i := 660) (by decide +kernel), by decide +kernel⟩
theorem dX5_cutNumber_20 : decode cX5_cutNumber 20 = .ok (.ifCond .eq 29, 3) := by decide +kernel
theorem dX5_cutNumber_23 : decode cX5_cutNumber 23 = .ok (.sipush 10000, 3) := by decide +kernel
theorem dX5_cutNumber_26 : decode cX5_cutNumber 26 = .ok (.iload_n 3, 1) := by decide +kernel
theorem dX5_cutNumber_27 : decode cX5_cutNumber 27 = .ok (.bipush 10, 2) := by decide +kernel
theorem dX5_cutNumber_29 : decode cX5_cutNumber 29 = .ok (.imul, 1) := by decide +kernel
theorem dX5_cutNumber_30 : decode cX5_cutNumber 30 = .ok (.aload_n 0, 1) := by decide +kernel
theorem dX5_cutNumber_31 : decode cX5_cutNumber 31 = .ok (.iload_n 2, 1) := by decide +kernel
theorem dX5_cutNumber_32 : decode cX5_cutNumber 32 = .ok (.invokevirtual 65, 3) := by decide +kernel
theorem dX5_cutNumber_35 : decode cX5_cutNumber 35 = .ok (.iadd, 1) := by decide +kernel
theorem dX5_cutNumber_36 : decode cX5_cutNumber 36 = .ok (.bipush 48, 2) := by decide +kernel
theorem dX5_cutNumber_38 : decode cX5_cutNumber 38 = .ok (.isub, 1) := by decide +kernel
theorem dX5_cutNumber_39 : decode cX5_cutNumber 39 = .ok (.invokestatic 108, 3) := by decide +kernel
theorem dX5_cutNumber_42 : decode cX5_cutNumber 42 = .ok (.istore_n 3, 1) := by decide +kernel
theorem dX5_cutNumber_43 : decode cX5_cutNumber 43 = .ok (.iinc 2 1, 3) := by decide +kernel
theorem dX5_cutNumber_46 : decode cX5_cutNumber 46 = .ok (.goto (-42), 3) := by decide +kernel
section WNR
variable {W : List Int} {m a n : Nat} {x3 x4 x5 y3 y4 y5 x y : Int32} {B : Nat → Int} {p : Nat} {v : Int}
def WNI (W : List Int) (m : Nat) (y3 y4 y5 : Int32) : Prop := y5.toInt = (m : Int) ∧ m ≤ 153 ∧ y3.toInt = ((wst m).1 : Int) ∧ y4.toInt = ((wst m).2 : Int) ∧ wdF wds 0 W = wdF (wds.drop (wst m).1) ((wst m).1 : Int) W
theorem wn_0 : WNI W 0 0 0 0 := ⟨rfl, by decide, rfl, rfl, rfl⟩
theorem wn_n (h : WNI W m y3 y4 y5) (hm : m < 153) (hb : ¬ wB m = 32) (e5 : x5.toInt = y5.toInt + 1) : WNI W (m + 1) y3 y4 x5 := by
  obtain ⟨h1, h2, h3, h4, h5⟩ := h
  refine ⟨by omega, by omega, ?_, ?_, wd_same hb h5⟩
  · rw [wst_n hb]; exact h3
  · rw [wst_n hb]; exact h4
theorem add1 (e : x = y + 1) (h : 0 ≤ y.toInt ∧ y.toInt ≤ 1000) : x.toInt = y.toInt + 1 := by
  rw [e]; exact ti_add (by rw [show (1 : Int32).toInt = 1 from rfl]; omega) (by rw [show (1 : Int32).toInt = 1 from rfl]; omega)
theorem wn_y (h : WNI W m y3 y4 y5) (hm : m < 153) (hb : wB m = 32) (hw : slW (wst m).2 m ≠ W) (e3 : x3 = y3 + 1) (e4 : x4.toInt = y5.toInt + 1) (e5 : x5.toInt = y5.toInt + 1) : WNI W (m + 1) x3 x4 x5 := by
  obtain ⟨h1, h2, h3, h4, h5⟩ := h
  have w := wst_le m
  have e3 := add1 e3 (by omega)
  refine ⟨by omega, by omega, ?_, ?_, wd_miss hm hb h5 hw⟩
  · rw [wst_y hb]; show x3.toInt = (((wst m).1 + 1 : Nat) : Int); omega
  · rw [wst_y hb]; show x4.toInt = ((m + 1 : Nat) : Int); omega
end WNR
set_option maxHeartbeats 4000000 in
set_option maxRecDepth 100000 in
theorem x_X5_wordNumber {l : Launch} {G : GG}  {L : List Nat} {f : HF} {ad : Nat → Nat → Nat} {zC : Int × Int} {zR : Int × Int} {zK : Int × Int} {zP : Int × Int} {zV : Int × Int} {zW : Int × Int} {zF : Int × Int} {zQ : Int × Int} {tU : (Nat → Int32) → Prop} {tP : (Nat → Int32) → Prop} {tV : (Nat → Int32) → Prop} {rf : FS} {sc : Nat → SG} {bT : Nat → Int32} {nN : Nat} {fc : Int × Int} {tc w : Nat → Int × Int} {q : Nat → (Nat → Int32) → Prop} {aK aV : Nat → Nat} {z0 : Option Nat} {i1 i2 : Int32} {tT fT : Nat} (I : SH (spC ((rf, fz (pp (nN : Int)) zC zR zK zP zV zW zF zQ, tz (EQ bT) tU tP tV, sc) : RS) fc tc w q) nnC G ad L f) (hW : WBp w 8) (hT : WBp tc 4) (hQ : QIp q) (b_i1 : bn 0 300 i1) (b_i2 : bn 0 300 i2) (hf : i1.toInt = (fT : Int)) (htt : i2.toInt = (tT : Int)) (hle : fT ≤ tT) (hlt : tT ≤ nN) : PMiZ aK aV z0 l yX5_wordNumber cX5_wordNumber 6 .int 5 0 0 G [.ref (ad 2 0), .int i1, .int i2] L f (fun r L1 f1 => ((r.toInt = wdF wds 0 (sl (bI bT) fT tT))) ∧ L1 = L ∧ f1 = f) := by
  refine PMiZ.of (post := fun r L1 f1 => ((r.toInt = wdF wds 0 (sl (bI bT) fT tT))) ∧ L1 = L ∧ f1 = f) (own := RX5) (by decide) rfl (Nat.le_of_ble_eq_true rfl) (fun sz p e s m args below meth c A ls hA1 hname S Y hz hl => ?_)
  have hx := S.hx
  have hb := S.hb
  have hl : lv_has ls 6 [(0, .ref (ad 2 0)), (1, .int i1), (2, .int i2)] := hl
  have J_8 : ∀ (n8 : Nat) (y8_3 y8_4 y8_5 : Int32) (mT : Nat) (H : Heap) (locs : List Loc) (ls : Array Slot), (bn 0 153 y8_4) → (bn 0 153 y8_5) → (WNI (sl (bI bT) fT tT) mT y8_3 y8_4 y8_5) → (((153 : Int) - y8_5.toInt).toNat = n8) → (DY G A s [] L f H locs) → (lv_has ls 6 [(0, .ref (ad 2 0)), (1, .int i1), (2, .int i2), (3, .int y8_3), (4, .int y8_4), (5, .int y8_5)]) → W p l e (rmD 5 0 0) s m args below meth c H locs (0) (0) (MQ below (va_Qi (fun r (u : List Nat × HF) => (fun r L1 f1 => ((r.toInt = wdF wds 0 (sl (bI bT) fT tT))) ∧ L1 = L ∧ f1 = f) r u.1 u.2) (fun u t => pOut G (va_A (va_pl L f) sz) u.1 u.2 t) (va_A (va_pl L f) sz)) args s 0 0 A) (F0 m 8 ls []) := by
    intro n8
    induction n8 using Nat.strongRecOn with
    | _ n8 ih8 =>
      intro y8_3 y8_4 y8_5 mT H locs ls b_y8_4 b_y8_5 hI hm8 Y hl
      refine lv_iload hx hb dX5_wordNumber_8 (lv_at hl 5 rfl) ?_
      refine va_ldcS hx hb S.ow hz.2.2.2.1 dX5_wordNumber_10 ?_
      refine zVi (As := []) (rest := [.int y8_5]) S Y hz (x_J0_length_0 (l := l) ) cw_X100_length_8abf5 km5_95 (recvK (i := 0) Y hz (by decide) rfl) rfl ⟨Nat.le_of_ble_eq_true rfl, Nat.le_of_ble_eq_true rfl⟩ hl.1 rfl (Nat.le_of_ble_eq_true rfl) ⟨Nat.le_of_ble_eq_true rfl, Nat.le_of_ble_eq_true rfl⟩ dX5_wordNumber_12 (fun r_80142 L_80139 f_80140 H locs h_80141 Y => ?_)
      rw [h_80141.2.1, h_80141.2.2] at Y
      have er_80142 := h_80141.1
      refine lv_fold (z := 153) er_80142 ?_
      refine lv_icmp_ge (tgt := 70) hx hb dX5_wordNumber_15 (by decide) (fun c_80143 => ?_) (fun c_80143 => ?_)
      · have B_80144 : bn 153 153 y8_5 := bn_w (bn_ler c_80143 (show bn 153 153 (153 : Int32) from bn_k (by decide)) b_y8_5) (by decide)
        refine lv_sipush (v := 1001) hx hb dX5_wordNumber_70 (by decide) ?_
        exact prI (post := fun r L1 f1 => ((r.toInt = wdF wds 0 (sl (bI bT) fT tT))) ∧ L1 = L ∧ f1 = f) S Y rfl (by decide) (by decide) hA1 ⟨(show (1001 : Int32).toInt = _ from by have h9 := hI.1; have h8 := hI.2.1; rw [wd_end (show wdF wds 0 (sl (bI bT) fT tT) = _ from by have h7 := hI.2.2.2.2; rw [show mT = 153 from by have u1 := (show 153 ≤ y8_5.toInt from by have z9 := c_80143; rw [Int32.le_iff_toInt_le] at z9; exact z9); omega] at h7; exact h7)]; rfl), rfl, rfl⟩ dX5_wordNumber_73
      · have B_80145 : bn 0 152 y8_5 := bn_w (bn_gtr c_80143 (show bn 153 153 (153 : Int32) from bn_k (by decide)) b_y8_5) (by decide)
        refine va_ldcS hx hb S.ow hz.2.2.2.1 dX5_wordNumber_18 ?_
        refine lv_iload hx hb dX5_wordNumber_20 (lv_at hl 5 rfl) ?_
        refine zVi (As := [.int y8_5]) (rest := []) S Y hz (x_J0_charAt (l := l) (bn_w B_80145 (by decide))) cw_X100_charAt_5068e km5_100 (recvK (i := 0) Y hz (by decide) rfl) rfl ⟨Nat.le_of_ble_eq_true rfl, Nat.le_of_ble_eq_true rfl⟩ hl.1 rfl (Nat.le_of_ble_eq_true rfl) ⟨Nat.le_of_ble_eq_true rfl, Nat.le_of_ble_eq_true rfl⟩ dX5_wordNumber_22 (fun r_80149 L_80146 f_80147 H locs h_80148 Y => ?_)
        rw [h_80148.2.1, h_80148.2.2] at Y
        have er_80149 := h_80148.1
        refine lv_bipush (v := 32) hx hb dX5_wordNumber_25 (by decide) ?_
        refine lv_icmp_ne (tgt := 64) hx hb dX5_wordNumber_27 (by decide) (fun c_80150 => ?_) (fun c_80150 => ?_)
        · obtain ⟨x_80152, ex_80152⟩ : ∃ z : Int32, z = y8_5 + 1 := ⟨_, rfl⟩
          refine lv_iinc (v := x_80152) (lv' := [(5, .int x_80152), (0, .ref (ad 2 0)), (1, .int i1), (2, .int i2), (3, .int y8_3), (4, .int y8_4)]) hx hb dX5_wordNumber_64 hl (k := 5) rfl (by rw [ex_80152]; rfl) (by decide) rfl (fun ls hl => ?_)
          refine lv_goto (tgt := 8) hx hb dX5_wordNumber_67 (by decide) ?_
          exact ih8 _ (by rw [← hm8]; exact ms_up (m := 1) ex_80152 (show bn 1 1 (1 : Int32) from bn_k (by decide)) B_80145 (bn_w (bn_eq ex_80152 (bn_add B_80145 (show bn 1 1 (1 : Int32) from bn_k (by decide)) (by decide))) (by decide) : bn 0 153 x_80152) (by decide)) y8_3 y8_4 x_80152 (mT + 1)  _ _ _  (bn_w b_y8_4 (by decide)) (bn_w (bn_eq ex_80152 (bn_add B_80145 (show bn 1 1 (1 : Int32) from bn_k (by decide)) (by decide))) (by decide)) (wn_n hI (show mT < 153 from by have h9 := hI.1; have u1 := er_80149.2; have u2 := (show y8_5.toInt < 153 from by have z9 := (Int32.not_le.mp c_80143); rw [Int32.lt_iff_toInt_lt] at z9; exact z9); omega) (fun q => c_80150 (Int32.toInt_inj.mp ((er_80149.2.trans (show wB y8_5.toInt.toNat = wB mT from by rw [show y8_5.toInt.toNat = mT from by have h9 := hI.1; omega])).trans (q.trans rfl)))) (la_add ex_80152 (rfl : y8_5.toInt = y8_5.toInt) (show (1 : Int32).toInt = 1 from rfl) B_80145 (show bn 1 1 (1 : Int32) from bn_k (by decide)) (by decide))) rfl Y (lv_sub hl [1, 2, 3, 4, 5, 0] rfl)
        · have B_80151 : bn 32 32 r_80149 := bn_w (bn_eq c_80150 (show bn 32 32 (32 : Int32) from bn_k (by decide))) (by decide)
          refine lv_iload hx hb dX5_wordNumber_30 (lv_at hl 5 rfl) ?_
          refine lv_iload hx hb dX5_wordNumber_32 (lv_at hl 4 rfl) ?_
          refine lv_isub hx hb dX5_wordNumber_34 ?_
          refine lv_topi (fun x_80153 ex_80153 => ?_)
          refine lv_iload_n hx hb dX5_wordNumber_35 rfl (lv_at hl 2 rfl) ?_
          refine lv_iload_n hx hb dX5_wordNumber_36 rfl (lv_at hl 1 rfl) ?_
          refine lv_isub hx hb dX5_wordNumber_37 ?_
          refine lv_topi (fun x_80154 ex_80154 => ?_)
          refine lv_icmp_ne (tgt := 55) hx hb dX5_wordNumber_38 (by decide) (fun c_80155 => ?_) (fun c_80155 => ?_)
          · obtain ⟨x_80156, ex_80156⟩ : ∃ z : Int32, z = y8_3 + 1 := ⟨_, rfl⟩
            refine lv_iinc (v := x_80156) (lv' := [(3, .int x_80156), (0, .ref (ad 2 0)), (1, .int i1), (2, .int i2), (4, .int y8_4), (5, .int y8_5)]) hx hb dX5_wordNumber_55 hl (k := 3) rfl (by rw [ex_80156]; rfl) (by decide) rfl (fun ls hl => ?_)
            refine lv_iload hx hb dX5_wordNumber_58 (lv_at hl 5 rfl) ?_
            refine lv_iconst (v := 1) hx hb dX5_wordNumber_60 (by decide) ?_
            refine lv_iadd hx hb dX5_wordNumber_61 ?_
            refine lv_topi (fun x_80157 ex_80157 => ?_)
            refine lv_istore (lv' := [(4, .int x_80157), (3, .int x_80156), (0, .ref (ad 2 0)), (1, .int i1), (2, .int i2), (5, .int y8_5)]) hx hb dX5_wordNumber_62 hl (by decide) rfl (fun ls hl => ?_)
            obtain ⟨x_80158, ex_80158⟩ : ∃ z : Int32, z = y8_5 + 1 := ⟨_, rfl⟩
            refine lv_iinc (v := x_80158) (lv' := [(5, .int x_80158), (4, .int x_80157), (3, .int x_80156), (0, .ref (ad 2 0)), (1, .int i1), (2, .int i2)]) hx hb dX5_wordNumber_64 hl (k := 5) rfl (by rw [ex_80158]; rfl) (by decide) rfl (fun ls hl => ?_)
            refine lv_goto (tgt := 8) hx hb dX5_wordNumber_67 (by decide) ?_
            exact ih8 _ (by rw [← hm8]; exact ms_up (m := 1) ex_80158 (show bn 1 1 (1 : Int32) from bn_k (by decide)) B_80145 (bn_w (bn_eq ex_80158 (bn_add B_80145 (show bn 1 1 (1 : Int32) from bn_k (by decide)) (by decide))) (by decide) : bn 0 153 x_80158) (by decide)) x_80156 x_80157 x_80158 (mT + 1)  _ _ _  (bn_w (bn_eq ex_80157 (bn_add B_80145 (show bn 1 1 (1 : Int32) from bn_k (by decide)) (by decide))) (by decide)) (bn_w (bn_eq ex_80158 (bn_add B_80145 (show bn 1 1 (1 : Int32) from bn_k (by decide)) (by decide))) (by decide)) (wn_y hI (show mT < 153 from by have h9 := hI.1; have u1 := er_80149.2; have u2 := (show y8_5.toInt < 153 from by have z9 := (Int32.not_le.mp c_80143); rw [Int32.lt_iff_toInt_lt] at z9; exact z9); have u3 := (show x_80153.toInt ≠ x_80154.toInt from fun z => c_80155 (Int32.toInt_inj.mp z)); omega) ((show wB y8_5.toInt.toNat = wB mT from by rw [show y8_5.toInt.toNat = mT from by have h9 := hI.1; omega]).symm.trans (er_80149.2.symm.trans (by rw [c_80150]; rfl))) (sl_len (fun q => c_80155 (Int32.toInt_inj.mp (by have h9 := (la_sub ex_80153 (rfl : y8_5.toInt = y8_5.toInt) (rfl : y8_4.toInt = y8_4.toInt) B_80145 b_y8_4 (by decide)); have h8 := (la_sub ex_80154 (rfl : i2.toInt = i2.toInt) (rfl : i1.toInt = i1.toInt) b_i2 b_i1 (by decide)); have h7 := hI.1; have h6 := hI.2.2.2.1; have h5 := (wst_le mT).1; have h4 := hf; have h3 := htt; have h2 := hle; omega)))) ex_80156 (la_add ex_80157 (rfl : y8_5.toInt = y8_5.toInt) (show (1 : Int32).toInt = 1 from rfl) B_80145 (show bn 1 1 (1 : Int32) from bn_k (by decide)) (by decide)) (la_add ex_80158 (rfl : y8_5.toInt = y8_5.toInt) (show (1 : Int32).toInt = 1 from rfl) B_80145 (show bn 1 1 (1 : Int32) from bn_k (by decide)) (by decide))) rfl Y (lv_sub hl [3, 4, 5, 2, 1, 0] rfl)
          · refine lv_aload_n hx hb dX5_wordNumber_41 rfl (lv_at hl 0 rfl) ?_
            refine lv_iload hx hb dX5_wordNumber_42 (lv_at hl 4 rfl) ?_
            refine lv_iload hx hb dX5_wordNumber_44 (lv_at hl 5 rfl) ?_
            refine lv_iload_n hx hb dX5_wordNumber_46 rfl (lv_at hl 1 rfl) ?_
            refine zVi (As := [.int y8_4, .int y8_5, .int i1]) (rest := []) S Y hz (x_X5_isWord (l := l) I hW hT hQ (bn_w b_y8_4 (by decide)) (bn_w B_80145 (by decide)) (bn_w b_i1 (by decide)) hI.2.2.2.1 hI.1 hf (wst_le mT).1 (by have h0 := congrArg Int32.toInt c_80155; have h9 := (la_sub ex_80153 (rfl : y8_5.toInt = y8_5.toInt) (rfl : y8_4.toInt = y8_4.toInt) B_80145 b_y8_4 (by decide)); have h8 := (la_sub ex_80154 (rfl : i2.toInt = i2.toInt) (rfl : i1.toInt = i1.toInt) b_i2 b_i1 (by decide)); have h7 := hI.1; have h6 := hI.2.2.2.1; have h5 := (wst_le mT).1; have h4 := hf; have h3 := htt; have h2 := hle; have h1 := hlt; omega)) cw_X5_isWord km5_104 (recvO S Y (I.opo (k := 2) (j := 0) (by decide) rfl).choose_spec.1 ok_X5.1 rfl) rfl ⟨Nat.le_of_ble_eq_true rfl, Nat.le_of_ble_eq_true rfl⟩ hl.1 rfl (Nat.le_of_ble_eq_true rfl) ⟨Nat.le_of_ble_eq_true rfl, Nat.le_of_ble_eq_true rfl⟩ dX5_wordNumber_47 (fun r_80162 L_80159 f_80160 H locs h_80161 Y => ?_)
            rw [h_80161.2.1, h_80161.2.2] at Y
            have er_80162 := h_80161.1
            refine lv_if_eq (tgt := 55) hx hb dX5_wordNumber_50 (by decide) (fun c_80163 => ?_) (fun c_80163 => ?_)
            · have B_80164 : bn 0 0 r_80162 := bn_w (bn_eq c_80163 (show bn 0 0 (0 : Int32) from bn_k (by decide))) (by decide)
              obtain ⟨x_80165, ex_80165⟩ : ∃ z : Int32, z = y8_3 + 1 := ⟨_, rfl⟩
              refine lv_iinc (v := x_80165) (lv' := [(3, .int x_80165), (0, .ref (ad 2 0)), (1, .int i1), (2, .int i2), (4, .int y8_4), (5, .int y8_5)]) hx hb dX5_wordNumber_55 hl (k := 3) rfl (by rw [ex_80165]; rfl) (by decide) rfl (fun ls hl => ?_)
              refine lv_iload hx hb dX5_wordNumber_58 (lv_at hl 5 rfl) ?_
              refine lv_iconst (v := 1) hx hb dX5_wordNumber_60 (by decide) ?_
              refine lv_iadd hx hb dX5_wordNumber_61 ?_
              refine lv_topi (fun x_80166 ex_80166 => ?_)
              refine lv_istore (lv' := [(4, .int x_80166), (3, .int x_80165), (0, .ref (ad 2 0)), (1, .int i1), (2, .int i2), (5, .int y8_5)]) hx hb dX5_wordNumber_62 hl (by decide) rfl (fun ls hl => ?_)
              obtain ⟨x_80167, ex_80167⟩ : ∃ z : Int32, z = y8_5 + 1 := ⟨_, rfl⟩
              refine lv_iinc (v := x_80167) (lv' := [(5, .int x_80167), (4, .int x_80166), (3, .int x_80165), (0, .ref (ad 2 0)), (1, .int i1), (2, .int i2)]) hx hb dX5_wordNumber_64 hl (k := 5) rfl (by rw [ex_80167]; rfl) (by decide) rfl (fun ls hl => ?_)
              refine lv_goto (tgt := 8) hx hb dX5_wordNumber_67 (by decide) ?_
              exact ih8 _ (by rw [← hm8]; exact ms_up (m := 1) ex_80167 (show bn 1 1 (1 : Int32) from bn_k (by decide)) B_80145 (bn_w (bn_eq ex_80167 (bn_add B_80145 (show bn 1 1 (1 : Int32) from bn_k (by decide)) (by decide))) (by decide) : bn 0 153 x_80167) (by decide)) x_80165 x_80166 x_80167 (mT + 1)  _ _ _  (bn_w (bn_eq ex_80166 (bn_add B_80145 (show bn 1 1 (1 : Int32) from bn_k (by decide)) (by decide))) (by decide)) (bn_w (bn_eq ex_80167 (bn_add B_80145 (show bn 1 1 (1 : Int32) from bn_k (by decide)) (by decide))) (by decide)) (wn_y hI (show mT < 153 from by have h9 := hI.1; have u1 := er_80149.2; have u2 := (show y8_5.toInt < 153 from by have z9 := (Int32.not_le.mp c_80143); rw [Int32.lt_iff_toInt_lt] at z9; exact z9); have u3 := (show x_80153.toInt = x_80154.toInt from by rw [c_80155]); omega) ((show wB y8_5.toInt.toNat = wB mT from by rw [show y8_5.toInt.toNat = mT from by have h9 := hI.1; omega]).symm.trans (er_80149.2.symm.trans (by rw [c_80150]; rfl))) (fun q => cls_f er_80162.2 c_80163 ((sl_eq (by have h0 := c_80155; have h9 := (la_sub ex_80153 (rfl : y8_5.toInt = y8_5.toInt) (rfl : y8_4.toInt = y8_4.toInt) B_80145 b_y8_4 (by decide)); have h8 := (la_sub ex_80154 (rfl : i2.toInt = i2.toInt) (rfl : i1.toInt = i1.toInt) b_i2 b_i1 (by decide)); have h7 := hI.1; have h6 := hI.2.2.2.1; have h5 := (wst_le mT).1; have h4 := hf; have h3 := htt; have h2 := hle; have h1 := congrArg Int32.toInt h0; omega)).mp q)) ex_80165 (la_add ex_80166 (rfl : y8_5.toInt = y8_5.toInt) (show (1 : Int32).toInt = 1 from rfl) B_80145 (show bn 1 1 (1 : Int32) from bn_k (by decide)) (by decide)) (la_add ex_80167 (rfl : y8_5.toInt = y8_5.toInt) (show (1 : Int32).toInt = 1 from rfl) B_80145 (show bn 1 1 (1 : Int32) from bn_k (by decide)) (by decide))) rfl Y (lv_sub hl [3, 4, 5, 2, 1, 0] rfl)
            · refine lv_iload_n hx hb dX5_wordNumber_53 rfl (lv_at hl 3 rfl) ?_
              exact prI (post := fun r L1 f1 => ((r.toInt = wdF wds 0 (sl (bI bT) fT tT))) ∧ L1 = L ∧ f1 = f) S Y rfl (by decide) (by decide) hA1 ⟨(hI.2.2.1.trans (wd_hit (show mT < 153 from by have h9 := hI.1; have u1 := er_80149.2; have u2 := (show y8_5.toInt < 153 from by have z9 := (Int32.not_le.mp c_80143); rw [Int32.lt_iff_toInt_lt] at z9; exact z9); have u3 := (show x_80153.toInt = x_80154.toInt from by rw [c_80155]); omega) ((show wB y8_5.toInt.toNat = wB mT from by rw [show y8_5.toInt.toNat = mT from by have h9 := hI.1; omega]).symm.trans (er_80149.2.symm.trans (by rw [c_80150]; rfl))) hI.2.2.2.2 ((sl_eq (by have h0 := c_80155; have h9 := (la_sub ex_80153 (rfl : y8_5.toInt = y8_5.toInt) (rfl : y8_4.toInt = y8_4.toInt) B_80145 b_y8_4 (by decide)); have h8 := (la_sub ex_80154 (rfl : i2.toInt = i2.toInt) (rfl : i1.toInt = i1.toInt) b_i2 b_i1 (by decide)); have h7 := hI.1; have h6 := hI.2.2.2.1; have h5 := (wst_le mT).1; have h4 := hf; have h3 := htt; have h2 := hle; have h1 := congrArg Int32.toInt h0; omega)).mpr (cls_t er_80162.2 c_80163))).symm), rfl, rfl⟩ dX5_wordNumber_54
  refine lv_iconst (v := 0) hx hb dX5_wordNumber_0 (by decide) ?_
  refine lv_istore_n (lv' := [(3, .int 0), (0, .ref (ad 2 0)), (1, .int i1), (2, .int i2)]) hx hb dX5_wordNumber_1 rfl hl (by decide) rfl (fun ls hl => ?_)
  refine lv_iconst (v := 0) hx hb dX5_wordNumber_2 (by decide) ?_
  refine lv_istore (lv' := [(4, .int 0), (3, .int 0), (0, .ref (ad 2 0)), (1, .int i1), (2, .int i2)]) hx hb dX5_wordNumber_3 hl (by decide) rfl (fun ls hl => ?_)
  refine lv_iconst (v := 0) hx hb dX5_wordNumber_5 (by decide) ?_
  refine lv_istore (lv' := [(5, .int 0), (4, .int 0), (3, .int 0), (0, .ref (ad 2 0)), (1, .int i1), (2, .int i2)]) hx hb dX5_wordNumber_6 hl (by decide) rfl (fun ls hl => ?_)
  exact J_8 _ 0 0 0 0  _ _ _  (bn_w (show bn 0 0 (0 : Int32) from bn_k (by decide)) (by decide)) (bn_w (show bn 0 0 (0 : Int32) from bn_k (by decide)) (by decide)) wn_0 rfl Y (lv_sub hl [3, 4, 5, 2, 1, 0] rfl)
set_option maxHeartbeats 4000000 in
set_option maxRecDepth 100000 in
theorem x_X5_cutWord {l : Launch} {G : GG}  {L : List Nat} {f : HF} {ad : Nat → Nat → Nat} {zR : Int × Int} {zK : Int × Int} {zP : Int × Int} {zV : Int × Int} {zW : Int × Int} {zF : Int × Int} {zQ : Int × Int} {rf : FS} {sc : Nat → SG} {kK : Nat → Int} {kP : Nat → Int} {kV : Nat → Int} {bT : Nat → Int32} {nN : Nat} {cT : Nat} {fc : Int × Int} {tc w : Nat → Int × Int} {q : Nat → (Nat → Int32) → Prop} {aK aV : Nat → Nat} {z0 : Option Nat} {i1 : Int32} {pT : Nat} (I : SH (spC ((rf, fz (pp (nN : Int)) (pp (cT : Int)) zR zK zP zV zW zF zQ, tz (EQ bT) (RW cT kK) (RW cT kP) (RW cT kV), sc) : RS) fc tc w q) nnC G ad L f) (hW : WBp w 8) (hT : WBp tc 4) (hQ : QIp q) (b_i1 : bn 0 299 i1) (hp : i1.toInt = (pT : Int)) (hpn : pT < nN) (hn3 : nN ≤ 300) (hc : cT ≤ 300) (hP : kP cT = (pT : Int)) (hV : kV cT = 0) (hK : kK cT = wdF wds 0 (sl (bI bT) pT (ltE (bI bT) nN nN pT))) : PMiZ aK aV z0 l yX5_cutWord cX5_cutWord 3 .int 6 0 0 G [.ref (ad 2 0), .int i1] L f (fun r L1 f1 => bn 0 300 r ∧ SH (spC ((rf, fz (pp (nN : Int)) (pp ((cT + 1 : Nat) : Int)) zR zK zP zV zW zF zQ, tz (EQ bT) (RW (cT + 1) kK) (RW (cT + 1) kP) (RW (cT + 1) kV), sc) : RS) fc tc w q) nnC G ad L1 f1 ∧ r.toInt = ((ltE (bI bT) nN nN pT : Nat) : Int)) := by
  refine PMiZ.of (post := fun r L1 f1 => bn 0 300 r ∧ SH (spC ((rf, fz (pp (nN : Int)) (pp ((cT + 1 : Nat) : Int)) zR zK zP zV zW zF zQ, tz (EQ bT) (RW (cT + 1) kK) (RW (cT + 1) kP) (RW (cT + 1) kV), sc) : RS) fc tc w q) nnC G ad L1 f1 ∧ r.toInt = ((ltE (bI bT) nN nN pT : Nat) : Int)) (own := RX5) (by decide) rfl (Nat.le_of_ble_eq_true rfl) (fun sz p e s m args below meth c A ls hA1 hname S Y hz hl => ?_)
  have hx := S.hx
  have hb := S.hb
  have hl : lv_has ls 3 [(0, .ref (ad 2 0)), (1, .int i1)] := hl
  have J_2 : ∀ (n2 : Nat) (y2_2 : Int32) (aT : Nat) (L_2 : List Nat) (f_2 : HF) (H : Heap) (locs : List Loc) (ls : Array Slot), (SH (spC ((rf, fz (pp (nN : Int)) (pp (cT : Int)) zR zK zP zV zW zF zQ, tz (EQ bT) (RW cT kK) (RW cT kP) (RW cT kV), sc) : RS) fc tc w q) nnC G ad L_2 f_2) → (bn 0 300 y2_2) → (y2_2.toInt = (aT : Int) ∧ aT ≤ nN ∧ pT ≤ aT ∧ ltE (bI bT) nN nN pT = ltE (bI bT) nN nN aT) → (((300 : Int) - y2_2.toInt).toNat = n2) → (DY G A s [] L_2 f_2 H locs) → (lv_has ls 3 [(0, .ref (ad 2 0)), (1, .int i1), (2, .int y2_2)]) → W p l e (rmD 6 0 0) s m args below meth c H locs (0) (0) (MQ below (va_Qi (fun r (u : List Nat × HF) => (fun r L1 f1 => bn 0 300 r ∧ SH (spC ((rf, fz (pp (nN : Int)) (pp ((cT + 1 : Nat) : Int)) zR zK zP zV zW zF zQ, tz (EQ bT) (RW (cT + 1) kK) (RW (cT + 1) kP) (RW (cT + 1) kV), sc) : RS) fc tc w q) nnC G ad L1 f1 ∧ r.toInt = ((ltE (bI bT) nN nN pT : Nat) : Int)) r u.1 u.2) (fun u t => pOut G (va_A (va_pl L f) sz) u.1 u.2 t) (va_A (va_pl L f) sz)) args s 0 0 A) (F0 m 2 ls []) := by
    intro n2
    induction n2 using Nat.strongRecOn with
    | _ n2 ih2 =>
      intro y2_2 aT L_2 f_2 H locs ls I b_y2_2 hI hm2 Y hl
      refine lv_iload_n hx hb dX5_cutWord_2 rfl (lv_at hl 2 rfl) ?_
      refine lv_aload_n hx hb dX5_cutWord_3 rfl (lv_at hl 0 rfl) ?_
      obtain ⟨v_80291, v_80293, v_80295, v_80297, v_80299, v_80301, v_80303, v_80305, v_80307, v_80309, p_ad_2_0, b_80292, b_80294, b_80296, b_80298, b_80300, b_80302, b_80304, b_80306, b_80308, b_80310⟩ := opnC_2 (j := 0) I (by decide)
      have p_ad_2_0 : pt L_2 f_2 (ad 2 0) (.inr (5, [.ref (ad 50 0), .ref (ad 51 0), .ref (ad 52 0), .ref (ad 53 0), .int v_80291, .int v_80293, .int v_80295, .int v_80297, .int v_80299, .int v_80301, .int v_80303, v_80305, .int v_80307, .int v_80309])) := p_ad_2_0
      have tv_80291 : v_80291.toInt = (nN : Int) := lim_eq b_80292
      have tv_80293 : v_80293.toInt = (cT : Int) := lim_eq b_80294
      refine pg_get S Y ok_X5 4 (by decide) kf5_31 (v := .int v_80291) p_ad_2_0 rfl dX5_cutWord_4 ?_
      refine lv_icmp_ge (tgt := 27) hx hb dX5_cutWord_7 (by decide) (fun c_80311 => ?_) (fun c_80311 => ?_)
      · have hE : ltE (bI bT) nN nN pT = aT := hI.2.2.2.trans (ltE_no (fun q => absurd q.1 (by have u1 := tv_80291; have u2 := tv_80293; have u3 := (show v_80291.toInt ≤ y2_2.toInt from by have z9 := c_80311; rw [Int32.le_iff_toInt_le] at z9; exact z9); have u4 := hI.1; have u5 := hI.2.1; omega)))
        refine lv_aload_n hx hb dX5_cutWord_27 rfl (lv_at hl 0 rfl) ?_
        refine lv_aload_n hx hb dX5_cutWord_28 rfl (lv_at hl 0 rfl) ?_
        refine lv_iload_n hx hb dX5_cutWord_29 rfl (lv_at hl 1 rfl) ?_
        refine lv_iload_n hx hb dX5_cutWord_30 rfl (lv_at hl 2 rfl) ?_
        refine zVi (As := [.int i1, .int y2_2]) (rest := [.ref (ad 2 0)]) S Y hz (x_X5_wordNumber (l := l) I hW hT hQ (bn_w b_i1 (by decide)) (bn_w b_y2_2 (by decide)) hp hI.1 hI.2.2.1 hI.2.1) cw_X5_wordNumber km5_89 (recvO S Y (I.opo (k := 2) (j := 0) (by decide) rfl).choose_spec.1 ok_X5.1 rfl) rfl ⟨Nat.le_of_ble_eq_true rfl, Nat.le_of_ble_eq_true rfl⟩ hl.1 rfl (Nat.le_of_ble_eq_true rfl) ⟨Nat.le_of_ble_eq_true rfl, Nat.le_of_ble_eq_true rfl⟩ dX5_cutWord_31 (fun r_80317 L_80314 f_80315 H locs h_80316 Y => ?_)
        rw [h_80316.2.1, h_80316.2.2] at Y
        have er_80317 := h_80316.1
        refine lv_iload_n hx hb dX5_cutWord_34 rfl (lv_at hl 1 rfl) ?_
        refine lv_iconst (v := 0) hx hb dX5_cutWord_35 (by decide) ?_
        refine cVv (As := [.int r_80317, .int i1, .int 0]) (rest := []) S Y (x_X5_addToken (l := l) I hW hT hQ hc (by rw [hK, hE]; exact er_80317) (by rw [hP]; exact hp) (by rw [hV]; rfl)) cw_X5_addToken km5_85 p_ad_2_0 ok_X5.1 rfl rfl ⟨Nat.le_of_ble_eq_true rfl, Nat.le_of_ble_eq_true rfl⟩ hl.1 rfl (Nat.le_of_ble_eq_true rfl) ⟨Nat.le_of_ble_eq_true rfl, Nat.le_of_ble_eq_true rfl⟩ dX5_cutWord_36 (fun L_80318 f_80319 H locs I Y => ?_)
        refine lv_iload_n hx hb dX5_cutWord_39 rfl (lv_at hl 2 rfl) ?_
        exact prI (post := fun r L1 f1 => bn 0 300 r ∧ SH (spC ((rf, fz (pp (nN : Int)) (pp ((cT + 1 : Nat) : Int)) zR zK zP zV zW zF zQ, tz (EQ bT) (RW (cT + 1) kK) (RW (cT + 1) kP) (RW (cT + 1) kV), sc) : RS) fc tc w q) nnC G ad L1 f1 ∧ r.toInt = ((ltE (bI bT) nN nN pT : Nat) : Int)) S Y rfl (by decide) (by decide) hA1 ⟨bn_w b_y2_2 (by decide), I, (by rw [hE]; exact hI.1)⟩ dX5_cutWord_40
      · have B_80312 : bn 1 300 v_80291 := bn_w (bn_gtl c_80311 (bn_w (a' := 0) (b' := 300) b_80292 (lim_b _ _ _)) b_y2_2) (by decide)
        have B_80313 : bn 0 299 y2_2 := bn_w (bn_gtr c_80311 (bn_w (a' := 0) (b' := 300) b_80292 (lim_b _ _ _)) b_y2_2) (by decide)
        refine lv_aload_n hx hb dX5_cutWord_10 rfl (lv_at hl 0 rfl) ?_
        refine lv_iload_n hx hb dX5_cutWord_11 rfl (lv_at hl 2 rfl) ?_
        refine cVp (As := [.int y2_2]) (rest := []) S Y (x_X5_byteAt (l := l) I hW hT hQ) cw_X5_byteAt km5_65 p_ad_2_0 ok_X5.1 rfl rfl ⟨Nat.le_of_ble_eq_true rfl, Nat.le_of_ble_eq_true rfl⟩ hl.1 rfl (Nat.le_of_ble_eq_true rfl) ⟨Nat.le_of_ble_eq_true rfl, Nat.le_of_ble_eq_true rfl⟩ dX5_cutWord_12 (fun r_80320 H locs er_80320 Y => ?_)
        refine cSp (As := [.int r_80320]) (rest := []) S Y (x_X5_isLetter (l := l) ) cw_X5_isLetter km5_69 rfl ⟨Nat.le_of_ble_eq_true rfl, Nat.le_of_ble_eq_true rfl⟩ hl.1 rfl (Nat.le_of_ble_eq_true rfl) ⟨Nat.le_of_ble_eq_true rfl, Nat.le_of_ble_eq_true rfl⟩ dX5_cutWord_15 (fun r_80321 H locs er_80321 Y => ?_)
        refine lv_if_eq (tgt := 27) hx hb dX5_cutWord_18 (by decide) (fun c_80322 => ?_) (fun c_80322 => ?_)
        · have B_80323 : bn 0 0 r_80321 := bn_w (bn_eq c_80322 (show bn 0 0 (0 : Int32) from bn_k (by decide))) (by decide)
          have hE : ltE (bI bT) nN nN pT = aT := hI.2.2.2.trans (ltE_no (fun q => cls_f er_80321.2 c_80322 (by rw [(byA_in (a := aT) er_80320 (by have u1 := tv_80291; have u2 := tv_80293; have u3 := (show y2_2.toInt < v_80291.toInt from by have z9 := (Int32.not_le.mp c_80311); rw [Int32.lt_iff_toInt_lt] at z9; exact z9); have u4 := (rfl : y2_2.toInt = y2_2.toInt); have u5 := hI.1; have u6 := hI.2.1; omega) (by have u1 := tv_80291; have u2 := tv_80293; have u3 := (show y2_2.toInt < v_80291.toInt from by have z9 := (Int32.not_le.mp c_80311); rw [Int32.lt_iff_toInt_lt] at z9; exact z9); have u4 := (rfl : y2_2.toInt = y2_2.toInt); have u5 := hI.1; have u6 := hI.2.1; omega))]; exact q.2)))
          refine lv_aload_n hx hb dX5_cutWord_27 rfl (lv_at hl 0 rfl) ?_
          refine lv_aload_n hx hb dX5_cutWord_28 rfl (lv_at hl 0 rfl) ?_
          refine lv_iload_n hx hb dX5_cutWord_29 rfl (lv_at hl 1 rfl) ?_
          refine lv_iload_n hx hb dX5_cutWord_30 rfl (lv_at hl 2 rfl) ?_
          refine zVi (As := [.int i1, .int y2_2]) (rest := [.ref (ad 2 0)]) S Y hz (x_X5_wordNumber (l := l) I hW hT hQ (bn_w b_i1 (by decide)) (bn_w B_80313 (by decide)) hp hI.1 hI.2.2.1 hI.2.1) cw_X5_wordNumber km5_89 (recvO S Y (I.opo (k := 2) (j := 0) (by decide) rfl).choose_spec.1 ok_X5.1 rfl) rfl ⟨Nat.le_of_ble_eq_true rfl, Nat.le_of_ble_eq_true rfl⟩ hl.1 rfl (Nat.le_of_ble_eq_true rfl) ⟨Nat.le_of_ble_eq_true rfl, Nat.le_of_ble_eq_true rfl⟩ dX5_cutWord_31 (fun r_80328 L_80325 f_80326 H locs h_80327 Y => ?_)
          rw [h_80327.2.1, h_80327.2.2] at Y
          have er_80328 := h_80327.1
          refine lv_iload_n hx hb dX5_cutWord_34 rfl (lv_at hl 1 rfl) ?_
          refine lv_iconst (v := 0) hx hb dX5_cutWord_35 (by decide) ?_
          refine cVv (As := [.int r_80328, .int i1, .int 0]) (rest := []) S Y (x_X5_addToken (l := l) I hW hT hQ hc (by rw [hK, hE]; exact er_80328) (by rw [hP]; exact hp) (by rw [hV]; rfl)) cw_X5_addToken km5_85 p_ad_2_0 ok_X5.1 rfl rfl ⟨Nat.le_of_ble_eq_true rfl, Nat.le_of_ble_eq_true rfl⟩ hl.1 rfl (Nat.le_of_ble_eq_true rfl) ⟨Nat.le_of_ble_eq_true rfl, Nat.le_of_ble_eq_true rfl⟩ dX5_cutWord_36 (fun L_80329 f_80330 H locs I Y => ?_)
          refine lv_iload_n hx hb dX5_cutWord_39 rfl (lv_at hl 2 rfl) ?_
          exact prI (post := fun r L1 f1 => bn 0 300 r ∧ SH (spC ((rf, fz (pp (nN : Int)) (pp ((cT + 1 : Nat) : Int)) zR zK zP zV zW zF zQ, tz (EQ bT) (RW (cT + 1) kK) (RW (cT + 1) kP) (RW (cT + 1) kV), sc) : RS) fc tc w q) nnC G ad L1 f1 ∧ r.toInt = ((ltE (bI bT) nN nN pT : Nat) : Int)) S Y rfl (by decide) (by decide) hA1 ⟨bn_w B_80313 (by decide), I, (by rw [hE]; exact hI.1)⟩ dX5_cutWord_40
        · have B_80324 : bn 1 1 r_80321 := bn_w (bn_nel c_80322 er_80321.1 (show bn 0 0 (0 : Int32) from bn_k (by decide))) (by decide)
          obtain ⟨x_80331, ex_80331⟩ : ∃ z : Int32, z = y2_2 + 1 := ⟨_, rfl⟩
          refine lv_iinc (v := x_80331) (lv' := [(2, .int x_80331), (0, .ref (ad 2 0)), (1, .int i1)]) hx hb dX5_cutWord_21 hl (k := 2) rfl (by rw [ex_80331]; rfl) (by decide) rfl (fun ls hl => ?_)
          refine lv_goto (tgt := 2) hx hb dX5_cutWord_24 (by decide) ?_
          exact ih2 _ (by rw [← hm2]; exact ms_up (m := 1) ex_80331 (show bn 1 1 (1 : Int32) from bn_k (by decide)) B_80313 (bn_w (bn_eq ex_80331 (bn_add B_80313 (show bn 1 1 (1 : Int32) from bn_k (by decide)) (by decide))) (by decide) : bn 0 300 x_80331) (by decide)) x_80331 (aT + 1) _ _  _ _ _ I (bn_w (bn_eq ex_80331 (bn_add B_80313 (show bn 1 1 (1 : Int32) from bn_k (by decide)) (by decide))) (by decide)) ⟨(by have u1 := tv_80291; have u2 := tv_80293; have u3 := (show y2_2.toInt < v_80291.toInt from by have z9 := (Int32.not_le.mp c_80311); rw [Int32.lt_iff_toInt_lt] at z9; exact z9); have u4 := hI.1; have u5 := (la_add ex_80331 (rfl : y2_2.toInt = y2_2.toInt) (show (1 : Int32).toInt = 1 from rfl) B_80313 (show bn 1 1 (1 : Int32) from bn_k (by decide)) (by decide)); omega), (by have u1 := tv_80291; have u2 := tv_80293; have u3 := (show y2_2.toInt < v_80291.toInt from by have z9 := (Int32.not_le.mp c_80311); rw [Int32.lt_iff_toInt_lt] at z9; exact z9); have u4 := hI.1; have u5 := (la_add ex_80331 (rfl : y2_2.toInt = y2_2.toInt) (show (1 : Int32).toInt = 1 from rfl) B_80313 (show bn 1 1 (1 : Int32) from bn_k (by decide)) (by decide)); omega), (by have u1 := tv_80291; have u2 := tv_80293; have u3 := (show y2_2.toInt < v_80291.toInt from by have z9 := (Int32.not_le.mp c_80311); rw [Int32.lt_iff_toInt_lt] at z9; exact z9); have u4 := hI.2.2.1; omega), hI.2.2.2.trans (ltE_s ⟨(by have u1 := tv_80291; have u2 := tv_80293; have u3 := (show y2_2.toInt < v_80291.toInt from by have z9 := (Int32.not_le.mp c_80311); rw [Int32.lt_iff_toInt_lt] at z9; exact z9); have u4 := hI.1; omega), (show isLt (bI bT aT) from by rw [← (byA_in (a := aT) er_80320 (by have u1 := tv_80291; have u2 := tv_80293; have u3 := (show y2_2.toInt < v_80291.toInt from by have z9 := (Int32.not_le.mp c_80311); rw [Int32.lt_iff_toInt_lt] at z9; exact z9); have u4 := (rfl : y2_2.toInt = y2_2.toInt); have u5 := hI.1; have u6 := hI.2.1; omega) (by have u1 := tv_80291; have u2 := tv_80293; have u3 := (show y2_2.toInt < v_80291.toInt from by have z9 := (Int32.not_le.mp c_80311); rw [Int32.lt_iff_toInt_lt] at z9; exact z9); have u4 := (rfl : y2_2.toInt = y2_2.toInt); have u5 := hI.1; have u6 := hI.2.1; omega))]; exact cls_t er_80321.2 c_80322)⟩)⟩ rfl Y (lv_sub hl [1, 2, 0] rfl)
  refine lv_iload_n hx hb dX5_cutWord_0 rfl (lv_at hl 1 rfl) ?_
  refine lv_istore_n (lv' := [(2, .int i1), (0, .ref (ad 2 0)), (1, .int i1)]) hx hb dX5_cutWord_1 rfl hl (by decide) rfl (fun ls hl => ?_)
  exact J_2 _ i1 pT _ _  _ _ _ I (bn_w b_i1 (by decide)) ⟨hp, by omega, Nat.le_refl _, rfl⟩ rfl Y (lv_sub hl [1, 2, 0] rfl)
set_option maxHeartbeats 4000000 in
set_option maxRecDepth 100000 in
theorem x_X5_cutNumber {l : Launch} {G : GG}  {L : List Nat} {f : HF} {ad : Nat → Nat → Nat} {zR : Int × Int} {zK : Int × Int} {zP : Int × Int} {zV : Int × Int} {zW : Int × Int} {zF : Int × Int} {zQ : Int × Int} {rf : FS} {sc : Nat → SG} {kK : Nat → Int} {kP : Nat → Int} {kV : Nat → Int} {bT : Nat → Int32} {nN : Nat} {cT : Nat} {fc : Int × Int} {tc w : Nat → Int × Int} {q : Nat → (Nat → Int32) → Prop} {aK aV : Nat → Nat} {z0 : Option Nat} {i1 : Int32} {pT : Nat} (I : SH (spC ((rf, fz (pp (nN : Int)) (pp (cT : Int)) zR zK zP zV zW zF zQ, tz (EQ bT) (RW cT kK) (RW cT kP) (RW cT kV), sc) : RS) fc tc w q) nnC G ad L f) (hW : WBp w 8) (hT : WBp tc 4) (hQ : QIp q) (b_i1 : bn 0 299 i1) (hp : i1.toInt = (pT : Int)) (hpn : pT < nN) (hn3 : nN ≤ 300) (hc : cT ≤ 300) (hP : kP cT = (pT : Int)) (hV : kV cT = (dgE (bI bT) nN nN pT 0).2) (hK : kK cT = 1000) : PMiZ aK aV z0 l yX5_cutNumber cX5_cutNumber 4 .int 1 0 0 G [.ref (ad 2 0), .int i1] L f (fun r L1 f1 => bn 0 300 r ∧ SH (spC ((rf, fz (pp (nN : Int)) (pp ((cT + 1 : Nat) : Int)) zR zK zP zV zW zF zQ, tz (EQ bT) (RW (cT + 1) kK) (RW (cT + 1) kP) (RW (cT + 1) kV), sc) : RS) fc tc w q) nnC G ad L1 f1 ∧ r.toInt = (((dgE (bI bT) nN nN pT 0).1 : Nat) : Int)) := by
  refine PMiZ.of (post := fun r L1 f1 => bn 0 300 r ∧ SH (spC ((rf, fz (pp (nN : Int)) (pp ((cT + 1 : Nat) : Int)) zR zK zP zV zW zF zQ, tz (EQ bT) (RW (cT + 1) kK) (RW (cT + 1) kP) (RW (cT + 1) kV), sc) : RS) fc tc w q) nnC G ad L1 f1 ∧ r.toInt = (((dgE (bI bT) nN nN pT 0).1 : Nat) : Int)) (own := RX5) (by decide) rfl (Nat.le_of_ble_eq_true rfl) (fun sz p e s m args below meth c A ls hA1 hname S Y hz hl => ?_)
  have hx := S.hx
  have hb := S.hb
  have hl : lv_has ls 4 [(0, .ref (ad 2 0)), (1, .int i1)] := hl
  have J_4 : ∀ (n4 : Nat) (y4_2 y4_3 : Int32) (aT : Nat) (L_4 : List Nat) (f_4 : HF) (H : Heap) (locs : List Loc) (ls : Array Slot), (SH (spC ((rf, fz (pp (nN : Int)) (pp (cT : Int)) zR zK zP zV zW zF zQ, tz (EQ bT) (RW cT kK) (RW cT kP) (RW cT kV), sc) : RS) fc tc w q) nnC G ad L_4 f_4) → (bn 0 300 y4_2) → (bn 0 16383 y4_3) → (y4_2.toInt = (aT : Int) ∧ aT ≤ nN ∧ pT ≤ aT ∧ dgE (bI bT) nN nN pT 0 = dgE (bI bT) nN nN aT y4_3.toInt) → (((300 : Int) - y4_2.toInt).toNat = n4) → (DY G A s [] L_4 f_4 H locs) → (lv_has ls 4 [(0, .ref (ad 2 0)), (1, .int i1), (2, .int y4_2), (3, .int y4_3)]) → W p l e (rmD 1 0 0) s m args below meth c H locs (0) (0) (MQ below (va_Qi (fun r (u : List Nat × HF) => (fun r L1 f1 => bn 0 300 r ∧ SH (spC ((rf, fz (pp (nN : Int)) (pp ((cT + 1 : Nat) : Int)) zR zK zP zV zW zF zQ, tz (EQ bT) (RW (cT + 1) kK) (RW (cT + 1) kP) (RW (cT + 1) kV), sc) : RS) fc tc w q) nnC G ad L1 f1 ∧ r.toInt = (((dgE (bI bT) nN nN pT 0).1 : Nat) : Int)) r u.1 u.2) (fun u t => pOut G (va_A (va_pl L f) sz) u.1 u.2 t) (va_A (va_pl L f) sz)) args s 0 0 A) (F0 m 4 ls []) := by
    intro n4
    induction n4 using Nat.strongRecOn with
    | _ n4 ih4 =>
      intro y4_2 y4_3 aT L_4 f_4 H locs ls I b_y4_2 b_y4_3 hI hm4 Y hl
      refine lv_iload_n hx hb dX5_cutNumber_4 rfl (lv_at hl 2 rfl) ?_
      refine lv_aload_n hx hb dX5_cutNumber_5 rfl (lv_at hl 0 rfl) ?_
      obtain ⟨v_80605, v_80607, v_80609, v_80611, v_80613, v_80615, v_80617, v_80619, v_80621, v_80623, p_ad_2_0, b_80606, b_80608, b_80610, b_80612, b_80614, b_80616, b_80618, b_80620, b_80622, b_80624⟩ := opnC_2 (j := 0) I (by decide)
      have p_ad_2_0 : pt L_4 f_4 (ad 2 0) (.inr (5, [.ref (ad 50 0), .ref (ad 51 0), .ref (ad 52 0), .ref (ad 53 0), .int v_80605, .int v_80607, .int v_80609, .int v_80611, .int v_80613, .int v_80615, .int v_80617, v_80619, .int v_80621, .int v_80623])) := p_ad_2_0
      have tv_80605 : v_80605.toInt = (nN : Int) := lim_eq b_80606
      have tv_80607 : v_80607.toInt = (cT : Int) := lim_eq b_80608
      refine pg_get S Y ok_X5 4 (by decide) kf5_31 (v := .int v_80605) p_ad_2_0 rfl dX5_cutNumber_6 ?_
      refine lv_icmp_ge (tgt := 49) hx hb dX5_cutNumber_9 (by decide) (fun c_80625 => ?_) (fun c_80625 => ?_)
      · have hE : dgE (bI bT) nN nN pT 0 = (aT, y4_3.toInt) := hI.2.2.2.trans (dgE_no (fun q => absurd q.1 (by have u1 := tv_80605; have u2 := tv_80607; have u3 := (show v_80605.toInt ≤ y4_2.toInt from by have z9 := c_80625; rw [Int32.le_iff_toInt_le] at z9; exact z9); have u4 := hI.1; have u5 := hI.2.1; omega)))
        refine lv_aload_n hx hb dX5_cutNumber_49 rfl (lv_at hl 0 rfl) ?_
        refine lv_sipush (v := 1000) hx hb dX5_cutNumber_50 (by decide) ?_
        refine lv_iload_n hx hb dX5_cutNumber_53 rfl (lv_at hl 1 rfl) ?_
        refine lv_iload_n hx hb dX5_cutNumber_54 rfl (lv_at hl 3 rfl) ?_
        refine cVv (As := [.int 1000, .int i1, .int y4_3]) (rest := []) S Y (x_X5_addToken (l := l) I hW hT hQ hc (by rw [hK]; rfl) (by rw [hP]; exact hp) (by rw [hV, hE])) cw_X5_addToken km5_85 p_ad_2_0 ok_X5.1 rfl rfl ⟨Nat.le_of_ble_eq_true rfl, Nat.le_of_ble_eq_true rfl⟩ hl.1 rfl (Nat.le_of_ble_eq_true rfl) ⟨Nat.le_of_ble_eq_true rfl, Nat.le_of_ble_eq_true rfl⟩ dX5_cutNumber_55 (fun L_80628 f_80629 H locs I Y => ?_)
        refine lv_iload_n hx hb dX5_cutNumber_58 rfl (lv_at hl 2 rfl) ?_
        exact prI (post := fun r L1 f1 => bn 0 300 r ∧ SH (spC ((rf, fz (pp (nN : Int)) (pp ((cT + 1 : Nat) : Int)) zR zK zP zV zW zF zQ, tz (EQ bT) (RW (cT + 1) kK) (RW (cT + 1) kP) (RW (cT + 1) kV), sc) : RS) fc tc w q) nnC G ad L1 f1 ∧ r.toInt = (((dgE (bI bT) nN nN pT 0).1 : Nat) : Int)) S Y rfl (by decide) (by decide) hA1 ⟨bn_w b_y4_2 (by decide), I, (by rw [hE]; exact hI.1)⟩ dX5_cutNumber_59
      · have B_80626 : bn 1 300 v_80605 := bn_w (bn_gtl c_80625 (bn_w (a' := 0) (b' := 300) b_80606 (lim_b _ _ _)) b_y4_2) (by decide)
        have B_80627 : bn 0 299 y4_2 := bn_w (bn_gtr c_80625 (bn_w (a' := 0) (b' := 300) b_80606 (lim_b _ _ _)) b_y4_2) (by decide)
        refine lv_aload_n hx hb dX5_cutNumber_12 rfl (lv_at hl 0 rfl) ?_
        refine lv_iload_n hx hb dX5_cutNumber_13 rfl (lv_at hl 2 rfl) ?_
        refine cVp (As := [.int y4_2]) (rest := []) S Y (x_X5_byteAt (l := l) I hW hT hQ) cw_X5_byteAt km5_65 p_ad_2_0 ok_X5.1 rfl rfl ⟨Nat.le_of_ble_eq_true rfl, Nat.le_of_ble_eq_true rfl⟩ hl.1 rfl (Nat.le_of_ble_eq_true rfl) ⟨Nat.le_of_ble_eq_true rfl, Nat.le_of_ble_eq_true rfl⟩ dX5_cutNumber_14 (fun r_80630 H locs er_80630 Y => ?_)
        refine cSp (As := [.int r_80630]) (rest := []) S Y (x_X5_isDigit (l := l) ) cw_X5_isDigit km5_76 rfl ⟨Nat.le_of_ble_eq_true rfl, Nat.le_of_ble_eq_true rfl⟩ hl.1 rfl (Nat.le_of_ble_eq_true rfl) ⟨Nat.le_of_ble_eq_true rfl, Nat.le_of_ble_eq_true rfl⟩ dX5_cutNumber_17 (fun r_80631 H locs er_80631 Y => ?_)
        refine lv_if_eq (tgt := 49) hx hb dX5_cutNumber_20 (by decide) (fun c_80632 => ?_) (fun c_80632 => ?_)
        · have B_80633 : bn 0 0 r_80631 := bn_w (bn_eq c_80632 (show bn 0 0 (0 : Int32) from bn_k (by decide))) (by decide)
          have hE : dgE (bI bT) nN nN pT 0 = (aT, y4_3.toInt) := hI.2.2.2.trans (dgE_no (fun q => cls_f er_80631.2 c_80632 (by rw [(byA_in (a := aT) er_80630 (by have u1 := tv_80605; have u2 := tv_80607; have u3 := (show y4_2.toInt < v_80605.toInt from by have z9 := (Int32.not_le.mp c_80625); rw [Int32.lt_iff_toInt_lt] at z9; exact z9); have u4 := (rfl : y4_2.toInt = y4_2.toInt); have u5 := hI.1; have u6 := hI.2.1; omega) (by have u1 := tv_80605; have u2 := tv_80607; have u3 := (show y4_2.toInt < v_80605.toInt from by have z9 := (Int32.not_le.mp c_80625); rw [Int32.lt_iff_toInt_lt] at z9; exact z9); have u4 := (rfl : y4_2.toInt = y4_2.toInt); have u5 := hI.1; have u6 := hI.2.1; omega))]; exact q.2)))
          refine lv_aload_n hx hb dX5_cutNumber_49 rfl (lv_at hl 0 rfl) ?_
          refine lv_sipush (v := 1000) hx hb dX5_cutNumber_50 (by decide) ?_
          refine lv_iload_n hx hb dX5_cutNumber_53 rfl (lv_at hl 1 rfl) ?_
          refine lv_iload_n hx hb dX5_cutNumber_54 rfl (lv_at hl 3 rfl) ?_
          refine cVv (As := [.int 1000, .int i1, .int y4_3]) (rest := []) S Y (x_X5_addToken (l := l) I hW hT hQ hc (by rw [hK]; rfl) (by rw [hP]; exact hp) (by rw [hV, hE])) cw_X5_addToken km5_85 p_ad_2_0 ok_X5.1 rfl rfl ⟨Nat.le_of_ble_eq_true rfl, Nat.le_of_ble_eq_true rfl⟩ hl.1 rfl (Nat.le_of_ble_eq_true rfl) ⟨Nat.le_of_ble_eq_true rfl, Nat.le_of_ble_eq_true rfl⟩ dX5_cutNumber_55 (fun L_80635 f_80636 H locs I Y => ?_)
          refine lv_iload_n hx hb dX5_cutNumber_58 rfl (lv_at hl 2 rfl) ?_
          exact prI (post := fun r L1 f1 => bn 0 300 r ∧ SH (spC ((rf, fz (pp (nN : Int)) (pp ((cT + 1 : Nat) : Int)) zR zK zP zV zW zF zQ, tz (EQ bT) (RW (cT + 1) kK) (RW (cT + 1) kP) (RW (cT + 1) kV), sc) : RS) fc tc w q) nnC G ad L1 f1 ∧ r.toInt = (((dgE (bI bT) nN nN pT 0).1 : Nat) : Int)) S Y rfl (by decide) (by decide) hA1 ⟨bn_w B_80627 (by decide), I, (by rw [hE]; exact hI.1)⟩ dX5_cutNumber_59
        · have B_80634 : bn 1 1 r_80631 := bn_w (bn_nel c_80632 er_80631.1 (show bn 0 0 (0 : Int32) from bn_k (by decide))) (by decide)
          refine lv_sipush (v := 10000) hx hb dX5_cutNumber_23 (by decide) ?_
          refine lv_iload_n hx hb dX5_cutNumber_26 rfl (lv_at hl 3 rfl) ?_
          refine lv_bipush (v := 10) hx hb dX5_cutNumber_27 (by decide) ?_
          refine lv_imul hx hb dX5_cutNumber_29 ?_
          refine lv_topi (fun x_80637 ex_80637 => ?_)
          refine lv_aload_n hx hb dX5_cutNumber_30 rfl (lv_at hl 0 rfl) ?_
          refine lv_iload_n hx hb dX5_cutNumber_31 rfl (lv_at hl 2 rfl) ?_
          refine cVp (As := [.int y4_2]) (rest := [.int x_80637, .int 10000]) S Y (x_X5_byteAt (l := l) I hW hT hQ) cw_X5_byteAt km5_65 p_ad_2_0 ok_X5.1 rfl rfl ⟨Nat.le_of_ble_eq_true rfl, Nat.le_of_ble_eq_true rfl⟩ hl.1 rfl (Nat.le_of_ble_eq_true rfl) ⟨Nat.le_of_ble_eq_true rfl, Nat.le_of_ble_eq_true rfl⟩ dX5_cutNumber_32 (fun r_80638 H locs er_80638 Y => ?_)
          have tdr_80638 : r_80638.toInt = bI bT aT := (byA_in (a := aT) er_80638 (by have u1 := tv_80605; have u2 := tv_80607; have u3 := (show y4_2.toInt < v_80605.toInt from by have z9 := (Int32.not_le.mp c_80625); rw [Int32.lt_iff_toInt_lt] at z9; exact z9); have u4 := (rfl : y4_2.toInt = y4_2.toInt); have u5 := hI.1; have u6 := hI.2.1; omega) (by have u1 := tv_80605; have u2 := tv_80607; have u3 := (show y4_2.toInt < v_80605.toInt from by have z9 := (Int32.not_le.mp c_80625); rw [Int32.lt_iff_toInt_lt] at z9; exact z9); have u4 := (rfl : y4_2.toInt = y4_2.toInt); have u5 := hI.1; have u6 := hI.2.1; omega))
          have dgr_80638 : isDg (bI bT aT) := by rw [← (byA_in (a := aT) er_80630 (by have u1 := tv_80605; have u2 := tv_80607; have u3 := (show y4_2.toInt < v_80605.toInt from by have z9 := (Int32.not_le.mp c_80625); rw [Int32.lt_iff_toInt_lt] at z9; exact z9); have u4 := (rfl : y4_2.toInt = y4_2.toInt); have u5 := hI.1; have u6 := hI.2.1; omega) (by have u1 := tv_80605; have u2 := tv_80607; have u3 := (show y4_2.toInt < v_80605.toInt from by have z9 := (Int32.not_le.mp c_80625); rw [Int32.lt_iff_toInt_lt] at z9; exact z9); have u4 := (rfl : y4_2.toInt = y4_2.toInt); have u5 := hI.1; have u6 := hI.2.1; omega))]; exact cls_t er_80631.2 c_80632
          have B_80639 : bn 48 57 r_80638 := ⟨by have h9 := tdr_80638; have h8 := dgr_80638.1; omega, by have h9 := tdr_80638; have h8 := dgr_80638.2; omega⟩
          refine lv_iadd hx hb dX5_cutNumber_35 ?_
          refine lv_topi (fun x_80640 ex_80640 => ?_)
          refine lv_bipush (v := 48) hx hb dX5_cutNumber_36 (by decide) ?_
          refine lv_isub hx hb dX5_cutNumber_38 ?_
          refine lv_topi (fun x_80641 ex_80641 => ?_)
          refine va_mmin hx hb (S.ml.trans hl.1.symm) S.ow (S.w km5_108) (S.w kMs_min) (S.w kMi) (S.w kMc_min) (Nat.le_of_ble_eq_true rfl) (Nat.le_of_ble_eq_true rfl) (by decide) (by decide) dX5_cutNumber_39 ?_
          refine lv_topi (fun x_80642 ex_80642 => ?_)
          refine lv_istore_n (lv' := [(3, .int x_80642), (0, .ref (ad 2 0)), (1, .int i1), (2, .int y4_2)]) hx hb dX5_cutNumber_42 rfl hl (by decide) rfl (fun ls hl => ?_)
          obtain ⟨x_80643, ex_80643⟩ : ∃ z : Int32, z = y4_2 + 1 := ⟨_, rfl⟩
          refine lv_iinc (v := x_80643) (lv' := [(2, .int x_80643), (3, .int x_80642), (0, .ref (ad 2 0)), (1, .int i1)]) hx hb dX5_cutNumber_43 hl (k := 3) rfl (by rw [ex_80643]; rfl) (by decide) rfl (fun ls hl => ?_)
          refine lv_goto (tgt := 4) hx hb dX5_cutNumber_46 (by decide) ?_
          exact ih4 _ (by rw [← hm4]; exact ms_up (m := 1) ex_80643 (show bn 1 1 (1 : Int32) from bn_k (by decide)) B_80627 (bn_w (bn_eq ex_80643 (bn_add B_80627 (show bn 1 1 (1 : Int32) from bn_k (by decide)) (by decide))) (by decide) : bn 0 300 x_80643) (by decide)) x_80643 x_80642 (aT + 1) _ _  _ _ _ I (bn_w (bn_eq ex_80643 (bn_add B_80627 (show bn 1 1 (1 : Int32) from bn_k (by decide)) (by decide))) (by decide)) (bn_w (bn_eq ex_80642 (bn_min (show bn 10000 10000 (10000 : Int32) from bn_k (by decide)) (bn_eq ex_80641 (bn_sub (bn_eq ex_80640 (bn_add (bn_eq ex_80637 (bn_mul b_y4_3 (show bn 10 10 (10 : Int32) from bn_k (by decide)) (by decide))) B_80639 (by decide))) (show bn 48 48 (48 : Int32) from bn_k (by decide)) (by decide))))) (by decide)) ⟨(by have u1 := tv_80605; have u2 := tv_80607; have u3 := tdr_80638; have u4 := (show y4_2.toInt < v_80605.toInt from by have z9 := (Int32.not_le.mp c_80625); rw [Int32.lt_iff_toInt_lt] at z9; exact z9); have u5 := hI.1; have u6 := (la_add ex_80643 (rfl : y4_2.toInt = y4_2.toInt) (show (1 : Int32).toInt = 1 from rfl) B_80627 (show bn 1 1 (1 : Int32) from bn_k (by decide)) (by decide)); omega), (by have u1 := tv_80605; have u2 := tv_80607; have u3 := tdr_80638; have u4 := (show y4_2.toInt < v_80605.toInt from by have z9 := (Int32.not_le.mp c_80625); rw [Int32.lt_iff_toInt_lt] at z9; exact z9); have u5 := hI.1; have u6 := (la_add ex_80643 (rfl : y4_2.toInt = y4_2.toInt) (show (1 : Int32).toInt = 1 from rfl) B_80627 (show bn 1 1 (1 : Int32) from bn_k (by decide)) (by decide)); omega), (by have u1 := tv_80605; have u2 := tv_80607; have u3 := tdr_80638; have u4 := (show y4_2.toInt < v_80605.toInt from by have z9 := (Int32.not_le.mp c_80625); rw [Int32.lt_iff_toInt_lt] at z9; exact z9); have u5 := hI.2.2.1; omega), hI.2.2.2.trans ((dgE_s ⟨(by have u1 := tv_80605; have u2 := tv_80607; have u3 := tdr_80638; have u4 := (show y4_2.toInt < v_80605.toInt from by have z9 := (Int32.not_le.mp c_80625); rw [Int32.lt_iff_toInt_lt] at z9; exact z9); have u5 := hI.1; omega), dgr_80638⟩).trans (by rw [show x_80642.toInt = min 10000 (y4_3.toInt * 10 + bI bT aT - 48) from by have h9 := min_t ex_80642 (show (10000 : Int32).toInt = 10000 from rfl) (la_sub ex_80641 (la_add ex_80640 (la_mul ex_80637 (rfl : y4_3.toInt = y4_3.toInt) (show (10 : Int32).toInt = 10 from rfl) b_y4_3 (show bn 10 10 (10 : Int32) from bn_k (by decide)) (by decide)) tdr_80638 (bn_eq ex_80637 (bn_mul b_y4_3 (show bn 10 10 (10 : Int32) from bn_k (by decide)) (by decide))) B_80639 (by decide)) (show (48 : Int32).toInt = 48 from rfl) (bn_eq ex_80640 (bn_add (bn_eq ex_80637 (bn_mul b_y4_3 (show bn 10 10 (10 : Int32) from bn_k (by decide)) (by decide))) B_80639 (by decide))) (show bn 48 48 (48 : Int32) from bn_k (by decide)) (by decide)); omega]))⟩ rfl Y (lv_sub hl [2, 3, 0, 1] rfl)
  refine lv_iload_n hx hb dX5_cutNumber_0 rfl (lv_at hl 1 rfl) ?_
  refine lv_istore_n (lv' := [(2, .int i1), (0, .ref (ad 2 0)), (1, .int i1)]) hx hb dX5_cutNumber_1 rfl hl (by decide) rfl (fun ls hl => ?_)
  refine lv_iconst (v := 0) hx hb dX5_cutNumber_2 (by decide) ?_
  refine lv_istore_n (lv' := [(3, .int 0), (2, .int i1), (0, .ref (ad 2 0)), (1, .int i1)]) hx hb dX5_cutNumber_3 rfl hl (by decide) rfl (fun ls hl => ?_)
  exact J_4 _ i1 0 pT _ _  _ _ _ I (bn_w b_i1 (by decide)) (bn_w (show bn 0 0 (0 : Int32) from bn_k (by decide)) (by decide)) ⟨hp, by omega, Nat.le_refl _, rfl⟩ rfl Y (lv_sub hl [2, 3, 1, 0] rfl)
