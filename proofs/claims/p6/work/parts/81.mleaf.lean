theorem dX12_isIn_0 : decode cX12_isIn 0 = .ok (.iload_n 0, 1) := by decide +kernel
theorem dX12_isIn_1 : decode cX12_isIn 1 = .ok (.iload_n 1, 1) := by decide +kernel
theorem dX12_isIn_2 : decode cX12_isIn 2 = .ok (.if_icmp .lt 12, 3) := by decide +kernel
theorem dX12_isIn_14 : decode cX12_isIn 14 = .ok (.iconst 0, 1) := by decide +kernel
theorem dX12_isIn_15 : decode cX12_isIn 15 = .ok (.ireturn, 1) := by decide +kernel
theorem dX12_isIn_5 : decode cX12_isIn 5 = .ok (.iload_n 0, 1) := by decide +kernel
theorem dX12_isIn_6 : decode cX12_isIn 6 = .ok (.iload_n 2, 1) := by decide +kernel
theorem dX12_isIn_7 : decode cX12_isIn 7 = .ok (.if_icmp .gt 7, 3) := by decide +kernel
theorem dX12_isIn_10 : decode cX12_isIn 10 = .ok (.iconst 1, 1) := by decide +kernel
theorem dX12_isIn_11 : decode cX12_isIn 11 = .ok (.goto 4, 3) := by decide +kernel
theorem dX12_cut_0 : decode cX12_cut 0 = .ok (.lload_n 0, 1) := by decide +kernel
theorem dX12_cut_1 : decode cX12_cut 1 = .ok (.iload_n 2, 1) := by decide +kernel
theorem dX12_cut_2 : decode cX12_cut 2 = .ok (.i2l, 1) := by decide +kernel
theorem dX12_cut_3 : decode cX12_cut 3 = .ok (.lcmp, 1) := by decide +kernel
theorem dX12_cut_4 : decode cX12_cut 4 = .ok (.ifCond .ge 7, 3) := by decide +kernel
theorem dX12_cut_11 : decode cX12_cut 11 = .ok (.lload_n 0, 1) := by decide +kernel
theorem dX12_cut_12 : decode cX12_cut 12 = .ok (.iload_n 3, 1) := by decide +kernel
theorem dX12_cut_13 : decode cX12_cut 13 = .ok (.i2l, 1) := by decide +kernel
theorem dX12_cut_14 : decode cX12_cut 14 = .ok (.lcmp, 1) := by decide +kernel
theorem dX12_cut_15 : decode cX12_cut 15 = .ok (.ifCond .le 7, 3) := by decide +kernel
theorem dX12_cut_22 : decode cX12_cut 22 = .ok (.lload_n 0, 1) := by decide +kernel
theorem dX12_cut_23 : decode cX12_cut 23 = .ok (.l2i, 1) := by decide +kernel
theorem dX12_cut_24 : decode cX12_cut 24 = .ok (.ireturn, 1) := by decide +kernel
theorem dX12_cut_18 : decode cX12_cut 18 = .ok (.iload_n 3, 1) := by decide +kernel
theorem dX12_cut_19 : decode cX12_cut 19 = .ok (.goto 5, 3) := by decide +kernel
theorem dX12_cut_7 : decode cX12_cut 7 = .ok (.iload_n 2, 1) := by decide +kernel
theorem dX12_cut_8 : decode cX12_cut 8 = .ok (.goto 16, 3) := by decide +kernel
theorem dX12_has_0 : decode cX12_has 0 = .ok (.iload_n 0, 1) := by decide +kernel
theorem dX12_has_1 : decode cX12_has 1 = .ok (.iload_n 1, 1) := by decide +kernel
theorem dX12_has_2 : decode cX12_has 2 = .ok (.ishr, 1) := by decide +kernel
theorem dX12_has_3 : decode cX12_has 3 = .ok (.iconst 1, 1) := by decide +kernel
theorem dX12_has_4 : decode cX12_has 4 = .ok (.iand, 1) := by decide +kernel
theorem dX12_has_5 : decode cX12_has 5 = .ok (.iconst 1, 1) := by decide +kernel
theorem dX12_has_6 : decode cX12_has 6 = .ok (.if_icmp .ne 7, 3) := by decide +kernel
theorem dX12_has_13 : decode cX12_has 13 = .ok (.iconst 0, 1) := by decide +kernel
theorem dX12_has_14 : decode cX12_has 14 = .ok (.ireturn, 1) := by decide +kernel
theorem dX12_has_9 : decode cX12_has 9 = .ok (.iconst 1, 1) := by decide +kernel
theorem dX12_has_10 : decode cX12_has 10 = .ok (.goto 4, 3) := by decide +kernel
theorem dX12_bits_0 : decode cX12_bits 0 = .ok (.iconst 0, 1) := by decide +kernel
theorem dX12_bits_1 : decode cX12_bits 1 = .ok (.istore_n 1, 1) := by decide +kernel
theorem dX12_bits_2 : decode cX12_bits 2 = .ok (.iload_n 0, 1) := by decide +kernel
theorem dX12_bits_3 : decode cX12_bits 3 = .ok (.istore_n 2, 1) := by decide +kernel
theorem dX12_bits_4 : decode cX12_bits 4 = .ok (.iload_n 2, 1) := by decide +kernel
theorem dX12_bits_5 : decode cX12_bits 5 = .ok (.ifCond .eq 15, 3) := by decide +kernel
theorem dX12_bits_20 : decode cX12_bits 20 = .ok (.iload_n 1, 1) := by decide +kernel
theorem dX12_bits_21 : decode cX12_bits 21 = .ok (.ireturn, 1) := by decide +kernel
theorem dX12_bits_8 : decode cX12_bits 8 = .ok (.iinc 1 1, 3) := by decide +kernel
theorem dX12_bits_11 : decode cX12_bits 11 = .ok (.iload_n 2, 1) := by decide +kernel
theorem dX12_bits_12 : decode cX12_bits 12 = .ok (.iload_n 2, 1) := by decide +kernel
theorem dX12_bits_13 : decode cX12_bits 13 = .ok (.iconst 1, 1) := by decide +kernel
theorem dX12_bits_14 : decode cX12_bits 14 = .ok (.isub, 1) := by decide +kernel
theorem dX12_bits_15 : decode cX12_bits 15 = .ok (.iand, 1) := by decide +kernel
theorem dX12_bits_16 : decode cX12_bits 16 = .ok (.istore_n 2, 1) := by decide +kernel
theorem dX12_bits_17 : decode cX12_bits 17 = .ok (.goto (-13), 3) := by decide +kernel
theorem dX12_isOne_0 : decode cX12_isOne 0 = .ok (.iload_n 1, 1) := by decide +kernel
theorem dX12_isOne_1 : decode cX12_isOne 1 = .ok (.iconst 0, 1) := by decide +kernel
theorem dX12_isOne_2 : decode cX12_isOne 2 = .ok (.aload_n 0, 1) := by decide +kernel
theorem dX12_isOne_3 : decode cX12_isOne 3 = .ok (.getfield 7, 3) := by decide +kernel
theorem ok_X12 : clOK 12 RX12 TX12 32 tyX12 := ⟨rfl, fun w h => ⟨(show ∀ w ∈ u_ws RX12 TX12 32, w ∈ lw_tbl by decide +kernel) w h, (show ∀ w ∈ u_ws RX12 TX12 32, gw w = true by decide +kernel) w h⟩, tyX12_ok, nmX12⟩
theorem kf12_7 : inW (Cond.fieldLink RX12 7 "KneeOathsModel" "a" "[I") := ⟨List.mem_of_getElem? (i := 1498) (by decide +kernel), by decide +kernel⟩
theorem dX12_isOne_6 : decode cX12_isOne 6 = .ok (.iconst 0, 1) := by decide +kernel
theorem dX12_isOne_7 : decode cX12_isOne 7 = .ok (.iaload, 1) := by decide +kernel
theorem dX12_isOne_8 : decode cX12_isOne 8 = .ok (.iconst 1, 1) := by decide +kernel
theorem dX12_isOne_9 : decode cX12_isOne 9 = .ok (.isub, 1) := by decide +kernel
theorem dX12_isOne_10 : decode cX12_isOne 10 = .ok (.invokestatic 69, 3) := by decide +kernel
theorem cw_X12_isIn : CWs yX12_isIn cX12_isIn 3 (some .boolean) 3 := ⟨⟨⟨List.mem_of_getElem? (i := 137) (by decide +kernel), by decide +kernel⟩, ⟨List.mem_of_getElem? (i := 1603) (by decide +kernel), by decide +kernel⟩, by decide +kernel⟩, ⟨List.mem_of_getElem? (i := 1602) (by decide +kernel), by decide +kernel⟩⟩
theorem km12_69 : inW (Cond.methodLink RX12 69 yX12_isIn) := ⟨List.mem_of_getElem? (i := 1601) (by decide +kernel), by decide +kernel⟩
theorem dX12_isOne_13 : decode cX12_isOne 13 = .ok (.ireturn, 1) := by decide +kernel
theorem dX12_isOath_0 : decode cX12_isOath 0 = .ok (.iload_n 1, 1) := by decide +kernel
theorem dX12_isOath_1 : decode cX12_isOath 1 = .ok (.iconst 0, 1) := by decide +kernel
theorem dX12_isOath_2 : decode cX12_isOath 2 = .ok (.aload_n 0, 1) := by decide +kernel
theorem dX12_isOath_3 : decode cX12_isOath 3 = .ok (.getfield 7, 3) := by decide +kernel
theorem dX12_isOath_6 : decode cX12_isOath 6 = .ok (.bipush 13, 2) := by decide +kernel
theorem dX12_isOath_8 : decode cX12_isOath 8 = .ok (.iaload, 1) := by decide +kernel
theorem dX12_isOath_9 : decode cX12_isOath 9 = .ok (.iconst 1, 1) := by decide +kernel
theorem dX12_isOath_10 : decode cX12_isOath 10 = .ok (.isub, 1) := by decide +kernel
theorem dX12_isOath_11 : decode cX12_isOath 11 = .ok (.invokestatic 69, 3) := by decide +kernel
theorem dX12_isOath_14 : decode cX12_isOath 14 = .ok (.ireturn, 1) := by decide +kernel
theorem dX12_get_0 : decode cX12_get 0 = .ok (.aload_n 0, 1) := by decide +kernel
theorem dX12_get_1 : decode cX12_get 1 = .ok (.getfield 7, 3) := by decide +kernel
theorem dX12_get_4 : decode cX12_get 4 = .ok (.bipush 16, 2) := by decide +kernel
theorem dX12_get_6 : decode cX12_get 6 = .ok (.bipush 7, 2) := by decide +kernel
theorem dX12_get_8 : decode cX12_get 8 = .ok (.iload_n 1, 1) := by decide +kernel
theorem dX12_get_9 : decode cX12_get 9 = .ok (.imul, 1) := by decide +kernel
theorem dX12_get_10 : decode cX12_get 10 = .ok (.iadd, 1) := by decide +kernel
theorem dX12_get_11 : decode cX12_get 11 = .ok (.iload_n 2, 1) := by decide +kernel
theorem dX12_get_12 : decode cX12_get 12 = .ok (.iadd, 1) := by decide +kernel
theorem dX12_get_13 : decode cX12_get 13 = .ok (.iaload, 1) := by decide +kernel
theorem dX12_get_14 : decode cX12_get 14 = .ok (.ireturn, 1) := by decide +kernel
theorem an_dec {x y z : Int32} (h : ¬ x = 0) (e1 : y = x - 1) (e2 : z = x &&& y) : z.toBitVec.toNat < x.toBitVec.toNat := by
  have hx : 0 < x.toBitVec.toNat := by
    rcases Nat.eq_zero_or_pos x.toBitVec.toNat with q | q
    · exact absurd (Int32.toBitVec_inj.mp (BitVec.eq_of_toNat_eq q)) h
    · exact q
  have h1 : y.toBitVec.toNat < x.toBitVec.toNat := by
    rw [e1]
    have : (x - 1).toBitVec = x.toBitVec - 1#32 := rfl
    rw [this, BitVec.toNat_sub]
    have := x.toBitVec.isLt
    simp only [BitVec.toNat_ofNat]
    omega
  have h2 : z.toBitVec.toNat ≤ y.toBitVec.toNat := by
    rw [e2]
    have : (x &&& y).toBitVec = x.toBitVec &&& y.toBitVec := rfl
    rw [this, BitVec.toNat_and]; exact Nat.and_le_right
  omega
theorem bn_btw {a b c d : Int} {x y z : Int32} (h1 : y ≤ x) (h2 : x ≤ z) (hy : bn a b y) (hz : bn c d z) : bn a d x := by
  rw [Int32.le_iff_toInt_le] at h1 h2
  obtain ⟨p1, p2⟩ := hy; obtain ⟨q1, q2⟩ := hz; exact ⟨by omega, by omega⟩
set_option maxHeartbeats 4000000 in
set_option maxRecDepth 100000 in
theorem x_X12_isIn {l : Launch} {G : GG}  {L : List Nat} {f : HF}  {i1 i2 i3 : Int32}  : PMp l yX12_isIn cX12_isIn 3 .boolean 0 0 0 G [.int i1, .int i2, .int i3] L f (fun r => (bn 0 1 r ∧ (¬ r = 0 → i2 ≤ i1 ∧ i1 ≤ i3))) := by
  refine PMi.of (post := fun r L1 f1 => ((bn 0 1 r ∧ (¬ r = 0 → i2 ≤ i1 ∧ i1 ≤ i3))) ∧ L1 = L ∧ f1 = f) (own := RX12) (by decide) rfl (Nat.le_of_ble_eq_true rfl) (fun sz p e s m args below meth c A ls hA1 hname S Y hl => ?_)
  have hx := S.hx
  have hb := S.hb
  have hl : lv_has ls 3 [(0, .int i1), (1, .int i2), (2, .int i3)] := hl
  refine lv_iload_n hx hb dX12_isIn_0 rfl (lv_at hl 0 rfl) ?_
  refine lv_iload_n hx hb dX12_isIn_1 rfl (lv_at hl 1 rfl) ?_
  refine lv_icmp_lt (tgt := 14) hx hb dX12_isIn_2 (by decide) (fun c_13 => ?_) (fun c_13 => ?_)
  · have B_14 : bn (-2147483648) 2147483646 i1 := bn_w (bn_ltl c_13 (bn_any i1) (bn_any i2)) (by decide)
    have B_15 : bn (-2147483647) 2147483647 i2 := bn_w (bn_ltr c_13 (bn_any i1) (bn_any i2)) (by decide)
    refine lv_iconst (v := 0) hx hb dX12_isIn_14 (by decide) ?_
    exact prI (post := fun r L1 f1 => ((bn 0 1 r ∧ (¬ r = 0 → i2 ≤ i1 ∧ i1 ≤ i3))) ∧ L1 = L ∧ f1 = f) S Y rfl (by decide) (by decide) hA1 ⟨⟨bn_k (by decide), fun h => absurd rfl h⟩, rfl, rfl⟩ dX12_isIn_15
  · refine lv_iload_n hx hb dX12_isIn_5 rfl (lv_at hl 0 rfl) ?_
    refine lv_iload_n hx hb dX12_isIn_6 rfl (lv_at hl 2 rfl) ?_
    refine lv_icmp_gt (tgt := 14) hx hb dX12_isIn_7 (by decide) (fun c_16 => ?_) (fun c_16 => ?_)
    · have B_17 : bn (-2147483648) 2147483646 i3 := bn_w (bn_ltl c_16 (bn_any i3) (bn_any i1)) (by decide)
      have B_18 : bn (-2147483647) 2147483647 i1 := bn_w (bn_ltr c_16 (bn_any i3) (bn_any i1)) (by decide)
      refine lv_iconst (v := 0) hx hb dX12_isIn_14 (by decide) ?_
      exact prI (post := fun r L1 f1 => ((bn 0 1 r ∧ (¬ r = 0 → i2 ≤ i1 ∧ i1 ≤ i3))) ∧ L1 = L ∧ f1 = f) S Y rfl (by decide) (by decide) hA1 ⟨⟨bn_k (by decide), fun h => absurd rfl h⟩, rfl, rfl⟩ dX12_isIn_15
    · refine lv_iconst (v := 1) hx hb dX12_isIn_10 (by decide) ?_
      refine lv_goto (tgt := 15) hx hb dX12_isIn_11 (by decide) ?_
      exact prI (post := fun r L1 f1 => ((bn 0 1 r ∧ (¬ r = 0 → i2 ≤ i1 ∧ i1 ≤ i3))) ∧ L1 = L ∧ f1 = f) S Y rfl (by decide) (by decide) hA1 ⟨⟨bn_k (by decide), fun _ => ⟨Int32.not_lt.mp c_13, Int32.not_lt.mp c_16⟩⟩, rfl, rfl⟩ dX12_isIn_15
set_option maxHeartbeats 4000000 in
set_option maxRecDepth 100000 in
theorem x_X12_cut {l : Launch} {G : GG}  {L : List Nat} {f : HF}  {i1 i2 : Int32} {v1 : Int64}  : PMp l yX12_cut cX12_cut 4 .int 0 0 0 G [.long v1, .int i1, .int i2] L f (fun r => True) := by
  refine PMi.of (post := fun r L1 f1 => (True) ∧ L1 = L ∧ f1 = f) (own := RX12) (by decide) rfl (Nat.le_of_ble_eq_true rfl) (fun sz p e s m args below meth c A ls hA1 hname S Y hl => ?_)
  have hx := S.hx
  have hb := S.hb
  have hl : lv_has ls 4 [(0, .long v1), (2, .int i1), (3, .int i2)] := hl
  refine lv_lload_n hx hb dX12_cut_0 rfl (lv_at hl 0 rfl) ?_
  refine lv_iload_n hx hb dX12_cut_1 rfl (lv_at hl 1 rfl) ?_
  refine lv_i2l hx hb dX12_cut_2 rfl ?_
  refine lv_topl (fun x_41 ex_41 => ?_)
  refine W.lcmp hx hb dX12_cut_3 ?_
  refine lv_topi (fun x_42 ex_42 => ?_)
  refine lv_if_ge (tgt := 11) hx hb dX12_cut_4 (by decide) (fun c_43 => ?_) (fun c_43 => ?_)
  · have B_44 : bn 0 1 x_42 := bn_w (bn_ler c_43 (show bn 0 0 (0 : Int32) from bn_k (by decide)) (bn_eq ex_42 (bn_lc v1 x_41))) (by decide)
    refine lv_lload_n hx hb dX12_cut_11 rfl (lv_at hl 0 rfl) ?_
    refine lv_iload_n hx hb dX12_cut_12 rfl (lv_at hl 2 rfl) ?_
    refine lv_i2l hx hb dX12_cut_13 rfl ?_
    refine lv_topl (fun x_46 ex_46 => ?_)
    refine W.lcmp hx hb dX12_cut_14 ?_
    refine lv_topi (fun x_47 ex_47 => ?_)
    refine lv_if_le (tgt := 22) hx hb dX12_cut_15 (by decide) (fun c_48 => ?_) (fun c_48 => ?_)
    · have B_49 : bn (-1) 0 x_47 := bn_w (bn_lel c_48 (bn_eq ex_47 (bn_lc v1 x_46)) (show bn 0 0 (0 : Int32) from bn_k (by decide))) (by decide)
      refine lv_lload_n hx hb dX12_cut_22 rfl (lv_at hl 0 rfl) ?_
      refine lv_l2i hx hb dX12_cut_23 rfl ?_
      refine lv_topi (fun x_51 ex_51 => ?_)
      exact prI (post := fun r L1 f1 => (True) ∧ L1 = L ∧ f1 = f) S Y rfl (by decide) (by decide) hA1 ⟨trivial, rfl, rfl⟩ dX12_cut_24
    · have B_50 : bn 1 1 x_47 := bn_w (bn_gtl c_48 (bn_eq ex_47 (bn_lc v1 x_46)) (show bn 0 0 (0 : Int32) from bn_k (by decide))) (by decide)
      refine lv_iload_n hx hb dX12_cut_18 rfl (lv_at hl 2 rfl) ?_
      refine lv_goto (tgt := 24) hx hb dX12_cut_19 (by decide) ?_
      exact prI (post := fun r L1 f1 => (True) ∧ L1 = L ∧ f1 = f) S Y rfl (by decide) (by decide) hA1 ⟨trivial, rfl, rfl⟩ dX12_cut_24
  · have B_45 : bn (-1) (-1) x_42 := bn_w (bn_gtr c_43 (show bn 0 0 (0 : Int32) from bn_k (by decide)) (bn_eq ex_42 (bn_lc v1 x_41))) (by decide)
    refine lv_iload_n hx hb dX12_cut_7 rfl (lv_at hl 1 rfl) ?_
    refine lv_goto (tgt := 24) hx hb dX12_cut_8 (by decide) ?_
    exact prI (post := fun r L1 f1 => (True) ∧ L1 = L ∧ f1 = f) S Y rfl (by decide) (by decide) hA1 ⟨trivial, rfl, rfl⟩ dX12_cut_24
set_option maxHeartbeats 4000000 in
set_option maxRecDepth 100000 in
theorem x_X12_has {l : Launch} {G : GG}  {L : List Nat} {f : HF}  {i1 i2 : Int32}  : PMp l yX12_has cX12_has 2 .boolean 0 0 0 G [.int i1, .int i2] L f (fun r => bn 0 1 r) := by
  refine PMi.of (post := fun r L1 f1 => (bn 0 1 r) ∧ L1 = L ∧ f1 = f) (own := RX12) (by decide) rfl (Nat.le_of_ble_eq_true rfl) (fun sz p e s m args below meth c A ls hA1 hname S Y hl => ?_)
  have hx := S.hx
  have hb := S.hb
  have hl : lv_has ls 2 [(0, .int i1), (1, .int i2)] := hl
  refine lv_iload_n hx hb dX12_has_0 rfl (lv_at hl 0 rfl) ?_
  refine lv_iload_n hx hb dX12_has_1 rfl (lv_at hl 1 rfl) ?_
  refine lv_ishr hx hb dX12_has_2 ?_
  refine lv_topi (fun x_60 ex_60 => ?_)
  refine lv_iconst (v := 1) hx hb dX12_has_3 (by decide) ?_
  refine lv_iand hx hb dX12_has_4 ?_
  refine lv_topi (fun x_61 ex_61 => ?_)
  refine lv_iconst (v := 1) hx hb dX12_has_5 (by decide) ?_
  refine lv_icmp_ne (tgt := 13) hx hb dX12_has_6 (by decide) (fun c_62 => ?_) (fun c_62 => ?_)
  · refine lv_iconst (v := 0) hx hb dX12_has_13 (by decide) ?_
    exact prI (post := fun r L1 f1 => (bn 0 1 r) ∧ L1 = L ∧ f1 = f) S Y rfl (by decide) (by decide) hA1 ⟨bn_w (show bn 0 0 (0 : Int32) from bn_k (by decide)) (by decide), rfl, rfl⟩ dX12_has_14
  · have B_63 : bn 1 1 x_61 := bn_w (bn_eq c_62 (show bn 1 1 (1 : Int32) from bn_k (by decide))) (by decide)
    refine lv_iconst (v := 1) hx hb dX12_has_9 (by decide) ?_
    refine lv_goto (tgt := 14) hx hb dX12_has_10 (by decide) ?_
    exact prI (post := fun r L1 f1 => (bn 0 1 r) ∧ L1 = L ∧ f1 = f) S Y rfl (by decide) (by decide) hA1 ⟨bn_w (show bn 1 1 (1 : Int32) from bn_k (by decide)) (by decide), rfl, rfl⟩ dX12_has_14
set_option maxHeartbeats 4000000 in
set_option maxRecDepth 100000 in
theorem x_X12_bits {l : Launch} {G : GG}  {L : List Nat} {f : HF}  {i1 : Int32}  : PMp l yX12_bits cX12_bits 3 .int 0 0 0 G [.int i1] L f (fun r => True) := by
  refine PMi.of (post := fun r L1 f1 => (True) ∧ L1 = L ∧ f1 = f) (own := RX12) (by decide) rfl (Nat.le_of_ble_eq_true rfl) (fun sz p e s m args below meth c A ls hA1 hname S Y hl => ?_)
  have hx := S.hx
  have hb := S.hb
  have hl : lv_has ls 3 [(0, .int i1)] := hl
  have J_4 : ∀ (n4 : Nat) (y4_1 y4_2 : Int32) (H : Heap) (locs : List Loc) (ls : Array Slot), (y4_2.toBitVec.toNat = n4) → (DY G A s [] L f H locs) → (lv_has ls 3 [(0, .int i1), (1, .int y4_1), (2, .int y4_2)]) → W p l e (rmD 0 0 0) s m args below meth c H locs (0) (0) (MQ below (va_Qi (fun r (u : List Nat × HF) => (fun r L1 f1 => (True) ∧ L1 = L ∧ f1 = f) r u.1 u.2) (fun u t => pOut G (va_A (va_pl L f) sz) u.1 u.2 t) (va_A (va_pl L f) sz)) args s 0 0 A) (F0 m 4 ls []) := by
    intro n4
    induction n4 using Nat.strongRecOn with
    | _ n4 ih4 =>
      intro y4_1 y4_2 H locs ls hm4 Y hl
      refine lv_iload_n hx hb dX12_bits_4 rfl (lv_at hl 2 rfl) ?_
      refine lv_if_eq (tgt := 20) hx hb dX12_bits_5 (by decide) (fun c_364 => ?_) (fun c_364 => ?_)
      · have B_365 : bn 0 0 y4_2 := bn_w (bn_eq c_364 (show bn 0 0 (0 : Int32) from bn_k (by decide))) (by decide)
        refine lv_iload_n hx hb dX12_bits_20 rfl (lv_at hl 1 rfl) ?_
        exact prI (post := fun r L1 f1 => (True) ∧ L1 = L ∧ f1 = f) S Y rfl (by decide) (by decide) hA1 ⟨trivial, rfl, rfl⟩ dX12_bits_21
      · obtain ⟨x_366, ex_366⟩ : ∃ z : Int32, z = y4_1 + 1 := ⟨_, rfl⟩
        refine lv_iinc (v := x_366) (lv' := [(1, .int x_366), (0, .int i1), (2, .int y4_2)]) hx hb dX12_bits_8 hl (k := 1) rfl (by rw [ex_366]; rfl) (by decide) rfl (fun ls hl => ?_)
        refine lv_iload_n hx hb dX12_bits_11 rfl (lv_at hl 2 rfl) ?_
        refine lv_iload_n hx hb dX12_bits_12 rfl (lv_at hl 2 rfl) ?_
        refine lv_iconst (v := 1) hx hb dX12_bits_13 (by decide) ?_
        refine lv_isub hx hb dX12_bits_14 ?_
        refine lv_topi (fun x_367 ex_367 => ?_)
        refine lv_iand hx hb dX12_bits_15 ?_
        refine lv_topi (fun x_368 ex_368 => ?_)
        refine lv_istore_n (lv' := [(2, .int x_368), (1, .int x_366), (0, .int i1)]) hx hb dX12_bits_16 rfl hl (by decide) rfl (fun ls hl => ?_)
        refine lv_goto (tgt := 4) hx hb dX12_bits_17 (by decide) ?_
        exact ih4 _ (by rw [← hm4]; exact an_dec c_364 ex_367 ex_368) x_366 x_368  _ _ _   rfl Y (lv_sub hl [2, 1, 0] rfl)
  refine lv_iconst (v := 0) hx hb dX12_bits_0 (by decide) ?_
  refine lv_istore_n (lv' := [(1, .int 0), (0, .int i1)]) hx hb dX12_bits_1 rfl hl (by decide) rfl (fun ls hl => ?_)
  refine lv_iload_n hx hb dX12_bits_2 rfl (lv_at hl 1 rfl) ?_
  refine lv_istore_n (lv' := [(2, .int i1), (1, .int 0), (0, .int i1)]) hx hb dX12_bits_3 rfl hl (by decide) rfl (fun ls hl => ?_)
  exact J_4 _ 0 i1  _ _ _   rfl Y (lv_sub hl [2, 1, 0] rfl)
set_option maxHeartbeats 4000000 in
set_option maxRecDepth 100000 in
theorem x_X12_isOne {l : Launch} {G : GG}  {L : List Nat} {f : HF} {ad : Nat → Nat → Nat} {sl : Int} {pl : Int} {oh : Int} {dh : Int} {w : WW} {pi : PIT} {px : (Nat → Int32) → Prop} {pa : (Nat → Int32) → Prop} {i1 : Int32} (I : SH (spM (IA sl pl oh dh w) pi px pa) nnM G ad L f) (hB : BBp sl pl oh dh w) : PMp l yX12_isOne cX12_isOne 2 .boolean 1 0 0 G [.ref (ad 0 0), .int i1] L f (fun r => (bn 0 1 r ∧ (¬ r = 0 → bn 0 5 i1))) := by
  refine PMi.of (post := fun r L1 f1 => ((bn 0 1 r ∧ (¬ r = 0 → bn 0 5 i1))) ∧ L1 = L ∧ f1 = f) (own := RX12) (by decide) rfl (Nat.le_of_ble_eq_true rfl) (fun sz p e s m args below meth c A ls hA1 hname S Y hl => ?_)
  have hx := S.hx
  have hb := S.hb
  have hl : lv_has ls 2 [(0, .ref (ad 0 0)), (1, .int i1)] := hl
  refine lv_iload_n hx hb dX12_isOne_0 rfl (lv_at hl 1 rfl) ?_
  refine lv_iconst (v := 0) hx hb dX12_isOne_1 (by decide) ?_
  refine lv_aload_n hx hb dX12_isOne_2 rfl (lv_at hl 0 rfl) ?_
  obtain ⟨v_451, v_453, v_455, v_457, v_459, v_461, v_463, v_465, v_466, v_468, v_470, v_472, v_474, v_476, v_478, v_480, v_482, v_484, p_ad_0_0, b_452, b_454, b_456, b_458, b_460, b_462, b_464, b_467, b_469, b_471, b_473, b_475, b_477, b_479, b_481, b_483, b_485⟩ := opnM_0 (j := 0) I (by decide)
  have p_ad_0_0 : pt L f (ad 0 0) (.inr (12, [.ref (ad 1 0), .ref (ad 2 0), .ref (ad 3 0), .ref (ad 4 0), .int v_451, .int v_453, .int v_455, .int v_457, .int v_459, .int v_461, .int v_463, .long v_465, .int v_466, .int v_468, .int v_470, .ref (ad 5 0), .ref (ad 6 0), .int v_472, .int v_474, .int v_476, .int v_478, .int v_480, .ref (ad 7 0), .ref (ad 8 0), .ref (ad 9 0), .int v_482, .ref (ad 10 0), .ref (ad 11 0), .ref (ad 12 0), .ref (ad 13 0), .int v_484, .ref (ad 14 0)])) := p_ad_0_0
  refine pg_get S Y ok_X12 0 (by decide) kf12_7 (v := .ref (ad 1 0)) p_ad_0_0 rfl dX12_isOne_3 ?_
  refine lv_iconst (v := 0) hx hb dX12_isOne_6 (by decide) ?_
  obtain ⟨g_486, p_ad_1_0, o_487⟩ := I.opi (k := 1) (j := 0) (by decide) rfl
  have p_ad_1_0 : pt L f (ad 1 0) (.inl (G.2 0, 10568, .inl g_486)) := p_ad_1_0
  obtain ⟨v_488, ev_488⟩ : ∃ z, z = g_486 (0 : Int32).toNatClampNeg := ⟨_, rfl⟩
  refine pg_iald S Y (v := v_488) p_ad_1_0 (by unfold vp_in; decide) ev_488.symm dX12_isOne_7 ?_
  have bv_488 : bn 0 6 v_488 := bn_eq ev_488 (bn_w (a' := 0) (b' := 6) (IA_0 o_487) ⟨by have h9 := hB; unfold BBp at h9; omega, by decide⟩)
  refine lv_iconst (v := 1) hx hb dX12_isOne_8 (by decide) ?_
  refine lv_isub hx hb dX12_isOne_9 ?_
  refine lv_topi (fun x_489 ex_489 => ?_)
  refine cSp (As := [.int i1, .int 0, .int x_489]) (rest := []) S Y (x_X12_isIn (l := l) ) cw_X12_isIn km12_69 rfl ⟨Nat.le_of_ble_eq_true rfl, Nat.le_of_ble_eq_true rfl⟩ hl.1 rfl (Nat.le_of_ble_eq_true rfl) ⟨Nat.le_of_ble_eq_true rfl, Nat.le_of_ble_eq_true rfl⟩ dX12_isOne_10 (fun r_490 H locs er_490 Y => ?_)
  exact prI (post := fun r L1 f1 => ((bn 0 1 r ∧ (¬ r = 0 → bn 0 5 i1))) ∧ L1 = L ∧ f1 = f) S Y (nw_b (bn_w er_490.1 (by decide))) (by decide) (by decide) hA1 ⟨⟨bn_w (a' := 0) (b' := 1) er_490.1 (by decide), fun h => bn_w (bn_i (bn_any i1) (bn_btw (er_490.2 h).1 (er_490.2 h).2 (show bn 0 0 (0 : Int32) from bn_k (by decide)) (bn_eq ex_489 (bn_sub bv_488 (show bn 1 1 (1 : Int32) from bn_k (by decide)) (by decide))))) (by decide)⟩, rfl, rfl⟩ dX12_isOne_13
set_option maxHeartbeats 4000000 in
set_option maxRecDepth 100000 in
theorem x_X12_isOath {l : Launch} {G : GG}  {L : List Nat} {f : HF} {ad : Nat → Nat → Nat} {sl : Int} {pl : Int} {oh : Int} {dh : Int} {w : WW} {pi : PIT} {px : (Nat → Int32) → Prop} {pa : (Nat → Int32) → Prop} {i1 : Int32} (I : SH (spM (IA sl pl oh dh w) pi px pa) nnM G ad L f) (hB : BBp sl pl oh dh w) : PMp l yX12_isOath cX12_isOath 2 .boolean 1 0 0 G [.ref (ad 0 0), .int i1] L f (fun r => (bn 0 1 r ∧ (¬ r = 0 → bn 0 13 i1))) := by
  refine PMi.of (post := fun r L1 f1 => ((bn 0 1 r ∧ (¬ r = 0 → bn 0 13 i1))) ∧ L1 = L ∧ f1 = f) (own := RX12) (by decide) rfl (Nat.le_of_ble_eq_true rfl) (fun sz p e s m args below meth c A ls hA1 hname S Y hl => ?_)
  have hx := S.hx
  have hb := S.hb
  have hl : lv_has ls 2 [(0, .ref (ad 0 0)), (1, .int i1)] := hl
  refine lv_iload_n hx hb dX12_isOath_0 rfl (lv_at hl 1 rfl) ?_
  refine lv_iconst (v := 0) hx hb dX12_isOath_1 (by decide) ?_
  refine lv_aload_n hx hb dX12_isOath_2 rfl (lv_at hl 0 rfl) ?_
  obtain ⟨v_574, v_576, v_578, v_580, v_582, v_584, v_586, v_588, v_589, v_591, v_593, v_595, v_597, v_599, v_601, v_603, v_605, v_607, p_ad_0_0, b_575, b_577, b_579, b_581, b_583, b_585, b_587, b_590, b_592, b_594, b_596, b_598, b_600, b_602, b_604, b_606, b_608⟩ := opnM_0 (j := 0) I (by decide)
  have p_ad_0_0 : pt L f (ad 0 0) (.inr (12, [.ref (ad 1 0), .ref (ad 2 0), .ref (ad 3 0), .ref (ad 4 0), .int v_574, .int v_576, .int v_578, .int v_580, .int v_582, .int v_584, .int v_586, .long v_588, .int v_589, .int v_591, .int v_593, .ref (ad 5 0), .ref (ad 6 0), .int v_595, .int v_597, .int v_599, .int v_601, .int v_603, .ref (ad 7 0), .ref (ad 8 0), .ref (ad 9 0), .int v_605, .ref (ad 10 0), .ref (ad 11 0), .ref (ad 12 0), .ref (ad 13 0), .int v_607, .ref (ad 14 0)])) := p_ad_0_0
  refine pg_get S Y ok_X12 0 (by decide) kf12_7 (v := .ref (ad 1 0)) p_ad_0_0 rfl dX12_isOath_3 ?_
  refine lv_bipush (v := 13) hx hb dX12_isOath_6 (by decide) ?_
  obtain ⟨g_609, p_ad_1_0, o_610⟩ := I.opi (k := 1) (j := 0) (by decide) rfl
  have p_ad_1_0 : pt L f (ad 1 0) (.inl (G.2 0, 10568, .inl g_609)) := p_ad_1_0
  obtain ⟨v_611, ev_611⟩ : ∃ z, z = g_609 (13 : Int32).toNatClampNeg := ⟨_, rfl⟩
  refine pg_iald S Y (v := v_611) p_ad_1_0 (by unfold vp_in; decide) ev_611.symm dX12_isOath_8 ?_
  have bv_611 : bn 0 14 v_611 := bn_eq ev_611 (bn_w (a' := 0) (b' := 14) (IA_13 o_610) ⟨by decide, by have h9 := hB; unfold BBp at h9; omega⟩)
  refine lv_iconst (v := 1) hx hb dX12_isOath_9 (by decide) ?_
  refine lv_isub hx hb dX12_isOath_10 ?_
  refine lv_topi (fun x_612 ex_612 => ?_)
  refine cSp (As := [.int i1, .int 0, .int x_612]) (rest := []) S Y (x_X12_isIn (l := l) ) cw_X12_isIn km12_69 rfl ⟨Nat.le_of_ble_eq_true rfl, Nat.le_of_ble_eq_true rfl⟩ hl.1 rfl (Nat.le_of_ble_eq_true rfl) ⟨Nat.le_of_ble_eq_true rfl, Nat.le_of_ble_eq_true rfl⟩ dX12_isOath_11 (fun r_613 H locs er_613 Y => ?_)
  exact prI (post := fun r L1 f1 => ((bn 0 1 r ∧ (¬ r = 0 → bn 0 13 i1))) ∧ L1 = L ∧ f1 = f) S Y (nw_b (bn_w er_613.1 (by decide))) (by decide) (by decide) hA1 ⟨⟨bn_w (a' := 0) (b' := 1) er_613.1 (by decide), fun h => bn_w (bn_i (bn_any i1) (bn_btw (er_613.2 h).1 (er_613.2 h).2 (show bn 0 0 (0 : Int32) from bn_k (by decide)) (bn_eq ex_612 (bn_sub bv_611 (show bn 1 1 (1 : Int32) from bn_k (by decide)) (by decide))))) (by decide)⟩, rfl, rfl⟩ dX12_isOath_14
set_option maxHeartbeats 4000000 in
set_option maxRecDepth 100000 in
theorem x_X12_get {l : Launch} {G : GG}  {L : List Nat} {f : HF} {ad : Nat → Nat → Nat} {sl : Int} {pl : Int} {oh : Int} {dh : Int} {w : WW} {pi : PIT} {px : (Nat → Int32) → Prop} {pa : (Nat → Int32) → Prop} {i1 i2 : Int32} (I : SH (spM (IA sl pl oh dh w) pi px pa) nnM G ad L f) (hB : BBp sl pl oh dh w) (b_i1 : bn (-1) 13 i1) (b_i2 : bn 0 6 i2) : PMp l yX12_get cX12_get 3 .int 0 0 0 G [.ref (ad 0 0), .int i1, .int i2] L f (fun r => True) := by
  refine PMi.of (post := fun r L1 f1 => (True) ∧ L1 = L ∧ f1 = f) (own := RX12) (by decide) rfl (Nat.le_of_ble_eq_true rfl) (fun sz p e s m args below meth c A ls hA1 hname S Y hl => ?_)
  have hx := S.hx
  have hb := S.hb
  have hl : lv_has ls 3 [(0, .ref (ad 0 0)), (1, .int i1), (2, .int i2)] := hl
  refine lv_aload_n hx hb dX12_get_0 rfl (lv_at hl 0 rfl) ?_
  obtain ⟨v_697, v_699, v_701, v_703, v_705, v_707, v_709, v_711, v_712, v_714, v_716, v_718, v_720, v_722, v_724, v_726, v_728, v_730, p_ad_0_0, b_698, b_700, b_702, b_704, b_706, b_708, b_710, b_713, b_715, b_717, b_719, b_721, b_723, b_725, b_727, b_729, b_731⟩ := opnM_0 (j := 0) I (by decide)
  have p_ad_0_0 : pt L f (ad 0 0) (.inr (12, [.ref (ad 1 0), .ref (ad 2 0), .ref (ad 3 0), .ref (ad 4 0), .int v_697, .int v_699, .int v_701, .int v_703, .int v_705, .int v_707, .int v_709, .long v_711, .int v_712, .int v_714, .int v_716, .ref (ad 5 0), .ref (ad 6 0), .int v_718, .int v_720, .int v_722, .int v_724, .int v_726, .ref (ad 7 0), .ref (ad 8 0), .ref (ad 9 0), .int v_728, .ref (ad 10 0), .ref (ad 11 0), .ref (ad 12 0), .ref (ad 13 0), .int v_730, .ref (ad 14 0)])) := p_ad_0_0
  refine pg_get S Y ok_X12 0 (by decide) kf12_7 (v := .ref (ad 1 0)) p_ad_0_0 rfl dX12_get_1 ?_
  refine lv_bipush (v := 16) hx hb dX12_get_4 (by decide) ?_
  refine lv_bipush (v := 7) hx hb dX12_get_6 (by decide) ?_
  refine lv_iload_n hx hb dX12_get_8 rfl (lv_at hl 1 rfl) ?_
  refine lv_imul hx hb dX12_get_9 ?_
  refine lv_topi (fun x_732 ex_732 => ?_)
  refine lv_iadd hx hb dX12_get_10 ?_
  refine lv_topi (fun x_733 ex_733 => ?_)
  refine lv_iload_n hx hb dX12_get_11 rfl (lv_at hl 2 rfl) ?_
  refine lv_iadd hx hb dX12_get_12 ?_
  refine lv_topi (fun x_734 ex_734 => ?_)
  obtain ⟨g_735, p_ad_1_0, o_736⟩ := I.opi (k := 1) (j := 0) (by decide) rfl
  have p_ad_1_0 : pt L f (ad 1 0) (.inl (G.2 0, 10568, .inl g_735)) := p_ad_1_0
  obtain ⟨v_737, ev_737⟩ : ∃ z, z = g_735 (x_734 : Int32).toNatClampNeg := ⟨_, rfl⟩
  refine pg_iald S Y (v := v_737) p_ad_1_0 (vp_bn (bn_eq ex_734 (bn_add (bn_eq ex_733 (bn_add (show bn 16 16 (16 : Int32) from bn_k (by decide)) (bn_eq ex_732 (bn_mulL (show bn 7 7 (7 : Int32) from bn_k (by decide)) b_i1 (by decide))) (by decide))) b_i2 (by decide))) (by decide)) ev_737.symm dX12_get_13 ?_
  exact prI (post := fun r L1 f1 => (True) ∧ L1 = L ∧ f1 = f) S Y rfl (by decide) (by decide) hA1 ⟨trivial, rfl, rfl⟩ dX12_get_14
