theorem dX6_follow_0 : decode cX6_follow 0 = .ok (.iload 5, 2) := by decide +kernel
theorem dX6_follow_2 : decode cX6_follow 2 = .ok (.bipush 6, 2) := by decide +kernel
theorem dX6_follow_4 : decode cX6_follow 4 = .ok (.if_icmp .lt 4, 3) := by decide +kernel
theorem dX6_follow_7 : decode cX6_follow 7 = .ok (.return_, 1) := by decide +kernel
theorem dX6_follow_8 : decode cX6_follow 8 = .ok (.iconst 0, 1) := by decide +kernel
theorem dX6_follow_9 : decode cX6_follow 9 = .ok (.istore 6, 2) := by decide +kernel
theorem dX6_follow_11 : decode cX6_follow 11 = .ok (.iload 6, 2) := by decide +kernel
theorem dX6_follow_13 : decode cX6_follow 13 = .ok (.aload_n 0, 1) := by decide +kernel
theorem dX6_follow_14 : decode cX6_follow 14 = .ok (.getfield 9, 3) := by decide +kernel
theorem dX6_follow_17 : decode cX6_follow 17 = .ok (.getfield 15, 3) := by decide +kernel
theorem dX6_follow_20 : decode cX6_follow 20 = .ok (.getfield 31, 3) := by decide +kernel
theorem dX6_follow_23 : decode cX6_follow 23 = .ok (.if_icmp .ge 109, 3) := by decide +kernel
theorem dX6_follow_132 : decode cX6_follow 132 = .ok (.return_, 1) := by decide +kernel
theorem dX6_follow_26 : decode cX6_follow 26 = .ok (.aload_n 0, 1) := by decide +kernel
theorem dX6_follow_27 : decode cX6_follow 27 = .ok (.getfield 9, 3) := by decide +kernel
theorem dX6_follow_30 : decode cX6_follow 30 = .ok (.getfield 15, 3) := by decide +kernel
theorem dX6_follow_33 : decode cX6_follow 33 = .ok (.iload 6, 2) := by decide +kernel
theorem dX6_follow_35 : decode cX6_follow 35 = .ok (.iconst 0, 1) := by decide +kernel
theorem dX6_follow_36 : decode cX6_follow 36 = .ok (.invokevirtual 27, 3) := by decide +kernel
theorem dX6_follow_39 : decode cX6_follow 39 = .ok (.iload_n 2, 1) := by decide +kernel
theorem dX6_follow_40 : decode cX6_follow 40 = .ok (.if_icmp .ne 86, 3) := by decide +kernel
theorem dX6_follow_126 : decode cX6_follow 126 = .ok (.iinc 6 1, 3) := by decide +kernel
theorem dX6_follow_129 : decode cX6_follow 129 = .ok (.goto (-118), 3) := by decide +kernel
theorem dX6_follow_43 : decode cX6_follow 43 = .ok (.aload_n 0, 1) := by decide +kernel
theorem dX6_follow_44 : decode cX6_follow 44 = .ok (.iload 6, 2) := by decide +kernel
theorem dX6_follow_46 : decode cX6_follow 46 = .ok (.invokevirtual 44, 3) := by decide +kernel
theorem dX6_follow_49 : decode cX6_follow 49 = .ok (.ifCond .eq 77, 3) := by decide +kernel
theorem dX6_follow_52 : decode cX6_follow 52 = .ok (.aload_n 0, 1) := by decide +kernel
theorem dX6_follow_53 : decode cX6_follow 53 = .ok (.getfield 9, 3) := by decide +kernel
theorem dX6_follow_56 : decode cX6_follow 56 = .ok (.getfield 15, 3) := by decide +kernel
theorem dX6_follow_59 : decode cX6_follow 59 = .ok (.iload 6, 2) := by decide +kernel
theorem dX6_follow_61 : decode cX6_follow 61 = .ok (.iconst 1, 1) := by decide +kernel
theorem dX6_follow_62 : decode cX6_follow 62 = .ok (.invokevirtual 27, 3) := by decide +kernel
theorem dX6_follow_65 : decode cX6_follow 65 = .ok (.istore 7, 2) := by decide +kernel
theorem dX6_follow_67 : decode cX6_follow 67 = .ok (.iload 7, 2) := by decide +kernel
theorem dX6_follow_69 : decode cX6_follow 69 = .ok (.iload_n 1, 1) := by decide +kernel
theorem dX6_follow_70 : decode cX6_follow 70 = .ok (.if_icmp .ne 17, 3) := by decide +kernel
theorem dX6_follow_87 : decode cX6_follow 87 = .ok (.iload 7, 2) := by decide +kernel
theorem dX6_follow_89 : decode cX6_follow 89 = .ok (.iload_n 1, 1) := by decide +kernel
theorem dX6_follow_90 : decode cX6_follow 90 = .ok (.if_icmp .le 36, 3) := by decide +kernel
theorem dX6_follow_93 : decode cX6_follow 93 = .ok (.iload_n 3, 1) := by decide +kernel
theorem dX6_follow_94 : decode cX6_follow 94 = .ok (.iload 7, 2) := by decide +kernel
theorem dX6_follow_96 : decode cX6_follow 96 = .ok (.ishr, 1) := by decide +kernel
theorem dX6_follow_97 : decode cX6_follow 97 = .ok (.iconst 1, 1) := by decide +kernel
theorem dX6_follow_98 : decode cX6_follow 98 = .ok (.iand, 1) := by decide +kernel
theorem dX6_follow_99 : decode cX6_follow 99 = .ok (.ifCond .ne 27, 3) := by decide +kernel
theorem dX6_follow_102 : decode cX6_follow 102 = .ok (.aload_n 0, 1) := by decide +kernel
theorem dX6_follow_103 : decode cX6_follow 103 = .ok (.iload_n 1, 1) := by decide +kernel
theorem dX6_follow_104 : decode cX6_follow 104 = .ok (.iload 7, 2) := by decide +kernel
theorem dX6_follow_106 : decode cX6_follow 106 = .ok (.iload_n 3, 1) := by decide +kernel
theorem dX6_follow_107 : decode cX6_follow 107 = .ok (.iconst 1, 1) := by decide +kernel
theorem dX6_follow_108 : decode cX6_follow 108 = .ok (.iload 7, 2) := by decide +kernel
theorem dX6_follow_110 : decode cX6_follow 110 = .ok (.ishl, 1) := by decide +kernel
theorem dX6_follow_111 : decode cX6_follow 111 = .ok (.ior, 1) := by decide +kernel
theorem dX6_follow_112 : decode cX6_follow 112 = .ok (.iload 4, 2) := by decide +kernel
theorem dX6_follow_114 : decode cX6_follow 114 = .ok (.iconst 1, 1) := by decide +kernel
theorem dX6_follow_115 : decode cX6_follow 115 = .ok (.iload 6, 2) := by decide +kernel
theorem dX6_follow_117 : decode cX6_follow 117 = .ok (.ishl, 1) := by decide +kernel
theorem dX6_follow_118 : decode cX6_follow 118 = .ok (.ior, 1) := by decide +kernel
theorem dX6_follow_119 : decode cX6_follow 119 = .ok (.iload 5, 2) := by decide +kernel
theorem dX6_follow_121 : decode cX6_follow 121 = .ok (.iconst 1, 1) := by decide +kernel
theorem dX6_follow_122 : decode cX6_follow 122 = .ok (.iadd, 1) := by decide +kernel
theorem dX6_follow_123 : decode cX6_follow 123 = .ok (.invokevirtual 53, 3) := by decide +kernel
theorem cw_X6_follow : CWv yX6_follow cX6_follow 8 none 5 := ⟨⟨⟨List.mem_of_getElem? (i := 132) (by decide +kernel), by decide +kernel⟩, ⟨List.mem_of_getElem? (i := 1361) (by decide +kernel), by decide +kernel⟩, by decide +kernel⟩, ⟨List.mem_of_getElem? (i := 1360) (by decide +kernel), by decide +kernel⟩, ⟨List.mem_of_getElem? (i := 43) (by decide +kernel), by decide +kernel⟩⟩
theorem km6_53 : inW (Cond.methodLink RX6 53 yX6_follow) := ⟨List.mem_of_getElem? (i := 1358) (by decide +kernel), by decide +kernel⟩
theorem dX6_follow_73 : decode cX6_follow 73 = .ok (.aload_n 0, 1) := by decide +kernel
theorem dX6_follow_74 : decode cX6_follow 74 = .ok (.iload 4, 2) := by decide +kernel
theorem dX6_follow_76 : decode cX6_follow 76 = .ok (.iconst 1, 1) := by decide +kernel
theorem dX6_follow_77 : decode cX6_follow 77 = .ok (.iload 6, 2) := by decide +kernel
theorem dX6_follow_79 : decode cX6_follow 79 = .ok (.ishl, 1) := by decide +kernel
theorem dX6_follow_80 : decode cX6_follow 80 = .ok (.ior, 1) := by decide +kernel
theorem dX6_follow_81 : decode cX6_follow 81 = .ok (.invokevirtual 57, 3) := by decide +kernel
theorem cw_X6_keepBetter : CWv yX6_keepBetter cX6_keepBetter 3 none 1 := ⟨⟨⟨List.mem_of_getElem? (i := 132) (by decide +kernel), by decide +kernel⟩, ⟨List.mem_of_getElem? (i := 1365) (by decide +kernel), by decide +kernel⟩, by decide +kernel⟩, ⟨List.mem_of_getElem? (i := 1364) (by decide +kernel), by decide +kernel⟩, ⟨List.mem_of_getElem? (i := 44) (by decide +kernel), by decide +kernel⟩⟩
theorem km6_57 : inW (Cond.methodLink RX6 57 yX6_keepBetter) := ⟨List.mem_of_getElem? (i := 1362) (by decide +kernel), by decide +kernel⟩
theorem dX6_follow_84 : decode cX6_follow 84 = .ok (.goto 42, 3) := by decide +kernel
theorem dX6_shortest_0 : decode cX6_shortest 0 = .ok (.aload_n 0, 1) := by decide +kernel
theorem dX6_shortest_1 : decode cX6_shortest 1 = .ok (.iconst 0, 1) := by decide +kernel
theorem dX6_shortest_2 : decode cX6_shortest 2 = .ok (.putfield 47, 3) := by decide +kernel
theorem dX6_shortest_5 : decode cX6_shortest 5 = .ok (.iconst 0, 1) := by decide +kernel
theorem dX6_shortest_6 : decode cX6_shortest 6 = .ok (.istore_n 1, 1) := by decide +kernel
theorem dX6_shortest_7 : decode cX6_shortest 7 = .ok (.iload_n 1, 1) := by decide +kernel
theorem dX6_shortest_8 : decode cX6_shortest 8 = .ok (.aload_n 0, 1) := by decide +kernel
theorem dX6_shortest_9 : decode cX6_shortest 9 = .ok (.getfield 9, 3) := by decide +kernel
theorem dX6_shortest_12 : decode cX6_shortest 12 = .ok (.getfield 50, 3) := by decide +kernel
theorem kf6_50 : inW (Cond.fieldLinkNest RX6 50 "KneeOaths$World" "people" "I" "KneeOaths") := ⟨List.mem_of_getElem? (i := 289) (by decide +kernel), by decide +kernel⟩
theorem dX6_shortest_15 : decode cX6_shortest 15 = .ok (.if_icmp .ge 18, 3) := by decide +kernel
theorem dX6_shortest_33 : decode cX6_shortest 33 = .ok (.aload_n 0, 1) := by decide +kernel
theorem dX6_shortest_34 : decode cX6_shortest 34 = .ok (.getfield 47, 3) := by decide +kernel
theorem dX6_shortest_37 : decode cX6_shortest 37 = .ok (.ireturn, 1) := by decide +kernel
theorem dX6_shortest_18 : decode cX6_shortest 18 = .ok (.aload_n 0, 1) := by decide +kernel
theorem dX6_shortest_19 : decode cX6_shortest 19 = .ok (.iload_n 1, 1) := by decide +kernel
theorem dX6_shortest_20 : decode cX6_shortest 20 = .ok (.iload_n 1, 1) := by decide +kernel
theorem dX6_shortest_21 : decode cX6_shortest 21 = .ok (.iconst 0, 1) := by decide +kernel
theorem dX6_shortest_22 : decode cX6_shortest 22 = .ok (.iconst 0, 1) := by decide +kernel
theorem dX6_shortest_23 : decode cX6_shortest 23 = .ok (.iconst 0, 1) := by decide +kernel
theorem dX6_shortest_24 : decode cX6_shortest 24 = .ok (.invokevirtual 53, 3) := by decide +kernel
theorem dX6_shortest_27 : decode cX6_shortest 27 = .ok (.iinc 1 1, 3) := by decide +kernel
theorem dX6_shortest_30 : decode cX6_shortest 30 = .ok (.goto (-23), 3) := by decide +kernel
theorem fd_s {x y : Int32} {n : Nat} (e : x = y + 1) (h : bn 0 5 y) (hm : (6 - y.toInt).toNat ≤ n + 1) : (6 - x.toInt).toNat ≤ n := by
  obtain ⟨h1, h2⟩ := h
  have e2 : x.toInt = y.toInt + 1 := by rw [e]; exact ti_add (by rw [show (1 : Int32).toInt = 1 from rfl]; omega) (by rw [show (1 : Int32).toInt = 1 from rfl]; omega)
  omega
theorem fd_0 {y : Int32} (h : bn 0 6 y) (hm : (6 - y.toInt).toNat ≤ 0) : bn 6 6 y := by
  obtain ⟨h1, h2⟩ := h; exact ⟨by omega, by omega⟩
set_option maxHeartbeats 4000000 in
set_option maxRecDepth 100000 in
theorem x_X6_follow_z {l : Launch} {G : GG}  {L : List Nat} {f : HF} {ad : Nat → Nat → Nat} {rs : RS} {fc : Int × Int} {tc w : Nat → Int × Int} {q : Nat → (Nat → Int32) → Prop} {i1 i2 i3 i4 i5 : Int32} (I : SH (spC rs fc tc w q) nnC G ad L f) (hW : WBp w 8) (hT : WBp tc 4) (hQ : QIp q) (b_i5 : bn 6 6 i5) : PMv l yX6_follow cX6_follow 8 8 0 0 G [.ref (ad 4 0), .int i1, .int i2, .int i3, .int i4, .int i5] L f (fun L1 f1 => SH (spC rs fc tc w q) nnC G ad L1 f1) := by
  refine PMv.of (post := fun L1 f1 => SH (spC rs fc tc w q) nnC G ad L1 f1) (own := RX6) (by decide) rfl (Nat.le_of_ble_eq_true rfl) (fun sz p e s m args below meth c A ls hA1 hname S Y hl => ?_)
  have hx := S.hx
  have hb := S.hb
  have hl : lv_has ls 8 [(0, .ref (ad 4 0)), (1, .int i1), (2, .int i2), (3, .int i3), (4, .int i4), (5, .int i5)] := hl
  refine lv_iload hx hb dX6_follow_0 (lv_at hl 5 rfl) ?_
  refine lv_bipush (v := 6) hx hb dX6_follow_2 (by decide) ?_
  refine lv_icmp_lt (tgt := 8) hx hb dX6_follow_4 (by decide) (fun h => absurd h (bd_nlt b_i5 (show bn 6 6 (6 : Int32) from bn_k (by decide)) (by decide))) (fun _ => ?_)
  exact prV (post := fun L1 f1 => SH (spC rs fc tc w q) nnC G ad L1 f1) S Y (by decide) (by decide) hA1 I dX6_follow_7
set_option maxHeartbeats 4000000 in
set_option maxRecDepth 100000 in
theorem x_X6_follow_s {l : Launch} {G : GG}  {L : List Nat} {f : HF} {ad : Nat → Nat → Nat} {rs : RS} {fc : Int × Int} {tc w : Nat → Int × Int} {q : Nat → (Nat → Int32) → Prop} {i1 i2 i3 i4 i5 : Int32} {n : Nat} (I : SH (spC rs fc tc w q) nnC G ad L f) (hW : WBp w 8) (hT : WBp tc 4) (hQ : QIp q) (b_i5 : bn 0 6 i5) (hm : (6 - i5.toInt).toNat ≤ n + 1) (ih : ∀ {L : List Nat} {f : HF} {i1 i2 i3 i4 i5 : Int32}, (SH (spC rs fc tc w q) nnC G ad L f) → (WBp w 8) → (WBp tc 4) → (QIp q) → (bn 0 6 i5) → ((6 - i5.toInt).toNat ≤ n) → PMv l yX6_follow cX6_follow 8 (n + 8) 0 0 G [.ref (ad 4 0), .int i1, .int i2, .int i3, .int i4, .int i5] L f (fun L1 f1 => SH (spC rs fc tc w q) nnC G ad L1 f1)) : PMv l yX6_follow cX6_follow 8 (n + 1 + 8) 0 0 G [.ref (ad 4 0), .int i1, .int i2, .int i3, .int i4, .int i5] L f (fun L1 f1 => SH (spC rs fc tc w q) nnC G ad L1 f1) := by
  refine PMv.of (post := fun L1 f1 => SH (spC rs fc tc w q) nnC G ad L1 f1) (own := RX6) (by decide) rfl (Nat.le_of_ble_eq_true rfl) (fun sz p e s m args below meth c A ls hA1 hname S Y hl => ?_)
  have hx := S.hx
  have hb := S.hb
  have hl : lv_has ls 8 [(0, .ref (ad 4 0)), (1, .int i1), (2, .int i2), (3, .int i3), (4, .int i4), (5, .int i5)] := hl
  have J_11 : ∀ (n11 : Nat) (y11_6 : Int32) (L_11 : List Nat) (f_11 : HF) (H : Heap) (locs : List Loc) (ls : Array Slot), (SH (spC rs fc tc w q) nnC G ad L_11 f_11) → (bn 0 14 y11_6) → (bn 0 5 i5) → (((14 : Int) - y11_6.toInt).toNat = n11) → (DY G A s [] L_11 f_11 H locs) → (lv_has ls 8 [(0, .ref (ad 4 0)), (1, .int i1), (2, .int i2), (3, .int i3), (4, .int i4), (5, .int i5), (6, .int y11_6)]) → W p l e (rmD (n + 1 + 8) 0 0) s m args below meth c H locs (0) (0) (MQ below (va_Qv (fun (u : List Nat × HF) => (fun L1 f1 => SH (spC rs fc tc w q) nnC G ad L1 f1) u.1 u.2) (fun u t => pOut G (va_A (va_pl L f) sz) u.1 u.2 t) (va_A (va_pl L f) sz)) args s 0 0 A) (F0 m 11 ls []) := by
    intro n11
    induction n11 using Nat.strongRecOn with
    | _ n11 ih11 =>
      intro y11_6 L_11 f_11 H locs ls I b_y11_6 b11_i5 hm11 Y hl
      refine lv_iload hx hb dX6_follow_11 (lv_at hl 6 rfl) ?_
      refine lv_aload_n hx hb dX6_follow_13 rfl (lv_at hl 0 rfl) ?_
      obtain ⟨v_15727, p_ad_4_0, b_15728⟩ := opnC_4 (j := 0) I (by decide)
      have p_ad_4_0 : pt L_11 f_11 (ad 4 0) (.inr (6, [.ref (ad 1 0), .int v_15727])) := p_ad_4_0
      refine pg_get S Y ok_X6 0 (by decide) kf6_9 (v := .ref (ad 1 0)) p_ad_4_0 rfl dX6_follow_14 ?_
      obtain ⟨v_15729, v_15731, v_15733, v_15735, v_15737, p_ad_1_0, b_15730, b_15732, b_15734, b_15736, b_15738⟩ := opnC_1 (j := 0) I (by decide)
      have p_ad_1_0 : pt L_11 f_11 (ad 1 0) (.inr (10, [.ref (ad 40 0), .ref (ad 41 0), .ref (ad 42 0), .ref (ad 10 0), .ref (ad 43 0), .ref (ad 20 0), .ref (ad 20 1), .ref (ad 20 2), .ref (ad 20 3), .ref (ad 20 4), .int v_15729, .int v_15731, .int v_15733, .int v_15735, .int v_15737])) := p_ad_1_0
      refine pg_getN S Y ok_X10 3 (by decide) kf6_15 (v := .ref (ad 10 0)) p_ad_1_0 rfl dX6_follow_17 ?_
      obtain ⟨v_15739, v_15741, v_15743, v_15745, v_15747, p_ad_10_0, b_15740, b_15742, b_15744, b_15746, b_15748⟩ := opnC_10 (j := 0) I (by decide)
      have p_ad_10_0 : pt L_11 f_11 (ad 10 0) (.inr (4, [.ref (ad 11 0), .ref (ad 12 0), .int v_15739, .int v_15741, .int v_15743, .int v_15745, .int v_15747])) := p_ad_10_0
      refine pg_getN S Y ok_X4 2 (by decide) kf6_31 (v := .int v_15739) p_ad_10_0 rfl dX6_follow_20 ?_
      refine lv_icmp_ge (tgt := 132) hx hb dX6_follow_23 (by decide) (fun c_15749 => ?_) (fun c_15749 => ?_)
      · exact prV (post := fun L1 f1 => SH (spC rs fc tc w q) nnC G ad L1 f1) S Y (by decide) (by decide) hA1 I dX6_follow_132
      · have B_15750 : bn 1 14 v_15739 := bn_w (bn_gtl c_15749 b_15740 b_y11_6) (by decide)
        have B_15751 : bn 0 13 y11_6 := bn_w (bn_gtr c_15749 b_15740 b_y11_6) (by decide)
        refine lv_aload_n hx hb dX6_follow_26 rfl (lv_at hl 0 rfl) ?_
        refine pg_get S Y ok_X6 0 (by decide) kf6_9 (v := .ref (ad 1 0)) p_ad_4_0 rfl dX6_follow_27 ?_
        refine pg_getN S Y ok_X10 3 (by decide) kf6_15 (v := .ref (ad 10 0)) p_ad_1_0 rfl dX6_follow_30 ?_
        refine lv_iload hx hb dX6_follow_33 (lv_at hl 6 rfl) ?_
        refine lv_iconst (v := 0) hx hb dX6_follow_35 (by decide) ?_
        refine cVp (As := [.int y11_6, .int 0]) (rest := []) S Y (x_X4_get (l := l) (j := 0) I hW hT hQ (by decide)) cw_X4_get km6_27 p_ad_10_0 ok_X4.1 rfl rfl (by unfold rmD; dsimp only; omega) hl.1 rfl (Nat.le_of_ble_eq_true rfl) (by unfold rmD; dsimp only; omega) dX6_follow_36 (fun r_15752 H locs er_15752 Y => ?_)
        refine lv_iload_n hx hb dX6_follow_39 rfl (lv_at hl 2 rfl) ?_
        refine lv_icmp_ne (tgt := 126) hx hb dX6_follow_40 (by decide) (fun c_15753 => ?_) (fun c_15753 => ?_)
        · obtain ⟨x_15754, ex_15754⟩ : ∃ z : Int32, z = y11_6 + 1 := ⟨_, rfl⟩
          refine lv_iinc (v := x_15754) (lv' := [(6, .int x_15754), (0, .ref (ad 4 0)), (1, .int i1), (2, .int i2), (3, .int i3), (4, .int i4), (5, .int i5)]) hx hb dX6_follow_126 hl (k := 6) rfl (by rw [ex_15754]; rfl) (by decide) rfl (fun ls hl => ?_)
          refine lv_goto (tgt := 11) hx hb dX6_follow_129 (by decide) ?_
          exact ih11 _ (by rw [← hm11]; exact ms_up (m := 1) ex_15754 (show bn 1 1 (1 : Int32) from bn_k (by decide)) B_15751 (bn_w (bn_eq ex_15754 (bn_add B_15751 (show bn 1 1 (1 : Int32) from bn_k (by decide)) (by decide))) (by decide) : bn 0 14 x_15754) (by decide)) x_15754 _ _  _ _ _ I (bn_w (bn_eq ex_15754 (bn_add B_15751 (show bn 1 1 (1 : Int32) from bn_k (by decide)) (by decide))) (by decide)) (bn_w b11_i5 (by decide)) rfl Y (lv_sub hl [1, 2, 3, 4, 5, 6, 0] rfl)
        · refine lv_aload_n hx hb dX6_follow_43 rfl (lv_at hl 0 rfl) ?_
          refine lv_iload hx hb dX6_follow_44 (lv_at hl 6 rfl) ?_
          refine cVi (As := [.int y11_6]) (rest := []) S Y (x_X6_mayBeIn (l := l) I hW hT hQ) cw_X6_mayBeIn km6_44 p_ad_4_0 ok_X6.1 rfl rfl (by unfold rmD; dsimp only; omega) hl.1 rfl (Nat.le_of_ble_eq_true rfl) (by unfold rmD; dsimp only; omega) dX6_follow_46 (fun r_15757 L_15755 f_15756 H locs hr_15757 Y => ?_)
          obtain ⟨er_15757, I⟩ := hr_15757
          refine lv_if_eq (tgt := 126) hx hb dX6_follow_49 (by decide) (fun c_15758 => ?_) (fun c_15758 => ?_)
          · have B_15759 : bn 0 0 r_15757 := bn_w (bn_eq c_15758 (show bn 0 0 (0 : Int32) from bn_k (by decide))) (by decide)
            obtain ⟨x_15761, ex_15761⟩ : ∃ z : Int32, z = y11_6 + 1 := ⟨_, rfl⟩
            refine lv_iinc (v := x_15761) (lv' := [(6, .int x_15761), (0, .ref (ad 4 0)), (1, .int i1), (2, .int i2), (3, .int i3), (4, .int i4), (5, .int i5)]) hx hb dX6_follow_126 hl (k := 6) rfl (by rw [ex_15761]; rfl) (by decide) rfl (fun ls hl => ?_)
            refine lv_goto (tgt := 11) hx hb dX6_follow_129 (by decide) ?_
            exact ih11 _ (by rw [← hm11]; exact ms_up (m := 1) ex_15761 (show bn 1 1 (1 : Int32) from bn_k (by decide)) B_15751 (bn_w (bn_eq ex_15761 (bn_add B_15751 (show bn 1 1 (1 : Int32) from bn_k (by decide)) (by decide))) (by decide) : bn 0 14 x_15761) (by decide)) x_15761 _ _  _ _ _ I (bn_w (bn_eq ex_15761 (bn_add B_15751 (show bn 1 1 (1 : Int32) from bn_k (by decide)) (by decide))) (by decide)) (bn_w b11_i5 (by decide)) rfl Y (lv_sub hl [1, 2, 3, 4, 5, 6, 0] rfl)
          · have B_15760 : bn 1 1 r_15757 := bn_w (bn_nel c_15758 er_15757 (show bn 0 0 (0 : Int32) from bn_k (by decide))) (by decide)
            refine lv_aload_n hx hb dX6_follow_52 rfl (lv_at hl 0 rfl) ?_
            obtain ⟨v_15762, p_ad_4_0, b_15763⟩ := opnC_4 (j := 0) I (by decide)
            have p_ad_4_0 : pt L_15755 f_15756 (ad 4 0) (.inr (6, [.ref (ad 1 0), .int v_15762])) := p_ad_4_0
            refine pg_get S Y ok_X6 0 (by decide) kf6_9 (v := .ref (ad 1 0)) p_ad_4_0 rfl dX6_follow_53 ?_
            obtain ⟨v_15764, v_15766, v_15768, v_15770, v_15772, p_ad_1_0, b_15765, b_15767, b_15769, b_15771, b_15773⟩ := opnC_1 (j := 0) I (by decide)
            have p_ad_1_0 : pt L_15755 f_15756 (ad 1 0) (.inr (10, [.ref (ad 40 0), .ref (ad 41 0), .ref (ad 42 0), .ref (ad 10 0), .ref (ad 43 0), .ref (ad 20 0), .ref (ad 20 1), .ref (ad 20 2), .ref (ad 20 3), .ref (ad 20 4), .int v_15764, .int v_15766, .int v_15768, .int v_15770, .int v_15772])) := p_ad_1_0
            refine pg_getN S Y ok_X10 3 (by decide) kf6_15 (v := .ref (ad 10 0)) p_ad_1_0 rfl dX6_follow_56 ?_
            refine lv_iload hx hb dX6_follow_59 (lv_at hl 6 rfl) ?_
            refine lv_iconst (v := 1) hx hb dX6_follow_61 (by decide) ?_
            refine cVp (As := [.int y11_6, .int 1]) (rest := []) S Y (x_X4_get (l := l) (j := 0) I hW hT hQ (by decide)) cw_X4_get km6_27 (I.opo (k := 10) (j := 0) (by decide) rfl).choose_spec.1 ok_X4.1 rfl rfl (by unfold rmD; dsimp only; omega) hl.1 rfl (Nat.le_of_ble_eq_true rfl) (by unfold rmD; dsimp only; omega) dX6_follow_62 (fun r_15774 H locs er_15774 Y => ?_)
            refine lv_istore (lv' := [(7, .int r_15774), (0, .ref (ad 4 0)), (1, .int i1), (2, .int i2), (3, .int i3), (4, .int i4), (5, .int i5), (6, .int y11_6)]) hx hb dX6_follow_65 hl (by decide) rfl (fun ls hl => ?_)
            refine lv_iload hx hb dX6_follow_67 (lv_at hl 0 rfl) ?_
            refine lv_iload_n hx hb dX6_follow_69 rfl (lv_at hl 2 rfl) ?_
            refine lv_icmp_ne (tgt := 87) hx hb dX6_follow_70 (by decide) (fun c_15775 => ?_) (fun c_15775 => ?_)
            · refine lv_iload hx hb dX6_follow_87 (lv_at hl 0 rfl) ?_
              refine lv_iload_n hx hb dX6_follow_89 rfl (lv_at hl 2 rfl) ?_
              refine lv_icmp_le (tgt := 126) hx hb dX6_follow_90 (by decide) (fun c_15776 => ?_) (fun c_15776 => ?_)
              · obtain ⟨x_15779, ex_15779⟩ : ∃ z : Int32, z = y11_6 + 1 := ⟨_, rfl⟩
                refine lv_iinc (v := x_15779) (lv' := [(6, .int x_15779), (7, .int r_15774), (0, .ref (ad 4 0)), (1, .int i1), (2, .int i2), (3, .int i3), (4, .int i4), (5, .int i5)]) hx hb dX6_follow_126 hl (k := 7) rfl (by rw [ex_15779]; rfl) (by decide) rfl (fun ls hl => ?_)
                refine lv_goto (tgt := 11) hx hb dX6_follow_129 (by decide) ?_
                exact ih11 _ (by rw [← hm11]; exact ms_up (m := 1) ex_15779 (show bn 1 1 (1 : Int32) from bn_k (by decide)) B_15751 (bn_w (bn_eq ex_15779 (bn_add B_15751 (show bn 1 1 (1 : Int32) from bn_k (by decide)) (by decide))) (by decide) : bn 0 14 x_15779) (by decide)) x_15779 _ _  _ _ _ I (bn_w (bn_eq ex_15779 (bn_add B_15751 (show bn 1 1 (1 : Int32) from bn_k (by decide)) (by decide))) (by decide)) (bn_w b11_i5 (by decide)) rfl Y (lv_sub hl [2, 3, 4, 5, 6, 7, 0] rfl)
              · have B_15777 : bn (-2147483647) 2147483647 r_15774 := bn_w (bn_gtl c_15776 (bn_any r_15774) (bn_any i1)) (by decide)
                have B_15778 : bn (-2147483648) 2147483646 i1 := bn_w (bn_gtr c_15776 (bn_any r_15774) (bn_any i1)) (by decide)
                refine lv_iload_n hx hb dX6_follow_93 rfl (lv_at hl 4 rfl) ?_
                refine lv_iload hx hb dX6_follow_94 (lv_at hl 0 rfl) ?_
                refine lv_ishr hx hb dX6_follow_96 ?_
                refine lv_topi (fun x_15780 ex_15780 => ?_)
                refine lv_iconst (v := 1) hx hb dX6_follow_97 (by decide) ?_
                refine lv_iand hx hb dX6_follow_98 ?_
                refine lv_topi (fun x_15781 ex_15781 => ?_)
                refine lv_if_ne (tgt := 126) hx hb dX6_follow_99 (by decide) (fun c_15782 => ?_) (fun c_15782 => ?_)
                · obtain ⟨x_15784, ex_15784⟩ : ∃ z : Int32, z = y11_6 + 1 := ⟨_, rfl⟩
                  refine lv_iinc (v := x_15784) (lv' := [(6, .int x_15784), (7, .int r_15774), (0, .ref (ad 4 0)), (1, .int i1), (2, .int i2), (3, .int i3), (4, .int i4), (5, .int i5)]) hx hb dX6_follow_126 hl (k := 7) rfl (by rw [ex_15784]; rfl) (by decide) rfl (fun ls hl => ?_)
                  refine lv_goto (tgt := 11) hx hb dX6_follow_129 (by decide) ?_
                  exact ih11 _ (by rw [← hm11]; exact ms_up (m := 1) ex_15784 (show bn 1 1 (1 : Int32) from bn_k (by decide)) B_15751 (bn_w (bn_eq ex_15784 (bn_add B_15751 (show bn 1 1 (1 : Int32) from bn_k (by decide)) (by decide))) (by decide) : bn 0 14 x_15784) (by decide)) x_15784 _ _  _ _ _ I (bn_w (bn_eq ex_15784 (bn_add B_15751 (show bn 1 1 (1 : Int32) from bn_k (by decide)) (by decide))) (by decide)) (bn_w b11_i5 (by decide)) rfl Y (lv_sub hl [2, 3, 4, 5, 6, 7, 0] rfl)
                · have B_15783 : bn 0 0 x_15781 := bn_w (bn_eq c_15782 (show bn 0 0 (0 : Int32) from bn_k (by decide))) (by decide)
                  refine lv_aload_n hx hb dX6_follow_102 rfl (lv_at hl 1 rfl) ?_
                  refine lv_iload_n hx hb dX6_follow_103 rfl (lv_at hl 2 rfl) ?_
                  refine lv_iload hx hb dX6_follow_104 (lv_at hl 0 rfl) ?_
                  refine lv_iload_n hx hb dX6_follow_106 rfl (lv_at hl 4 rfl) ?_
                  refine lv_iconst (v := 1) hx hb dX6_follow_107 (by decide) ?_
                  refine lv_iload hx hb dX6_follow_108 (lv_at hl 0 rfl) ?_
                  refine lv_ishl hx hb dX6_follow_110 ?_
                  refine lv_topi (fun x_15785 ex_15785 => ?_)
                  refine lv_ior hx hb dX6_follow_111 ?_
                  refine lv_topi (fun x_15786 ex_15786 => ?_)
                  refine lv_iload hx hb dX6_follow_112 (lv_at hl 5 rfl) ?_
                  refine lv_iconst (v := 1) hx hb dX6_follow_114 (by decide) ?_
                  refine lv_iload hx hb dX6_follow_115 (lv_at hl 7 rfl) ?_
                  refine lv_ishl hx hb dX6_follow_117 ?_
                  refine lv_topi (fun x_15787 ex_15787 => ?_)
                  refine lv_ior hx hb dX6_follow_118 ?_
                  refine lv_topi (fun x_15788 ex_15788 => ?_)
                  refine lv_iload hx hb dX6_follow_119 (lv_at hl 6 rfl) ?_
                  refine lv_iconst (v := 1) hx hb dX6_follow_121 (by decide) ?_
                  refine lv_iadd hx hb dX6_follow_122 ?_
                  refine lv_topi (fun x_15789 ex_15789 => ?_)
                  refine cVv (As := [.int i1, .int r_15774, .int x_15786, .int x_15788, .int x_15789]) (rest := []) S Y (ih I hW hT hQ (bn_w (bn_eq ex_15789 (bn_add b11_i5 (show bn 1 1 (1 : Int32) from bn_k (by decide)) (by decide))) (by decide)) (fd_s ex_15789 (bn_w b11_i5 (by decide)) hm)) cw_X6_follow km6_53 p_ad_4_0 ok_X6.1 rfl rfl (by unfold rmD; dsimp only; omega) hl.1 rfl (Nat.le_of_ble_eq_true rfl) (by unfold rmD; dsimp only; omega) dX6_follow_123 (fun L_15790 f_15791 H locs I Y => ?_)
                  obtain ⟨x_15792, ex_15792⟩ : ∃ z : Int32, z = y11_6 + 1 := ⟨_, rfl⟩
                  refine lv_iinc (v := x_15792) (lv' := [(6, .int x_15792), (7, .int r_15774), (0, .ref (ad 4 0)), (1, .int i1), (2, .int i2), (3, .int i3), (4, .int i4), (5, .int i5)]) hx hb dX6_follow_126 hl (k := 7) rfl (by rw [ex_15792]; rfl) (by decide) rfl (fun ls hl => ?_)
                  refine lv_goto (tgt := 11) hx hb dX6_follow_129 (by decide) ?_
                  exact ih11 _ (by rw [← hm11]; exact ms_up (m := 1) ex_15792 (show bn 1 1 (1 : Int32) from bn_k (by decide)) B_15751 (bn_w (bn_eq ex_15792 (bn_add B_15751 (show bn 1 1 (1 : Int32) from bn_k (by decide)) (by decide))) (by decide) : bn 0 14 x_15792) (by decide)) x_15792 _ _  _ _ _ I (bn_w (bn_eq ex_15792 (bn_add B_15751 (show bn 1 1 (1 : Int32) from bn_k (by decide)) (by decide))) (by decide)) (bn_w b11_i5 (by decide)) rfl Y (lv_sub hl [2, 3, 4, 5, 6, 7, 0] rfl)
            · refine lv_aload_n hx hb dX6_follow_73 rfl (lv_at hl 1 rfl) ?_
              refine lv_iload hx hb dX6_follow_74 (lv_at hl 5 rfl) ?_
              refine lv_iconst (v := 1) hx hb dX6_follow_76 (by decide) ?_
              refine lv_iload hx hb dX6_follow_77 (lv_at hl 7 rfl) ?_
              refine lv_ishl hx hb dX6_follow_79 ?_
              refine lv_topi (fun x_15793 ex_15793 => ?_)
              refine lv_ior hx hb dX6_follow_80 ?_
              refine lv_topi (fun x_15794 ex_15794 => ?_)
              refine cVv (As := [.int x_15794]) (rest := []) S Y (x_X6_keepBetter (l := l) I hW hT hQ) cw_X6_keepBetter km6_57 p_ad_4_0 ok_X6.1 rfl rfl (by unfold rmD; dsimp only; omega) hl.1 rfl (Nat.le_of_ble_eq_true rfl) (by unfold rmD; dsimp only; omega) dX6_follow_81 (fun L_15795 f_15796 H locs I Y => ?_)
              refine lv_goto (tgt := 126) hx hb dX6_follow_84 (by decide) ?_
              obtain ⟨x_15797, ex_15797⟩ : ∃ z : Int32, z = y11_6 + 1 := ⟨_, rfl⟩
              refine lv_iinc (v := x_15797) (lv' := [(6, .int x_15797), (7, .int r_15774), (0, .ref (ad 4 0)), (1, .int i1), (2, .int i2), (3, .int i3), (4, .int i4), (5, .int i5)]) hx hb dX6_follow_126 hl (k := 7) rfl (by rw [ex_15797]; rfl) (by decide) rfl (fun ls hl => ?_)
              refine lv_goto (tgt := 11) hx hb dX6_follow_129 (by decide) ?_
              exact ih11 _ (by rw [← hm11]; exact ms_up (m := 1) ex_15797 (show bn 1 1 (1 : Int32) from bn_k (by decide)) B_15751 (bn_w (bn_eq ex_15797 (bn_add B_15751 (show bn 1 1 (1 : Int32) from bn_k (by decide)) (by decide))) (by decide) : bn 0 14 x_15797) (by decide)) x_15797 _ _  _ _ _ I (bn_w (bn_eq ex_15797 (bn_add B_15751 (show bn 1 1 (1 : Int32) from bn_k (by decide)) (by decide))) (by decide)) (bn_w b11_i5 (by decide)) rfl Y (lv_sub hl [2, 3, 4, 5, 6, 7, 0] rfl)
  refine lv_iload hx hb dX6_follow_0 (lv_at hl 5 rfl) ?_
  refine lv_bipush (v := 6) hx hb dX6_follow_2 (by decide) ?_
  refine lv_icmp_lt (tgt := 8) hx hb dX6_follow_4 (by decide) (fun c_15798 => ?_) (fun c_15798 => ?_)
  · have B_15799 : bn 0 5 i5 := bn_w (bn_ltl c_15798 b_i5 (show bn 6 6 (6 : Int32) from bn_k (by decide))) (by decide)
    refine lv_iconst (v := 0) hx hb dX6_follow_8 (by decide) ?_
    refine lv_istore (lv' := [(6, .int 0), (0, .ref (ad 4 0)), (1, .int i1), (2, .int i2), (3, .int i3), (4, .int i4), (5, .int i5)]) hx hb dX6_follow_9 hl (by decide) rfl (fun ls hl => ?_)
    exact J_11 _ 0 _ _  _ _ _ I (bn_w (show bn 0 0 (0 : Int32) from bn_k (by decide)) (by decide)) (bn_w B_15799 (by decide)) rfl Y (lv_sub hl [1, 2, 3, 4, 5, 6, 0] rfl)
  · have B_15800 : bn 6 6 i5 := bn_w (bn_gel c_15798 b_i5 (show bn 6 6 (6 : Int32) from bn_k (by decide))) (by decide)
    exact prV (post := fun L1 f1 => SH (spC rs fc tc w q) nnC G ad L1 f1) S Y (by decide) (by decide) hA1 I dX6_follow_7
theorem x_X6_follow_n {l : Launch} {G : GG} {ad : Nat → Nat → Nat} {rs : RS} {fc : Int × Int} {tc w : Nat → Int × Int} {q : Nat → (Nat → Int32) → Prop} : ∀ (n : Nat), ∀ {L : List Nat} {f : HF} {i1 i2 i3 i4 i5 : Int32}, (SH (spC rs fc tc w q) nnC G ad L f) → (WBp w 8) → (WBp tc 4) → (QIp q) → (bn 0 6 i5) → ((6 - i5.toInt).toNat ≤ n) → PMv l yX6_follow cX6_follow 8 (n + 8) 0 0 G [.ref (ad 4 0), .int i1, .int i2, .int i3, .int i4, .int i5] L f (fun L1 f1 => SH (spC rs fc tc w q) nnC G ad L1 f1) := by
  intro n
  induction n with
  | zero => intro L f i1 i2 i3 i4 i5 I hW hT hQ b_i5 hm; exact x_X6_follow_z I hW hT hQ (fd_0 b_i5 hm)
  | succ n ih => intro L f i1 i2 i3 i4 i5 I hW hT hQ b_i5 hm; exact x_X6_follow_s I hW hT hQ b_i5 hm ih
theorem x_X6_follow {l : Launch} {G : GG}  {L : List Nat} {f : HF} {ad : Nat → Nat → Nat} {rs : RS} {fc : Int × Int} {tc w : Nat → Int × Int} {q : Nat → (Nat → Int32) → Prop} {i1 i2 i3 i4 i5 : Int32} (I : SH (spC rs fc tc w q) nnC G ad L f) (hW : WBp w 8) (hT : WBp tc 4) (hQ : QIp q) (b_i5 : bn 0 6 i5) : PMv l yX6_follow cX6_follow 8 14 0 0 G [.ref (ad 4 0), .int i1, .int i2, .int i3, .int i4, .int i5] L f (fun L1 f1 => SH (spC rs fc tc w q) nnC G ad L1 f1) := x_X6_follow_n 6 I hW hT hQ b_i5 (by obtain ⟨h1, h2⟩ := b_i5; omega)
set_option maxHeartbeats 4000000 in
set_option maxRecDepth 100000 in
theorem x_X6_shortest {l : Launch} {G : GG}  {L : List Nat} {f : HF} {ad : Nat → Nat → Nat} {rs : RS} {fc : Int × Int} {tc w : Nat → Int × Int} {q : Nat → (Nat → Int32) → Prop} (I : SH (spC rs fc tc w q) nnC G ad L f) (hW : WBp w 8) (hT : WBp tc 4) (hQ : QIp q) : PMi l yX6_shortest cX6_shortest 2 .int 15 0 0 G [.ref (ad 4 0)] L f (fun r L1 f1 => SH (spC rs fc tc w q) nnC G ad L1 f1) := by
  refine PMi.of (post := fun r L1 f1 => SH (spC rs fc tc w q) nnC G ad L1 f1) (own := RX6) (by decide) rfl (Nat.le_of_ble_eq_true rfl) (fun sz p e s m args below meth c A ls hA1 hname S Y hl => ?_)
  have hx := S.hx
  have hb := S.hb
  have hl : lv_has ls 2 [(0, .ref (ad 4 0))] := hl
  have J_7 : ∀ (n7 : Nat) (y7_1 : Int32) (L_7 : List Nat) (f_7 : HF) (H : Heap) (locs : List Loc) (ls : Array Slot), (SH (spC rs fc tc w q) nnC G ad L_7 f_7) → (bn 0 6 y7_1) → (((6 : Int) - y7_1.toInt).toNat = n7) → (DY G A s [] L_7 f_7 H locs) → (lv_has ls 2 [(0, .ref (ad 4 0)), (1, .int y7_1)]) → W p l e (rmD 15 0 0) s m args below meth c H locs (0) (0) (MQ below (va_Qi (fun r (u : List Nat × HF) => (fun r L1 f1 => SH (spC rs fc tc w q) nnC G ad L1 f1) r u.1 u.2) (fun u t => pOut G (va_A (va_pl L f) sz) u.1 u.2 t) (va_A (va_pl L f) sz)) args s 0 0 A) (F0 m 7 ls []) := by
    intro n7
    induction n7 using Nat.strongRecOn with
    | _ n7 ih7 =>
      intro y7_1 L_7 f_7 H locs ls I b_y7_1 hm7 Y hl
      refine lv_iload_n hx hb dX6_shortest_7 rfl (lv_at hl 1 rfl) ?_
      refine lv_aload_n hx hb dX6_shortest_8 rfl (lv_at hl 0 rfl) ?_
      obtain ⟨v_15951, p_ad_4_0, b_15952⟩ := opnC_4 (j := 0) I (by decide)
      have p_ad_4_0 : pt L_7 f_7 (ad 4 0) (.inr (6, [.ref (ad 1 0), .int v_15951])) := p_ad_4_0
      refine pg_get S Y ok_X6 0 (by decide) kf6_9 (v := .ref (ad 1 0)) p_ad_4_0 rfl dX6_shortest_9 ?_
      obtain ⟨v_15953, v_15955, v_15957, v_15959, v_15961, p_ad_1_0, b_15954, b_15956, b_15958, b_15960, b_15962⟩ := opnC_1 (j := 0) I (by decide)
      have p_ad_1_0 : pt L_7 f_7 (ad 1 0) (.inr (10, [.ref (ad 40 0), .ref (ad 41 0), .ref (ad 42 0), .ref (ad 10 0), .ref (ad 43 0), .ref (ad 20 0), .ref (ad 20 1), .ref (ad 20 2), .ref (ad 20 3), .ref (ad 20 4), .int v_15953, .int v_15955, .int v_15957, .int v_15959, .int v_15961])) := p_ad_1_0
      refine pg_getN S Y ok_X10 10 (by decide) kf6_50 (v := .int v_15953) p_ad_1_0 rfl dX6_shortest_12 ?_
      refine lv_icmp_ge (tgt := 33) hx hb dX6_shortest_15 (by decide) (fun c_15963 => ?_) (fun c_15963 => ?_)
      · refine lv_aload_n hx hb dX6_shortest_33 rfl (lv_at hl 0 rfl) ?_
        refine pg_get S Y ok_X6 1 (by decide) kf6_47 (v := .int v_15951) p_ad_4_0 rfl dX6_shortest_34 ?_
        exact prI (post := fun r L1 f1 => SH (spC rs fc tc w q) nnC G ad L1 f1) S Y rfl (by decide) (by decide) hA1 I dX6_shortest_37
      · have B_15964 : bn 1 6 v_15953 := bn_w (bn_gtl c_15963 b_15954 b_y7_1) (by decide)
        have B_15965 : bn 0 5 y7_1 := bn_w (bn_gtr c_15963 b_15954 b_y7_1) (by decide)
        refine lv_aload_n hx hb dX6_shortest_18 rfl (lv_at hl 0 rfl) ?_
        refine lv_iload_n hx hb dX6_shortest_19 rfl (lv_at hl 1 rfl) ?_
        refine lv_iload_n hx hb dX6_shortest_20 rfl (lv_at hl 1 rfl) ?_
        refine lv_iconst (v := 0) hx hb dX6_shortest_21 (by decide) ?_
        refine lv_iconst (v := 0) hx hb dX6_shortest_22 (by decide) ?_
        refine lv_iconst (v := 0) hx hb dX6_shortest_23 (by decide) ?_
        refine cVv (As := [.int y7_1, .int y7_1, .int 0, .int 0, .int 0]) (rest := []) S Y (x_X6_follow (l := l) I hW hT hQ (bn_w (show bn 0 0 (0 : Int32) from bn_k (by decide)) (by decide))) cw_X6_follow km6_53 p_ad_4_0 ok_X6.1 rfl rfl ⟨Nat.le_of_ble_eq_true rfl, Nat.le_of_ble_eq_true rfl⟩ hl.1 rfl (Nat.le_of_ble_eq_true rfl) ⟨Nat.le_of_ble_eq_true rfl, Nat.le_of_ble_eq_true rfl⟩ dX6_shortest_24 (fun L_15966 f_15967 H locs I Y => ?_)
        obtain ⟨x_15968, ex_15968⟩ : ∃ z : Int32, z = y7_1 + 1 := ⟨_, rfl⟩
        refine lv_iinc (v := x_15968) (lv' := [(1, .int x_15968), (0, .ref (ad 4 0))]) hx hb dX6_shortest_27 hl (k := 1) rfl (by rw [ex_15968]; rfl) (by decide) rfl (fun ls hl => ?_)
        refine lv_goto (tgt := 7) hx hb dX6_shortest_30 (by decide) ?_
        exact ih7 _ (by rw [← hm7]; exact ms_up (m := 1) ex_15968 (show bn 1 1 (1 : Int32) from bn_k (by decide)) B_15965 (bn_w (bn_eq ex_15968 (bn_add B_15965 (show bn 1 1 (1 : Int32) from bn_k (by decide)) (by decide))) (by decide) : bn 0 6 x_15968) (by decide)) x_15968 _ _  _ _ _ I (bn_w (bn_eq ex_15968 (bn_add B_15965 (show bn 1 1 (1 : Int32) from bn_k (by decide)) (by decide))) (by decide)) rfl Y (lv_sub hl [1, 0] rfl)
  refine lv_aload_n hx hb dX6_shortest_0 rfl (lv_at hl 0 rfl) ?_
  refine lv_iconst (v := 0) hx hb dX6_shortest_1 (by decide) ?_
  obtain ⟨v_15969, p_ad_4_0, b_15970⟩ := opnC_4 (j := 0) I (by decide)
  have p_ad_4_0 : pt L f (ad 4 0) (.inr (6, [.ref (ad 1 0), .int v_15969])) := p_ad_4_0
  refine pg_put S Y ok_X6 1 (by decide) kf6_47 rfl (fs' := [.ref (ad 1 0), .int 0]) (v := .int 0) p_ad_4_0 rfl rfl rfl (Nat.le_of_ble_eq_true rfl) dX6_shortest_2 (fun f_15971 H locs ef_15971 Y => ?_)
  have p_ad_4_0 := p_ad_4_0.me ef_15971
  have I := I.up (k := 4) (j := 0) (by decide) ef_15971 (okE_o (okFs_c okV_r (okFs_c (okV_i (bn_w (show bn 0 0 (0 : Int32) from bn_k (by decide)) (by decide))) okFs_n)))
  refine lv_iconst (v := 0) hx hb dX6_shortest_5 (by decide) ?_
  refine lv_istore_n (lv' := [(1, .int 0), (0, .ref (ad 4 0))]) hx hb dX6_shortest_6 rfl hl (by decide) rfl (fun ls hl => ?_)
  exact J_7 _ 0 _ _  _ _ _ I (bn_w (show bn 0 0 (0 : Int32) from bn_k (by decide)) (by decide)) rfl Y (lv_sub hl [1, 0] rfl)
