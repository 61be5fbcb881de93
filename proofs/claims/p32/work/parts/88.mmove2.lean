theorem dX12_undo_0 : decode cX12_undo 0 = .ok (.aload_n 0, 1) := by decide +kernel
theorem dX12_undo_1 : decode cX12_undo 1 = .ok (.getfield 7, 3) := by decide +kernel
theorem dX12_undo_4 : decode cX12_undo 4 = .ok (.iconst 3, 1) := by decide +kernel
theorem dX12_undo_5 : decode cX12_undo 5 = .ok (.iaload, 1) := by decide +kernel
theorem dX12_undo_6 : decode cX12_undo 6 = .ok (.ifCond .ne 5, 3) := by decide +kernel
theorem dX12_undo_11 : decode cX12_undo 11 = .ok (.aload_n 0, 1) := by decide +kernel
theorem dX12_undo_12 : decode cX12_undo 12 = .ok (.getfield 7, 3) := by decide +kernel
theorem dX12_undo_15 : decode cX12_undo 15 = .ok (.iconst 3, 1) := by decide +kernel
theorem dX12_undo_16 : decode cX12_undo 16 = .ok (.dup2, 1) := by decide +kernel
theorem dX12_undo_17 : decode cX12_undo 17 = .ok (.iaload, 1) := by decide +kernel
theorem dX12_undo_18 : decode cX12_undo 18 = .ok (.iconst 1, 1) := by decide +kernel
theorem dX12_undo_19 : decode cX12_undo 19 = .ok (.isub, 1) := by decide +kernel
theorem dX12_undo_20 : decode cX12_undo 20 = .ok (.iastore, 1) := by decide +kernel
theorem dX12_undo_21 : decode cX12_undo 21 = .ok (.sipush 208, 3) := by decide +kernel
theorem dX12_undo_24 : decode cX12_undo 24 = .ok (.bipush 104, 2) := by decide +kernel
theorem dX12_undo_26 : decode cX12_undo 26 = .ok (.aload_n 0, 1) := by decide +kernel
theorem dX12_undo_27 : decode cX12_undo 27 = .ok (.getfield 7, 3) := by decide +kernel
theorem dX12_undo_30 : decode cX12_undo 30 = .ok (.iconst 3, 1) := by decide +kernel
theorem dX12_undo_31 : decode cX12_undo 31 = .ok (.iaload, 1) := by decide +kernel
theorem dX12_undo_32 : decode cX12_undo 32 = .ok (.imul, 1) := by decide +kernel
theorem dX12_undo_33 : decode cX12_undo 33 = .ok (.iadd, 1) := by decide +kernel
theorem dX12_undo_34 : decode cX12_undo 34 = .ok (.istore_n 1, 1) := by decide +kernel
theorem dX12_undo_35 : decode cX12_undo 35 = .ok (.iconst 0, 1) := by decide +kernel
theorem dX12_undo_36 : decode cX12_undo 36 = .ok (.istore_n 2, 1) := by decide +kernel
theorem dX12_undo_9 : decode cX12_undo 9 = .ok (.iconst (-1), 1) := by decide +kernel
theorem dX12_undo_10 : decode cX12_undo 10 = .ok (.ireturn, 1) := by decide +kernel
theorem dX12_undo_37 : decode cX12_undo 37 = .ok (.iload_n 2, 1) := by decide +kernel
theorem dX12_undo_38 : decode cX12_undo 38 = .ok (.bipush 104, 2) := by decide +kernel
theorem dX12_undo_40 : decode cX12_undo 40 = .ok (.if_icmp .ge 26, 3) := by decide +kernel
theorem dX12_undo_43 : decode cX12_undo 43 = .ok (.aload_n 0, 1) := by decide +kernel
theorem dX12_undo_44 : decode cX12_undo 44 = .ok (.getfield 7, 3) := by decide +kernel
theorem dX12_undo_47 : decode cX12_undo 47 = .ok (.bipush 10, 2) := by decide +kernel
theorem dX12_undo_49 : decode cX12_undo 49 = .ok (.iload_n 2, 1) := by decide +kernel
theorem dX12_undo_50 : decode cX12_undo 50 = .ok (.iadd, 1) := by decide +kernel
theorem dX12_undo_51 : decode cX12_undo 51 = .ok (.aload_n 0, 1) := by decide +kernel
theorem dX12_undo_52 : decode cX12_undo 52 = .ok (.getfield 7, 3) := by decide +kernel
theorem dX12_undo_55 : decode cX12_undo 55 = .ok (.iload_n 1, 1) := by decide +kernel
theorem dX12_undo_56 : decode cX12_undo 56 = .ok (.iload_n 2, 1) := by decide +kernel
theorem dX12_undo_57 : decode cX12_undo 57 = .ok (.iadd, 1) := by decide +kernel
theorem dX12_undo_58 : decode cX12_undo 58 = .ok (.iaload, 1) := by decide +kernel
theorem dX12_undo_59 : decode cX12_undo 59 = .ok (.iastore, 1) := by decide +kernel
theorem dX12_undo_60 : decode cX12_undo 60 = .ok (.iinc 2 1, 3) := by decide +kernel
theorem dX12_undo_63 : decode cX12_undo 63 = .ok (.goto (-26), 3) := by decide +kernel
theorem dX12_undo_66 : decode cX12_undo 66 = .ok (.aload_n 0, 1) := by decide +kernel
theorem dX12_undo_67 : decode cX12_undo 67 = .ok (.getfield 7, 3) := by decide +kernel
theorem dX12_undo_70 : decode cX12_undo 70 = .ok (.iconst 3, 1) := by decide +kernel
theorem dX12_undo_71 : decode cX12_undo 71 = .ok (.iaload, 1) := by decide +kernel
theorem dX12_undo_72 : decode cX12_undo 72 = .ok (.ireturn, 1) := by decide +kernel
theorem dX12_setAside_0 : decode cX12_setAside 0 = .ok (.bipush 10, 2) := by decide +kernel
theorem dX12_setAside_2 : decode cX12_setAside 2 = .ok (.istore_n 1, 1) := by decide +kernel
theorem dX12_setAside_3 : decode cX12_setAside 3 = .ok (.iload_n 1, 1) := by decide +kernel
theorem dX12_setAside_4 : decode cX12_setAside 4 = .ok (.bipush 114, 2) := by decide +kernel
theorem dX12_setAside_6 : decode cX12_setAside 6 = .ok (.if_icmp .ge 21, 3) := by decide +kernel
theorem dX12_setAside_9 : decode cX12_setAside 9 = .ok (.aload_n 0, 1) := by decide +kernel
theorem dX12_setAside_10 : decode cX12_setAside 10 = .ok (.getfield 53, 3) := by decide +kernel
theorem kf12_53 : inW (Cond.fieldLink RX12 53 "KneeOathsModel" "aside" "[I") := ⟨List.mem_of_getElem? (i := 1525) (by decide +kernel), by decide +kernel⟩
theorem dX12_setAside_13 : decode cX12_setAside 13 = .ok (.iload_n 1, 1) := by decide +kernel
theorem dX12_setAside_14 : decode cX12_setAside 14 = .ok (.aload_n 0, 1) := by decide +kernel
theorem dX12_setAside_15 : decode cX12_setAside 15 = .ok (.getfield 7, 3) := by decide +kernel
theorem dX12_setAside_18 : decode cX12_setAside 18 = .ok (.iload_n 1, 1) := by decide +kernel
theorem dX12_setAside_19 : decode cX12_setAside 19 = .ok (.iaload, 1) := by decide +kernel
theorem dX12_setAside_20 : decode cX12_setAside 20 = .ok (.iastore, 1) := by decide +kernel
theorem dX12_setAside_21 : decode cX12_setAside 21 = .ok (.iinc 1 1, 3) := by decide +kernel
theorem dX12_setAside_24 : decode cX12_setAside 24 = .ok (.goto (-21), 3) := by decide +kernel
theorem dX12_setAside_27 : decode cX12_setAside 27 = .ok (.aload_n 0, 1) := by decide +kernel
theorem dX12_setAside_28 : decode cX12_setAside 28 = .ok (.iconst 0, 1) := by decide +kernel
theorem dX12_setAside_29 : decode cX12_setAside 29 = .ok (.putfield 46, 3) := by decide +kernel
theorem dX12_setAside_32 : decode cX12_setAside 32 = .ok (.return_, 1) := by decide +kernel
theorem dX12_putBack_0 : decode cX12_putBack 0 = .ok (.bipush 10, 2) := by decide +kernel
theorem dX12_putBack_2 : decode cX12_putBack 2 = .ok (.istore_n 1, 1) := by decide +kernel
theorem dX12_putBack_3 : decode cX12_putBack 3 = .ok (.iload_n 1, 1) := by decide +kernel
theorem dX12_putBack_4 : decode cX12_putBack 4 = .ok (.bipush 114, 2) := by decide +kernel
theorem dX12_putBack_6 : decode cX12_putBack 6 = .ok (.if_icmp .ge 21, 3) := by decide +kernel
theorem dX12_putBack_9 : decode cX12_putBack 9 = .ok (.aload_n 0, 1) := by decide +kernel
theorem dX12_putBack_10 : decode cX12_putBack 10 = .ok (.getfield 7, 3) := by decide +kernel
theorem dX12_putBack_13 : decode cX12_putBack 13 = .ok (.iload_n 1, 1) := by decide +kernel
theorem dX12_putBack_14 : decode cX12_putBack 14 = .ok (.aload_n 0, 1) := by decide +kernel
theorem dX12_putBack_15 : decode cX12_putBack 15 = .ok (.getfield 53, 3) := by decide +kernel
theorem dX12_putBack_18 : decode cX12_putBack 18 = .ok (.iload_n 1, 1) := by decide +kernel
theorem dX12_putBack_19 : decode cX12_putBack 19 = .ok (.iaload, 1) := by decide +kernel
theorem dX12_putBack_20 : decode cX12_putBack 20 = .ok (.iastore, 1) := by decide +kernel
theorem dX12_putBack_21 : decode cX12_putBack 21 = .ok (.iinc 1 1, 3) := by decide +kernel
theorem dX12_putBack_24 : decode cX12_putBack 24 = .ok (.goto (-21), 3) := by decide +kernel
theorem dX12_putBack_27 : decode cX12_putBack 27 = .ok (.aload_n 0, 1) := by decide +kernel
theorem dX12_putBack_28 : decode cX12_putBack 28 = .ok (.iconst 1, 1) := by decide +kernel
theorem dX12_putBack_29 : decode cX12_putBack 29 = .ok (.putfield 46, 3) := by decide +kernel
theorem dX12_putBack_32 : decode cX12_putBack 32 = .ok (.return_, 1) := by decide +kernel
theorem dX12_copy_0 : decode cX12_copy 0 = .ok (.iconst 0, 1) := by decide +kernel
theorem dX12_copy_1 : decode cX12_copy 1 = .ok (.istore_n 2, 1) := by decide +kernel
theorem dX12_copy_2 : decode cX12_copy 2 = .ok (.iload_n 2, 1) := by decide +kernel
theorem dX12_copy_3 : decode cX12_copy 3 = .ok (.sipush 10568, 3) := by decide +kernel
theorem dX12_copy_6 : decode cX12_copy 6 = .ok (.if_icmp .ge 15, 3) := by decide +kernel
theorem dX12_copy_9 : decode cX12_copy 9 = .ok (.aload_n 1, 1) := by decide +kernel
theorem dX12_copy_10 : decode cX12_copy 10 = .ok (.iload_n 2, 1) := by decide +kernel
theorem dX12_copy_11 : decode cX12_copy 11 = .ok (.aload_n 0, 1) := by decide +kernel
theorem dX12_copy_12 : decode cX12_copy 12 = .ok (.iload_n 2, 1) := by decide +kernel
theorem dX12_copy_13 : decode cX12_copy 13 = .ok (.iaload, 1) := by decide +kernel
theorem dX12_copy_14 : decode cX12_copy 14 = .ok (.iastore, 1) := by decide +kernel
theorem dX12_copy_15 : decode cX12_copy 15 = .ok (.iinc 2 1, 3) := by decide +kernel
theorem dX12_copy_18 : decode cX12_copy 18 = .ok (.goto (-16), 3) := by decide +kernel
theorem dX12_copy_21 : decode cX12_copy 21 = .ok (.return_, 1) := by decide +kernel
section PAR
variable {G : GG} {L : List Nat} {f : HF} {ad : Nat → Nat → Nat} {PA PI PX pa PA2 PI2 PX2 pa2 : (Nat → Int32) → Prop} {j : Nat} {sl pl oh dh : Int} {w : Int × Int}
theorem SHpa (I : SH (spM PA PI PX pa) nnM G ad L f) (h : ∀ g, pa g → pa2 g) : SH (spM PA PI PX pa2) nnM G ad L f := by
  obtain ⟨g, p, o⟩ := I.opi (k := 11) (j := 0) (by decide) rfl
  exact I.castS (k := 11) (j := 0) (by decide) p (okE_a (g := g) (h g o)) paC
theorem SHpI (I : SH (spM PA PI PX pa) nnM G ad L f) (h : ∀ g, PI g → PI2 g) : SH (spM PA PI2 PX pa) nnM G ad L f := by
  obtain ⟨g, p, o⟩ := I.opi (k := 2) (j := 0) (by decide) rfl
  exact I.castS (k := 2) (j := 0) (by decide) p (okE_a (g := g) (h g o)) pIC
theorem SHpX (I : SH (spM PA PI PX pa) nnM G ad L f) (h : ∀ g, PX g → PX2 g) : SH (spM PA PI PX2 pa) nnM G ad L f := by
  obtain ⟨g, p, o⟩ := I.opi (k := 3) (j := 0) (by decide) rfl
  exact I.castS (k := 3) (j := 0) (by decide) p (okE_a (g := g) (h g o)) pXC
theorem BB_std (h : BBp sl pl oh dh w) : BBp 0 pl 14 9999 w := by unfold BBp at *; omega
theorem EQ_to {Q : (Nat → Int32) → Prop} {ga : Nat → Int32} (h : Q ga) : ∀ g, EQ ga g → Q g := fun g e => by rw [show g = ga from e]; exact h
end PAR
theorem IA_std {sl pl oh dh : Int} {w : Int × Int} {g : Nat → Int32} (h : IA sl pl oh dh w g) (q2 : oh ≤ 14) (q3 : dh ≤ 9999) (q1 : sl ≤ 0) : IA 0 pl 14 9999 w g := IA_b h (fun _ _ => rfl) (fun _ _ _ _ => rfl) (LD_w (IA_ld h) q1 q2 q3)
set_option maxHeartbeats 4000000 in
set_option maxRecDepth 100000 in
theorem x_X12_undo {l : Launch} {G : GG}  {L : List Nat} {f : HF} {ad : Nat → Nat → Nat} {sl : Int} {pl : Int} {oh : Int} {dh : Int} {w : Int × Int} {pi : (Nat → Int32) → Prop} {px : (Nat → Int32) → Prop} {pa : (Nat → Int32) → Prop} (I : SH (spM (IA sl pl oh dh w) pi px pa) nnM G ad L f) (hB : BBp sl pl oh dh w) (hsl : sl ≤ 0) : PMi l yX12_undo cX12_undo 3 .int 0 0 0 G [.ref (ad 0 0)] L f (fun r L1 f1 => SH (spM (IA 0 pl 14 9999 w) pi px pa) nnM G ad L1 f1) := by
  refine PMi.of (post := fun r L1 f1 => SH (spM (IA 0 pl 14 9999 w) pi px pa) nnM G ad L1 f1) (own := RX12) (by decide) rfl (Nat.le_of_ble_eq_true rfl) (fun sz p e s m args below meth c A ls hA1 hname S Y hl => ?_)
  have hx := S.hx
  have hb := S.hb
  have hl : lv_has ls 3 [(0, .ref (ad 0 0))] := hl
  have J_37 : ∀ (n37 : Nat) (y37_1 y37_2 : Int32) (L_37 : List Nat) (f_37 : HF) (H : Heap) (locs : List Loc) (ls : Array Slot), (SH (spM (UP (IA sl pl oh dh w) y37_1 y37_2.toInt.toNat) pi px pa) nnM G ad L_37 f_37) → (bn 208 3224 y37_1) → (bn 0 104 y37_2) → (((104 : Int) - y37_2.toInt).toNat = n37) → (DY G A s [] L_37 f_37 H locs) → (lv_has ls 3 [(0, .ref (ad 0 0)), (1, .int y37_1), (2, .int y37_2)]) → W p l e (rmD 0 0 0) s m args below meth c H locs (0) (0) (MQ below (va_Qi (fun r (u : List Nat × HF) => (fun r L1 f1 => SH (spM (IA 0 pl 14 9999 w) pi px pa) nnM G ad L1 f1) r u.1 u.2) (fun u t => pOut G (va_A (va_pl L f) sz) u.1 u.2 t) (va_A (va_pl L f) sz)) args s 0 0 A) (F0 m 37 ls []) := by
    intro n37
    induction n37 using Nat.strongRecOn with
    | _ n37 ih37 =>
      intro y37_1 y37_2 L_37 f_37 H locs ls I b_y37_1 b_y37_2 hm37 Y hl
      refine lv_iload_n hx hb dX12_undo_37 rfl (lv_at hl 2 rfl) ?_
      refine lv_bipush (v := 104) hx hb dX12_undo_38 (by decide) ?_
      refine lv_icmp_ge (tgt := 66) hx hb dX12_undo_40 (by decide) (fun c_25878 => ?_) (fun c_25878 => ?_)
      · have B_25879 : bn 104 104 y37_2 := bn_w (bn_ler c_25878 (show bn 104 104 (104 : Int32) from bn_k (by decide)) b_y37_2) (by decide)
        obtain ⟨g_25881, p_ad_1_0, o_25882⟩ := I.opi (k := 1) (j := 0) (by decide) rfl
        have p_ad_1_0 : pt L_37 f_37 (ad 1 0) (.inl (G.2 0, 10568, .inl g_25881)) := p_ad_1_0
        have o_25883 : (IA 0 pl 14 9999 w) g_25881 := (UP_end (show UP (IA sl pl oh dh w) y37_1 104 g_25881 from by rw [← (tn_eq (n := 104) (bn_w B_25879 (by decide)))]; exact o_25882))
        have I := I.castS (sp' := spM (IA 0 pl 14 9999 w) pi px pa) (k := 1) (j := 0) (by decide) p_ad_1_0 (okE_a (g := g_25881) o_25883) pAC
        refine lv_aload_n hx hb dX12_undo_66 rfl (lv_at hl 0 rfl) ?_
        obtain ⟨v_25884, v_25886, v_25888, v_25890, v_25892, v_25894, v_25896, v_25898, v_25899, v_25901, v_25903, v_25905, v_25907, v_25909, v_25911, v_25913, v_25915, v_25917, p_ad_0_0, b_25885, b_25887, b_25889, b_25891, b_25893, b_25895, b_25897, b_25900, b_25902, b_25904, b_25906, b_25908, b_25910, b_25912, b_25914, b_25916, b_25918⟩ := opnM_0 (j := 0) I (by decide)
        have p_ad_0_0 : pt L_37 f_37 (ad 0 0) (.inr (12, [.ref (ad 1 0), .ref (ad 2 0), .ref (ad 3 0), .ref (ad 4 0), .int v_25884, .int v_25886, .int v_25888, .int v_25890, .int v_25892, .int v_25894, .int v_25896, .long v_25898, .int v_25899, .int v_25901, .int v_25903, .ref (ad 5 0), .ref (ad 6 0), .int v_25905, .int v_25907, .int v_25909, .int v_25911, .int v_25913, .ref (ad 7 0), .ref (ad 8 0), .ref (ad 9 0), .int v_25915, .ref (ad 10 0), .ref (ad 11 0), .ref (ad 12 0), .ref (ad 13 0), .int v_25917, .ref (ad 14 0)])) := p_ad_0_0
        refine pg_get S Y ok_X12 0 (by decide) kf12_7 (v := .ref (ad 1 0)) p_ad_0_0 rfl dX12_undo_67 ?_
        refine lv_iconst (v := 3) hx hb dX12_undo_70 (by decide) ?_
        obtain ⟨v_25919, ev_25919⟩ : ∃ z, z = g_25881 (3 : Int32).toNatClampNeg := ⟨_, rfl⟩
        refine pg_iald S Y (v := v_25919) p_ad_1_0 (by unfold vp_in; decide) ev_25919.symm dX12_undo_71 ?_
        have bv_25919 : bn 0 30 v_25919 := bn_eq ev_25919 (IA_3 o_25883)
        exact prI (post := fun r L1 f1 => SH (spM (IA 0 pl 14 9999 w) pi px pa) nnM G ad L1 f1) S Y rfl (by decide) (by decide) hA1 I dX12_undo_72
      · have B_25880 : bn 0 103 y37_2 := bn_w (bn_gtr c_25878 (show bn 104 104 (104 : Int32) from bn_k (by decide)) b_y37_2) (by decide)
        refine lv_aload_n hx hb dX12_undo_43 rfl (lv_at hl 0 rfl) ?_
        obtain ⟨v_25920, v_25922, v_25924, v_25926, v_25928, v_25930, v_25932, v_25934, v_25935, v_25937, v_25939, v_25941, v_25943, v_25945, v_25947, v_25949, v_25951, v_25953, p_ad_0_0, b_25921, b_25923, b_25925, b_25927, b_25929, b_25931, b_25933, b_25936, b_25938, b_25940, b_25942, b_25944, b_25946, b_25948, b_25950, b_25952, b_25954⟩ := opnM_0 (j := 0) I (by decide)
        have p_ad_0_0 : pt L_37 f_37 (ad 0 0) (.inr (12, [.ref (ad 1 0), .ref (ad 2 0), .ref (ad 3 0), .ref (ad 4 0), .int v_25920, .int v_25922, .int v_25924, .int v_25926, .int v_25928, .int v_25930, .int v_25932, .long v_25934, .int v_25935, .int v_25937, .int v_25939, .ref (ad 5 0), .ref (ad 6 0), .int v_25941, .int v_25943, .int v_25945, .int v_25947, .int v_25949, .ref (ad 7 0), .ref (ad 8 0), .ref (ad 9 0), .int v_25951, .ref (ad 10 0), .ref (ad 11 0), .ref (ad 12 0), .ref (ad 13 0), .int v_25953, .ref (ad 14 0)])) := p_ad_0_0
        refine pg_get S Y ok_X12 0 (by decide) kf12_7 (v := .ref (ad 1 0)) p_ad_0_0 rfl dX12_undo_44 ?_
        refine lv_bipush (v := 10) hx hb dX12_undo_47 (by decide) ?_
        refine lv_iload_n hx hb dX12_undo_49 rfl (lv_at hl 2 rfl) ?_
        refine lv_iadd hx hb dX12_undo_50 ?_
        refine lv_topi (fun x_25955 ex_25955 => ?_)
        refine lv_aload_n hx hb dX12_undo_51 rfl (lv_at hl 0 rfl) ?_
        refine pg_get S Y ok_X12 0 (by decide) kf12_7 (v := .ref (ad 1 0)) p_ad_0_0 rfl dX12_undo_52 ?_
        refine lv_iload_n hx hb dX12_undo_55 rfl (lv_at hl 1 rfl) ?_
        refine lv_iload_n hx hb dX12_undo_56 rfl (lv_at hl 2 rfl) ?_
        refine lv_iadd hx hb dX12_undo_57 ?_
        refine lv_topi (fun x_25956 ex_25956 => ?_)
        obtain ⟨g_25957, p_ad_1_0, o_25958⟩ := I.opi (k := 1) (j := 0) (by decide) rfl
        have p_ad_1_0 : pt L_37 f_37 (ad 1 0) (.inl (G.2 0, 10568, .inl g_25957)) := p_ad_1_0
        obtain ⟨v_25959, ev_25959⟩ : ∃ z, z = g_25957 (x_25956 : Int32).toNatClampNeg := ⟨_, rfl⟩
        refine pg_iald S Y (v := v_25959) p_ad_1_0 (vp_bn (bn_eq ex_25956 (bn_add b_y37_1 B_25880 (by decide))) (by decide)) ev_25959.symm dX12_undo_58 ?_
        refine pg_iast S Y p_ad_1_0 (vp_bn (bn_eq ex_25955 (bn_add (show bn 10 10 (10 : Int32) from bn_k (by decide)) B_25880 (by decide))) (by decide)) dX12_undo_59 (fun f_25961 H locs ef_25961 Y => ?_)
        obtain ⟨g_25960, eg_25960⟩ : ∃ z, z = upd (g_25957) (x_25955 : Int32).toNatClampNeg v_25959 := ⟨_, rfl⟩
        rw [← eg_25960] at ef_25961
        have p_ad_0_0 := p_ad_0_0.up ef_25961 (I.ne (k := 0) (j := 0) (k' := 1) (j' := 0) (by decide) (by decide) (Or.inl (by decide)))
        have p_ad_1_0 := p_ad_1_0.me ef_25961
        have o_25962 : (UP (IA sl pl oh dh w) y37_1 (y37_2.toInt.toNat + 1)) g_25960 := (by rw [eg_25960]; exact UP_st o_25958 (show (x_25955 : Int32).toNatClampNeg = 10 + y37_2.toInt.toNat from (by have z9 := (la_add ex_25955 (show (10 : Int32).toInt = 10 from rfl) (rfl : y37_2.toInt = y37_2.toInt) (show bn 10 10 (10 : Int32) from bn_k (by decide)) B_25880 (by decide)); have z0 := (b_y37_1).1; have z1 := (B_25880).1; simp only [tnc]; omega)) (by rw [ev_25959, show (x_25956 : Int32).toNatClampNeg = y37_1.toInt.toNat + y37_2.toInt.toNat from (by have z9 := (la_add ex_25956 (rfl : y37_1.toInt = y37_1.toInt) (rfl : y37_2.toInt = y37_2.toInt) b_y37_1 B_25880 (by decide)); have z0 := (b_y37_1).1; have z1 := (B_25880).1; simp only [tnc]; omega)]))
        have I := I.upS (sp' := spM (UP (IA sl pl oh dh w) y37_1 (y37_2.toInt.toNat + 1)) pi px pa) (k := 1) (j := 0) (by decide) ef_25961 (okE_a (g := g_25960) o_25962) pAC
        obtain ⟨x_25963, ex_25963⟩ : ∃ z : Int32, z = y37_2 + 1 := ⟨_, rfl⟩
        refine lv_iinc (v := x_25963) (lv' := [(2, .int x_25963), (0, .ref (ad 0 0)), (1, .int y37_1)]) hx hb dX12_undo_60 hl (k := 2) rfl (by rw [ex_25963]; rfl) (by decide) rfl (fun ls hl => ?_)
        refine lv_goto (tgt := 37) hx hb dX12_undo_63 (by decide) ?_
        have I : SH (spM (UP (IA sl pl oh dh w) y37_1 (x_25963 : Int32).toInt.toNat) pi px pa) nnM G ad L_37 f_25961 := by have z9 := (la_add ex_25963 (rfl : y37_2.toInt = y37_2.toInt) (show (1 : Int32).toInt = 1 from rfl) B_25880 (show bn 1 1 (1 : Int32) from bn_k (by decide)) (by decide)); have z8 := (B_25880).1; have e9 : (x_25963 : Int32).toInt.toNat = y37_2.toInt.toNat + 1 := (by omega); rw [e9]; exact I
        exact ih37 _ (by rw [← hm37]; exact ms_up (m := 1) ex_25963 (show bn 1 1 (1 : Int32) from bn_k (by decide)) B_25880 (bn_w (bn_eq ex_25963 (bn_add B_25880 (show bn 1 1 (1 : Int32) from bn_k (by decide)) (by decide))) (by decide) : bn 0 104 x_25963) (by decide)) y37_1 x_25963 _ _  _ _ _ I (bn_w b_y37_1 (by decide)) (bn_w (bn_eq ex_25963 (bn_add B_25880 (show bn 1 1 (1 : Int32) from bn_k (by decide)) (by decide))) (by decide)) rfl Y (lv_sub hl [1, 2, 0] rfl)
  refine lv_aload_n hx hb dX12_undo_0 rfl (lv_at hl 0 rfl) ?_
  obtain ⟨v_25964, v_25966, v_25968, v_25970, v_25972, v_25974, v_25976, v_25978, v_25979, v_25981, v_25983, v_25985, v_25987, v_25989, v_25991, v_25993, v_25995, v_25997, p_ad_0_0, b_25965, b_25967, b_25969, b_25971, b_25973, b_25975, b_25977, b_25980, b_25982, b_25984, b_25986, b_25988, b_25990, b_25992, b_25994, b_25996, b_25998⟩ := opnM_0 (j := 0) I (by decide)
  have p_ad_0_0 : pt L f (ad 0 0) (.inr (12, [.ref (ad 1 0), .ref (ad 2 0), .ref (ad 3 0), .ref (ad 4 0), .int v_25964, .int v_25966, .int v_25968, .int v_25970, .int v_25972, .int v_25974, .int v_25976, .long v_25978, .int v_25979, .int v_25981, .int v_25983, .ref (ad 5 0), .ref (ad 6 0), .int v_25985, .int v_25987, .int v_25989, .int v_25991, .int v_25993, .ref (ad 7 0), .ref (ad 8 0), .ref (ad 9 0), .int v_25995, .ref (ad 10 0), .ref (ad 11 0), .ref (ad 12 0), .ref (ad 13 0), .int v_25997, .ref (ad 14 0)])) := p_ad_0_0
  refine pg_get S Y ok_X12 0 (by decide) kf12_7 (v := .ref (ad 1 0)) p_ad_0_0 rfl dX12_undo_1 ?_
  refine lv_iconst (v := 3) hx hb dX12_undo_4 (by decide) ?_
  obtain ⟨g_25999, p_ad_1_0, o_26000⟩ := I.opi (k := 1) (j := 0) (by decide) rfl
  have p_ad_1_0 : pt L f (ad 1 0) (.inl (G.2 0, 10568, .inl g_25999)) := p_ad_1_0
  obtain ⟨v_26001, ev_26001⟩ : ∃ z, z = g_25999 (3 : Int32).toNatClampNeg := ⟨_, rfl⟩
  refine pg_iald S Y (v := v_26001) p_ad_1_0 (by unfold vp_in; decide) ev_26001.symm dX12_undo_5 ?_
  have bv_26001 : bn 0 30 v_26001 := bn_eq ev_26001 (IA_3 o_26000)
  refine lv_if_ne (tgt := 11) hx hb dX12_undo_6 (by decide) (fun c_26002 => ?_) (fun c_26002 => ?_)
  · have B_26003 : bn 1 30 v_26001 := bn_w (bn_nel c_26002 bv_26001 (show bn 0 0 (0 : Int32) from bn_k (by decide))) (by decide)
    refine lv_aload_n hx hb dX12_undo_11 rfl (lv_at hl 0 rfl) ?_
    refine pg_get S Y ok_X12 0 (by decide) kf12_7 (v := .ref (ad 1 0)) p_ad_0_0 rfl dX12_undo_12 ?_
    refine lv_iconst (v := 3) hx hb dX12_undo_15 (by decide) ?_
    refine lv_dup2_11 hx hb dX12_undo_16 rfl rfl ?_
    refine pg_iald S Y (v := v_26001) p_ad_1_0 (by unfold vp_in; decide) ev_26001.symm dX12_undo_17 ?_
    refine lv_iconst (v := 1) hx hb dX12_undo_18 (by decide) ?_
    refine lv_isub hx hb dX12_undo_19 ?_
    refine lv_topi (fun x_26005 ex_26005 => ?_)
    refine pg_iast S Y p_ad_1_0 (by unfold vp_in; decide) dX12_undo_20 (fun f_26007 H locs ef_26007 Y => ?_)
    obtain ⟨g_26006, eg_26006⟩ : ∃ z, z = upd (g_25999) (3 : Int32).toNatClampNeg x_26005 := ⟨_, rfl⟩
    rw [← eg_26006] at ef_26007
    have p_ad_0_0 := p_ad_0_0.up ef_26007 (I.ne (k := 0) (j := 0) (k' := 1) (j' := 0) (by decide) (by decide) (Or.inl (by decide)))
    have p_ad_1_0 := p_ad_1_0.me ef_26007
    have o_26008 : (IA sl pl oh dh w) g_26006 := (by rw [eg_26006]; exact (IA_s3 o_26000 (bn_w (bn_eq ex_26005 (bn_sub B_26003 (show bn 1 1 (1 : Int32) from bn_k (by decide)) (by decide))) (by decide))))
    have I := I.up (k := 1) (j := 0) (by decide) ef_26007 (okE_a (g := g_26006) o_26008)
    have q_26009 : g_26006 (3 : Int32).toNatClampNeg = x_26005 := by rw [eg_26006]; exact pk_us
    refine lv_sipush (v := 208) hx hb dX12_undo_21 (by decide) ?_
    refine lv_bipush (v := 104) hx hb dX12_undo_24 (by decide) ?_
    refine lv_aload_n hx hb dX12_undo_26 rfl (lv_at hl 0 rfl) ?_
    refine pg_get S Y ok_X12 0 (by decide) kf12_7 (v := .ref (ad 1 0)) p_ad_0_0 rfl dX12_undo_27 ?_
    refine lv_iconst (v := 3) hx hb dX12_undo_30 (by decide) ?_
    refine pg_iald S Y (v := x_26005) p_ad_1_0 (by unfold vp_in; decide) q_26009 dX12_undo_31 ?_
    refine lv_imul hx hb dX12_undo_32 ?_
    refine lv_topi (fun x_26010 ex_26010 => ?_)
    refine lv_iadd hx hb dX12_undo_33 ?_
    refine lv_topi (fun x_26011 ex_26011 => ?_)
    have B_26012 : bn 208 3224 x_26011 := bn_w (bn_eq ex_26011 (bn_add (show bn 208 208 (208 : Int32) from bn_k (by decide)) (bn_eq ex_26010 (bn_mul (show bn 104 104 (104 : Int32) from bn_k (by decide)) (bn_eq ex_26005 (bn_sub B_26003 (show bn 1 1 (1 : Int32) from bn_k (by decide)) (by decide))) (by decide))) (by decide))) (by decide)
    refine lv_istore_n (lv' := [(1, .int x_26011), (0, .ref (ad 0 0))]) hx hb dX12_undo_34 rfl hl (by decide) rfl (fun ls hl => ?_)
    refine lv_iconst (v := 0) hx hb dX12_undo_35 (by decide) ?_
    refine lv_istore_n (lv' := [(2, .int 0), (1, .int x_26011), (0, .ref (ad 0 0))]) hx hb dX12_undo_36 rfl hl (by decide) rfl (fun ls hl => ?_)
    have o_26013 : (UP (IA sl pl oh dh w) x_26011 (0 : Int32).toInt.toNat) g_26006 := (UP_0 o_26008 (bn_w (bn_eq ex_26005 (bn_sub B_26003 (show bn 1 1 (1 : Int32) from bn_k (by decide)) (by decide))) (by decide)) (by have z9 := (la_add ex_26011 (show (208 : Int32).toInt = 208 from rfl) (la_mul ex_26010 (show (104 : Int32).toInt = 104 from rfl) (rfl : x_26005.toInt = x_26005.toInt) (show bn 104 104 (104 : Int32) from bn_k (by decide)) (bn_eq ex_26005 (bn_sub B_26003 (show bn 1 1 (1 : Int32) from bn_k (by decide)) (by decide))) (by decide)) (show bn 208 208 (208 : Int32) from bn_k (by decide)) (bn_eq ex_26010 (bn_mul (show bn 104 104 (104 : Int32) from bn_k (by decide)) (bn_eq ex_26005 (bn_sub B_26003 (show bn 1 1 (1 : Int32) from bn_k (by decide)) (by decide))) (by decide))) (by decide)); omega))
    have I := I.castS (sp' := spM (UP (IA sl pl oh dh w) x_26011 (0 : Int32).toInt.toNat) pi px pa) (k := 1) (j := 0) (by decide) p_ad_1_0 (okE_a (g := g_26006) o_26013) pAC
    exact J_37 _ x_26011 0 _ _  _ _ _ I (bn_w B_26012 (by decide)) (bn_w (show bn 0 0 (0 : Int32) from bn_k (by decide)) (by decide)) rfl Y (lv_sub hl [2, 1, 0] rfl)
  · have B_26004 : bn 0 0 v_26001 := bn_w (bn_eq c_26002 (show bn 0 0 (0 : Int32) from bn_k (by decide))) (by decide)
    refine lv_iconst (v := (-1)) hx hb dX12_undo_9 (by decide) ?_
    exact prI (post := fun r L1 f1 => SH (spM (IA 0 pl 14 9999 w) pi px pa) nnM G ad L1 f1) S Y rfl (by decide) (by decide) hA1 (SHpA I (fun g h => IA_std h (by have h9 := hB; unfold BBp at h9; omega) (by have h9 := hB; unfold BBp at h9; omega) hsl)) dX12_undo_10
set_option maxHeartbeats 4000000 in
set_option maxRecDepth 100000 in
theorem x_X12_setAside {l : Launch} {G : GG}  {L : List Nat} {f : HF} {ad : Nat → Nat → Nat} {pl : Int} {oh : Int} {dh : Int} {w : Int × Int} {pi : (Nat → Int32) → Prop} {px : (Nat → Int32) → Prop} {pa : (Nat → Int32) → Prop} (I : SH (spM (IA 0 pl oh dh w) pi px pa) nnM G ad L f) (hB : BBp 0 pl oh dh w) : PMv l yX12_setAside cX12_setAside 2 0 0 0 G [.ref (ad 0 0)] L f (fun L1 f1 => SH (spM (IA 0 pl oh dh w) pi px LDa) nnM G ad L1 f1) := by
  refine PMv.of (post := fun L1 f1 => SH (spM (IA 0 pl oh dh w) pi px LDa) nnM G ad L1 f1) (own := RX12) (by decide) rfl (Nat.le_of_ble_eq_true rfl) (fun sz p e s m args below meth c A ls hA1 hname S Y hl => ?_)
  have hx := S.hx
  have hb := S.hb
  have hl : lv_has ls 2 [(0, .ref (ad 0 0))] := hl
  obtain ⟨ga, pga, oga⟩ := I.opi (k := 1) (j := 0) (by decide) rfl
  have I := I.castS (sp' := spM (EQ ga) pi px pa) (k := 1) (j := 0) (by decide) pga (okE_a (g := ga) (rfl : EQ ga ga)) pAC
  have J_3 : ∀ (n3 : Nat) (y3_1 : Int32) (L_3 : List Nat) (f_3 : HF) (H : Heap) (locs : List Loc) (ls : Array Slot), (SH (spM (EQ ga) pi px (SA ga (y3_1.toInt.toNat - 10))) nnM G ad L_3 f_3) → (bn 10 114 y3_1) → (((114 : Int) - y3_1.toInt).toNat = n3) → (DY G A s [] L_3 f_3 H locs) → (lv_has ls 2 [(0, .ref (ad 0 0)), (1, .int y3_1)]) → W p l e (rmD 0 0 0) s m args below meth c H locs (0) (0) (MQ below (va_Qv (fun (u : List Nat × HF) => (fun L1 f1 => SH (spM (IA 0 pl oh dh w) pi px LDa) nnM G ad L1 f1) u.1 u.2) (fun u t => pOut G (va_A (va_pl L f) sz) u.1 u.2 t) (va_A (va_pl L f) sz)) args s 0 0 A) (F0 m 3 ls []) := by
    intro n3
    induction n3 using Nat.strongRecOn with
    | _ n3 ih3 =>
      intro y3_1 L_3 f_3 H locs ls I b_y3_1 hm3 Y hl
      refine lv_iload_n hx hb dX12_setAside_3 rfl (lv_at hl 1 rfl) ?_
      refine lv_bipush (v := 114) hx hb dX12_setAside_4 (by decide) ?_
      refine lv_icmp_ge (tgt := 27) hx hb dX12_setAside_6 (by decide) (fun c_27418 => ?_) (fun c_27418 => ?_)
      · have B_27419 : bn 114 114 y3_1 := bn_w (bn_ler c_27418 (show bn 114 114 (114 : Int32) from bn_k (by decide)) b_y3_1) (by decide)
        obtain ⟨g_27421, p_ad_11_0, o_27422⟩ := I.opi (k := 11) (j := 0) (by decide) rfl
        have p_ad_11_0 : pt L_3 f_3 (ad 11 0) (.inl (G.2 0, 114, .inl g_27421)) := p_ad_11_0
        have o_27423 : LDa g_27421 := (SA_end (h := g_27421) (show SA ga 104 _ from by rw [show (104 : Nat) = 114 - 10 from rfl, ← (tn_eq (n := 114) (bn_w B_27419 (by decide)))]; exact o_27422) (IA_ld oga) (Int.le_refl _) (by have h9 := hB; unfold BBp at h9; omega) (by have h9 := hB; unfold BBp at h9; omega))
        have I := I.castS (sp' := spM (EQ ga) pi px LDa) (k := 11) (j := 0) (by decide) p_ad_11_0 (okE_a (g := g_27421) o_27423) paC
        refine lv_aload_n hx hb dX12_setAside_27 rfl (lv_at hl 0 rfl) ?_
        refine lv_iconst (v := 0) hx hb dX12_setAside_28 (by decide) ?_
        obtain ⟨v_27424, v_27426, v_27428, v_27430, v_27432, v_27434, v_27436, v_27438, v_27439, v_27441, v_27443, v_27445, v_27447, v_27449, v_27451, v_27453, v_27455, v_27457, p_ad_0_0, b_27425, b_27427, b_27429, b_27431, b_27433, b_27435, b_27437, b_27440, b_27442, b_27444, b_27446, b_27448, b_27450, b_27452, b_27454, b_27456, b_27458⟩ := opnM_0 (j := 0) I (by decide)
        have p_ad_0_0 : pt L_3 f_3 (ad 0 0) (.inr (12, [.ref (ad 1 0), .ref (ad 2 0), .ref (ad 3 0), .ref (ad 4 0), .int v_27424, .int v_27426, .int v_27428, .int v_27430, .int v_27432, .int v_27434, .int v_27436, .long v_27438, .int v_27439, .int v_27441, .int v_27443, .ref (ad 5 0), .ref (ad 6 0), .int v_27445, .int v_27447, .int v_27449, .int v_27451, .int v_27453, .ref (ad 7 0), .ref (ad 8 0), .ref (ad 9 0), .int v_27455, .ref (ad 10 0), .ref (ad 11 0), .ref (ad 12 0), .ref (ad 13 0), .int v_27457, .ref (ad 14 0)])) := p_ad_0_0
        refine pg_put S Y ok_X12 25 (by decide) kf12_46 rfl (fs' := [.ref (ad 1 0), .ref (ad 2 0), .ref (ad 3 0), .ref (ad 4 0), .int v_27424, .int v_27426, .int v_27428, .int v_27430, .int v_27432, .int v_27434, .int v_27436, .long v_27438, .int v_27439, .int v_27441, .int v_27443, .ref (ad 5 0), .ref (ad 6 0), .int v_27445, .int v_27447, .int v_27449, .int v_27451, .int v_27453, .ref (ad 7 0), .ref (ad 8 0), .ref (ad 9 0), .int 0, .ref (ad 10 0), .ref (ad 11 0), .ref (ad 12 0), .ref (ad 13 0), .int v_27457, .ref (ad 14 0)]) (v := .int 0) p_ad_0_0 rfl rfl rfl (Nat.le_of_ble_eq_true rfl) dX12_setAside_29 (fun f_27459 H locs ef_27459 Y => ?_)
        have p_ad_11_0 := p_ad_11_0.up ef_27459 (I.ne (k := 11) (j := 0) (k' := 0) (j' := 0) (by decide) (by decide) (Or.inl (by decide)))
        have p_ad_0_0 := p_ad_0_0.me ef_27459
        have I := I.up (k := 0) (j := 0) (by decide) ef_27459 (okE_o (okFs_c okV_r (okFs_c okV_r (okFs_c okV_r (okFs_c okV_r (okFs_c (okV_i b_27425) (okFs_c (okV_i b_27427) (okFs_c (okV_i b_27429) (okFs_c (okV_i b_27431) (okFs_c (okV_i b_27433) (okFs_c (okV_i b_27435) (okFs_c (okV_i b_27437) (okFs_c okV_l (okFs_c (okV_i b_27440) (okFs_c (okV_i b_27442) (okFs_c (okV_i b_27444) (okFs_c okV_r (okFs_c okV_r (okFs_c (okV_i b_27446) (okFs_c (okV_i b_27448) (okFs_c (okV_i b_27450) (okFs_c (okV_i b_27452) (okFs_c (okV_i b_27454) (okFs_c okV_r (okFs_c okV_r (okFs_c okV_r (okFs_c (okV_i (bn_w (show bn 0 0 (0 : Int32) from bn_k (by decide)) (by decide))) (okFs_c okV_r (okFs_c okV_r (okFs_c okV_r (okFs_c okV_r (okFs_c (okV_i b_27458) (okFs_c okV_r okFs_n)))))))))))))))))))))))))))))))))
        exact prV (post := fun L1 f1 => SH (spM (IA 0 pl oh dh w) pi px LDa) nnM G ad L1 f1) S Y (by decide) (by decide) hA1 (SHpA I (EQ_to oga)) dX12_setAside_32
      · have B_27420 : bn 10 113 y3_1 := bn_w (bn_gtr c_27418 (show bn 114 114 (114 : Int32) from bn_k (by decide)) b_y3_1) (by decide)
        refine lv_aload_n hx hb dX12_setAside_9 rfl (lv_at hl 0 rfl) ?_
        obtain ⟨v_27460, v_27462, v_27464, v_27466, v_27468, v_27470, v_27472, v_27474, v_27475, v_27477, v_27479, v_27481, v_27483, v_27485, v_27487, v_27489, v_27491, v_27493, p_ad_0_0, b_27461, b_27463, b_27465, b_27467, b_27469, b_27471, b_27473, b_27476, b_27478, b_27480, b_27482, b_27484, b_27486, b_27488, b_27490, b_27492, b_27494⟩ := opnM_0 (j := 0) I (by decide)
        have p_ad_0_0 : pt L_3 f_3 (ad 0 0) (.inr (12, [.ref (ad 1 0), .ref (ad 2 0), .ref (ad 3 0), .ref (ad 4 0), .int v_27460, .int v_27462, .int v_27464, .int v_27466, .int v_27468, .int v_27470, .int v_27472, .long v_27474, .int v_27475, .int v_27477, .int v_27479, .ref (ad 5 0), .ref (ad 6 0), .int v_27481, .int v_27483, .int v_27485, .int v_27487, .int v_27489, .ref (ad 7 0), .ref (ad 8 0), .ref (ad 9 0), .int v_27491, .ref (ad 10 0), .ref (ad 11 0), .ref (ad 12 0), .ref (ad 13 0), .int v_27493, .ref (ad 14 0)])) := p_ad_0_0
        refine pg_get S Y ok_X12 27 (by decide) kf12_53 (v := .ref (ad 11 0)) p_ad_0_0 rfl dX12_setAside_10 ?_
        refine lv_iload_n hx hb dX12_setAside_13 rfl (lv_at hl 1 rfl) ?_
        refine lv_aload_n hx hb dX12_setAside_14 rfl (lv_at hl 0 rfl) ?_
        refine pg_get S Y ok_X12 0 (by decide) kf12_7 (v := .ref (ad 1 0)) p_ad_0_0 rfl dX12_setAside_15 ?_
        refine lv_iload_n hx hb dX12_setAside_18 rfl (lv_at hl 1 rfl) ?_
        obtain ⟨g_27495, p_ad_1_0, o_27496⟩ := I.opi (k := 1) (j := 0) (by decide) rfl
        have p_ad_1_0 : pt L_3 f_3 (ad 1 0) (.inl (G.2 0, 10568, .inl g_27495)) := p_ad_1_0
        obtain ⟨v_27497, ev_27497⟩ : ∃ z, z = g_27495 (y3_1 : Int32).toNatClampNeg := ⟨_, rfl⟩
        refine pg_iald S Y (v := v_27497) p_ad_1_0 (vp_bn B_27420 (by decide)) ev_27497.symm dX12_setAside_19 ?_
        obtain ⟨g_27498, p_ad_11_0, o_27499⟩ := I.opi (k := 11) (j := 0) (by decide) rfl
        have p_ad_11_0 : pt L_3 f_3 (ad 11 0) (.inl (G.2 0, 114, .inl g_27498)) := p_ad_11_0
        refine pg_iast S Y p_ad_11_0 (vp_bn B_27420 (by decide)) dX12_setAside_20 (fun f_27501 H locs ef_27501 Y => ?_)
        obtain ⟨g_27500, eg_27500⟩ : ∃ z, z = upd (g_27498) (y3_1 : Int32).toNatClampNeg v_27497 := ⟨_, rfl⟩
        rw [← eg_27500] at ef_27501
        have p_ad_0_0 := p_ad_0_0.up ef_27501 (I.ne (k := 0) (j := 0) (k' := 11) (j' := 0) (by decide) (by decide) (Or.inl (by decide)))
        have p_ad_1_0 := p_ad_1_0.up ef_27501 (I.ne (k := 1) (j := 0) (k' := 11) (j' := 0) (by decide) (by decide) (Or.inl (by decide)))
        have p_ad_11_0 := p_ad_11_0.me ef_27501
        have o_27502 : (SA ga (y3_1.toInt.toNat - 10 + 1)) g_27500 := (by rw [eg_27500]; exact SA_st o_27499 (show y3_1.toNatClampNeg = 10 + (y3_1.toInt.toNat - 10) from by have z := B_27420.1; simp only [tnc]; omega) (by rw [ev_27497, show g_27495 = ga from o_27496, show y3_1.toNatClampNeg = 10 + (y3_1.toInt.toNat - 10) from by have z := B_27420.1; simp only [tnc]; omega]))
        have I := I.upS (sp' := spM (EQ ga) pi px (SA ga (y3_1.toInt.toNat - 10 + 1))) (k := 11) (j := 0) (by decide) ef_27501 (okE_a (g := g_27500) o_27502) paC
        obtain ⟨x_27503, ex_27503⟩ : ∃ z : Int32, z = y3_1 + 1 := ⟨_, rfl⟩
        refine lv_iinc (v := x_27503) (lv' := [(1, .int x_27503), (0, .ref (ad 0 0))]) hx hb dX12_setAside_21 hl (k := 1) rfl (by rw [ex_27503]; rfl) (by decide) rfl (fun ls hl => ?_)
        refine lv_goto (tgt := 3) hx hb dX12_setAside_24 (by decide) ?_
        have I : SH (spM (EQ ga) pi px (SA ga ((x_27503 : Int32).toInt.toNat - 10))) nnM G ad L_3 f_27501 := by have z9 := (la_add ex_27503 (rfl : y3_1.toInt = y3_1.toInt) (show (1 : Int32).toInt = 1 from rfl) B_27420 (show bn 1 1 (1 : Int32) from bn_k (by decide)) (by decide)); have z8 := (B_27420).1; have e9 : (x_27503 : Int32).toInt.toNat - 10 = y3_1.toInt.toNat - 10 + 1 := (by omega); rw [e9]; exact I
        exact ih3 _ (by rw [← hm3]; exact ms_up (m := 1) ex_27503 (show bn 1 1 (1 : Int32) from bn_k (by decide)) B_27420 (bn_w (bn_eq ex_27503 (bn_add B_27420 (show bn 1 1 (1 : Int32) from bn_k (by decide)) (by decide))) (by decide) : bn 10 114 x_27503) (by decide)) x_27503 _ _  _ _ _ I (bn_w (bn_eq ex_27503 (bn_add B_27420 (show bn 1 1 (1 : Int32) from bn_k (by decide)) (by decide))) (by decide)) rfl Y (lv_sub hl [1, 0] rfl)
  refine lv_bipush (v := 10) hx hb dX12_setAside_0 (by decide) ?_
  refine lv_istore_n (lv' := [(1, .int 10), (0, .ref (ad 0 0))]) hx hb dX12_setAside_2 rfl hl (by decide) rfl (fun ls hl => ?_)
  obtain ⟨g_27504, p_ad_11_0, o_27505⟩ := I.opi (k := 11) (j := 0) (by decide) rfl
  have p_ad_11_0 : pt L f (ad 11 0) (.inl (G.2 0, 114, .inl g_27504)) := p_ad_11_0
  have o_27506 : (SA ga ((10 : Int32).toInt.toNat - 10)) g_27504 := (fun j hj => absurd hj (Nat.not_lt_zero j))
  have I := I.castS (sp' := spM (EQ ga) pi px (SA ga ((10 : Int32).toInt.toNat - 10))) (k := 11) (j := 0) (by decide) p_ad_11_0 (okE_a (g := g_27504) o_27506) paC
  exact J_3 _ 10 _ _  _ _ _ I (bn_w (show bn 10 10 (10 : Int32) from bn_k (by decide)) (by decide)) rfl Y (lv_sub hl [1, 0] rfl)
set_option maxHeartbeats 4000000 in
set_option maxRecDepth 100000 in
theorem x_X12_putBack {l : Launch} {G : GG}  {L : List Nat} {f : HF} {ad : Nat → Nat → Nat} {sl : Int} {pl : Int} {oh : Int} {dh : Int} {w : Int × Int} {pi : (Nat → Int32) → Prop} {px : (Nat → Int32) → Prop} (I : SH (spM (IA sl pl oh dh w) pi px LDa) nnM G ad L f) (hB : BBp sl pl oh dh w) : PMv l yX12_putBack cX12_putBack 2 0 0 0 G [.ref (ad 0 0)] L f (fun L1 f1 => SH (spM (IA 0 pl 14 9999 w) pi px LDa) nnM G ad L1 f1) := by
  refine PMv.of (post := fun L1 f1 => SH (spM (IA 0 pl 14 9999 w) pi px LDa) nnM G ad L1 f1) (own := RX12) (by decide) rfl (Nat.le_of_ble_eq_true rfl) (fun sz p e s m args below meth c A ls hA1 hname S Y hl => ?_)
  have hx := S.hx
  have hb := S.hb
  have hl : lv_has ls 2 [(0, .ref (ad 0 0))] := hl
  obtain ⟨h0, ph0, oh0⟩ := I.opi (k := 11) (j := 0) (by decide) rfl
  have I := I.castS (sp' := spM (IA sl pl oh dh w) pi px (EQ h0)) (k := 11) (j := 0) (by decide) ph0 (okE_a (g := h0) (rfl : EQ h0 h0)) paC
  have J_3 : ∀ (n3 : Nat) (y3_1 : Int32) (L_3 : List Nat) (f_3 : HF) (H : Heap) (locs : List Loc) (ls : Array Slot), (SH (spM (PBk (IA sl pl oh dh w) h0 (y3_1.toInt.toNat - 10)) pi px (EQ h0)) nnM G ad L_3 f_3) → (bn 10 114 y3_1) → (((114 : Int) - y3_1.toInt).toNat = n3) → (DY G A s [] L_3 f_3 H locs) → (lv_has ls 2 [(0, .ref (ad 0 0)), (1, .int y3_1)]) → W p l e (rmD 0 0 0) s m args below meth c H locs (0) (0) (MQ below (va_Qv (fun (u : List Nat × HF) => (fun L1 f1 => SH (spM (IA 0 pl 14 9999 w) pi px LDa) nnM G ad L1 f1) u.1 u.2) (fun u t => pOut G (va_A (va_pl L f) sz) u.1 u.2 t) (va_A (va_pl L f) sz)) args s 0 0 A) (F0 m 3 ls []) := by
    intro n3
    induction n3 using Nat.strongRecOn with
    | _ n3 ih3 =>
      intro y3_1 L_3 f_3 H locs ls I b_y3_1 hm3 Y hl
      refine lv_iload_n hx hb dX12_putBack_3 rfl (lv_at hl 1 rfl) ?_
      refine lv_bipush (v := 114) hx hb dX12_putBack_4 (by decide) ?_
      refine lv_icmp_ge (tgt := 27) hx hb dX12_putBack_6 (by decide) (fun c_28911 => ?_) (fun c_28911 => ?_)
      · have B_28912 : bn 114 114 y3_1 := bn_w (bn_ler c_28911 (show bn 114 114 (114 : Int32) from bn_k (by decide)) b_y3_1) (by decide)
        obtain ⟨g_28914, p_ad_1_0, o_28915⟩ := I.opi (k := 1) (j := 0) (by decide) rfl
        have p_ad_1_0 : pt L_3 f_3 (ad 1 0) (.inl (G.2 0, 10568, .inl g_28914)) := p_ad_1_0
        have o_28916 : (IA 0 pl 14 9999 w) g_28914 := (PBk_end (g := g_28914) (show PBk _ h0 104 _ from by rw [show (104 : Nat) = 114 - 10 from rfl, ← (tn_eq (n := 114) (bn_w B_28912 (by decide)))]; exact o_28915) oh0)
        have I := I.castS (sp' := spM (IA 0 pl 14 9999 w) pi px (EQ h0)) (k := 1) (j := 0) (by decide) p_ad_1_0 (okE_a (g := g_28914) o_28916) pAC
        refine lv_aload_n hx hb dX12_putBack_27 rfl (lv_at hl 0 rfl) ?_
        refine lv_iconst (v := 1) hx hb dX12_putBack_28 (by decide) ?_
        obtain ⟨v_28917, v_28919, v_28921, v_28923, v_28925, v_28927, v_28929, v_28931, v_28932, v_28934, v_28936, v_28938, v_28940, v_28942, v_28944, v_28946, v_28948, v_28950, p_ad_0_0, b_28918, b_28920, b_28922, b_28924, b_28926, b_28928, b_28930, b_28933, b_28935, b_28937, b_28939, b_28941, b_28943, b_28945, b_28947, b_28949, b_28951⟩ := opnM_0 (j := 0) I (by decide)
        have p_ad_0_0 : pt L_3 f_3 (ad 0 0) (.inr (12, [.ref (ad 1 0), .ref (ad 2 0), .ref (ad 3 0), .ref (ad 4 0), .int v_28917, .int v_28919, .int v_28921, .int v_28923, .int v_28925, .int v_28927, .int v_28929, .long v_28931, .int v_28932, .int v_28934, .int v_28936, .ref (ad 5 0), .ref (ad 6 0), .int v_28938, .int v_28940, .int v_28942, .int v_28944, .int v_28946, .ref (ad 7 0), .ref (ad 8 0), .ref (ad 9 0), .int v_28948, .ref (ad 10 0), .ref (ad 11 0), .ref (ad 12 0), .ref (ad 13 0), .int v_28950, .ref (ad 14 0)])) := p_ad_0_0
        refine pg_put S Y ok_X12 25 (by decide) kf12_46 rfl (fs' := [.ref (ad 1 0), .ref (ad 2 0), .ref (ad 3 0), .ref (ad 4 0), .int v_28917, .int v_28919, .int v_28921, .int v_28923, .int v_28925, .int v_28927, .int v_28929, .long v_28931, .int v_28932, .int v_28934, .int v_28936, .ref (ad 5 0), .ref (ad 6 0), .int v_28938, .int v_28940, .int v_28942, .int v_28944, .int v_28946, .ref (ad 7 0), .ref (ad 8 0), .ref (ad 9 0), .int 1, .ref (ad 10 0), .ref (ad 11 0), .ref (ad 12 0), .ref (ad 13 0), .int v_28950, .ref (ad 14 0)]) (v := .int 1) p_ad_0_0 rfl rfl rfl (Nat.le_of_ble_eq_true rfl) dX12_putBack_29 (fun f_28952 H locs ef_28952 Y => ?_)
        have p_ad_1_0 := p_ad_1_0.up ef_28952 (I.ne (k := 1) (j := 0) (k' := 0) (j' := 0) (by decide) (by decide) (Or.inl (by decide)))
        have p_ad_0_0 := p_ad_0_0.me ef_28952
        have I := I.up (k := 0) (j := 0) (by decide) ef_28952 (okE_o (okFs_c okV_r (okFs_c okV_r (okFs_c okV_r (okFs_c okV_r (okFs_c (okV_i b_28918) (okFs_c (okV_i b_28920) (okFs_c (okV_i b_28922) (okFs_c (okV_i b_28924) (okFs_c (okV_i b_28926) (okFs_c (okV_i b_28928) (okFs_c (okV_i b_28930) (okFs_c okV_l (okFs_c (okV_i b_28933) (okFs_c (okV_i b_28935) (okFs_c (okV_i b_28937) (okFs_c okV_r (okFs_c okV_r (okFs_c (okV_i b_28939) (okFs_c (okV_i b_28941) (okFs_c (okV_i b_28943) (okFs_c (okV_i b_28945) (okFs_c (okV_i b_28947) (okFs_c okV_r (okFs_c okV_r (okFs_c okV_r (okFs_c (okV_i (bn_w (show bn 1 1 (1 : Int32) from bn_k (by decide)) (by decide))) (okFs_c okV_r (okFs_c okV_r (okFs_c okV_r (okFs_c okV_r (okFs_c (okV_i b_28951) (okFs_c okV_r okFs_n)))))))))))))))))))))))))))))))))
        exact prV (post := fun L1 f1 => SH (spM (IA 0 pl 14 9999 w) pi px LDa) nnM G ad L1 f1) S Y (by decide) (by decide) hA1 (SHpa I (EQ_to oh0)) dX12_putBack_32
      · have B_28913 : bn 10 113 y3_1 := bn_w (bn_gtr c_28911 (show bn 114 114 (114 : Int32) from bn_k (by decide)) b_y3_1) (by decide)
        refine lv_aload_n hx hb dX12_putBack_9 rfl (lv_at hl 0 rfl) ?_
        obtain ⟨v_28953, v_28955, v_28957, v_28959, v_28961, v_28963, v_28965, v_28967, v_28968, v_28970, v_28972, v_28974, v_28976, v_28978, v_28980, v_28982, v_28984, v_28986, p_ad_0_0, b_28954, b_28956, b_28958, b_28960, b_28962, b_28964, b_28966, b_28969, b_28971, b_28973, b_28975, b_28977, b_28979, b_28981, b_28983, b_28985, b_28987⟩ := opnM_0 (j := 0) I (by decide)
        have p_ad_0_0 : pt L_3 f_3 (ad 0 0) (.inr (12, [.ref (ad 1 0), .ref (ad 2 0), .ref (ad 3 0), .ref (ad 4 0), .int v_28953, .int v_28955, .int v_28957, .int v_28959, .int v_28961, .int v_28963, .int v_28965, .long v_28967, .int v_28968, .int v_28970, .int v_28972, .ref (ad 5 0), .ref (ad 6 0), .int v_28974, .int v_28976, .int v_28978, .int v_28980, .int v_28982, .ref (ad 7 0), .ref (ad 8 0), .ref (ad 9 0), .int v_28984, .ref (ad 10 0), .ref (ad 11 0), .ref (ad 12 0), .ref (ad 13 0), .int v_28986, .ref (ad 14 0)])) := p_ad_0_0
        refine pg_get S Y ok_X12 0 (by decide) kf12_7 (v := .ref (ad 1 0)) p_ad_0_0 rfl dX12_putBack_10 ?_
        refine lv_iload_n hx hb dX12_putBack_13 rfl (lv_at hl 1 rfl) ?_
        refine lv_aload_n hx hb dX12_putBack_14 rfl (lv_at hl 0 rfl) ?_
        refine pg_get S Y ok_X12 27 (by decide) kf12_53 (v := .ref (ad 11 0)) p_ad_0_0 rfl dX12_putBack_15 ?_
        refine lv_iload_n hx hb dX12_putBack_18 rfl (lv_at hl 1 rfl) ?_
        obtain ⟨g_28988, p_ad_11_0, o_28989⟩ := I.opi (k := 11) (j := 0) (by decide) rfl
        have p_ad_11_0 : pt L_3 f_3 (ad 11 0) (.inl (G.2 0, 114, .inl g_28988)) := p_ad_11_0
        obtain ⟨v_28990, ev_28990⟩ : ∃ z, z = g_28988 (y3_1 : Int32).toNatClampNeg := ⟨_, rfl⟩
        refine pg_iald S Y (v := v_28990) p_ad_11_0 (vp_bn B_28913 (by decide)) ev_28990.symm dX12_putBack_19 ?_
        obtain ⟨g_28991, p_ad_1_0, o_28992⟩ := I.opi (k := 1) (j := 0) (by decide) rfl
        have p_ad_1_0 : pt L_3 f_3 (ad 1 0) (.inl (G.2 0, 10568, .inl g_28991)) := p_ad_1_0
        refine pg_iast S Y p_ad_1_0 (vp_bn B_28913 (by decide)) dX12_putBack_20 (fun f_28994 H locs ef_28994 Y => ?_)
        obtain ⟨g_28993, eg_28993⟩ : ∃ z, z = upd (g_28991) (y3_1 : Int32).toNatClampNeg v_28990 := ⟨_, rfl⟩
        rw [← eg_28993] at ef_28994
        have p_ad_0_0 := p_ad_0_0.up ef_28994 (I.ne (k := 0) (j := 0) (k' := 1) (j' := 0) (by decide) (by decide) (Or.inl (by decide)))
        have p_ad_11_0 := p_ad_11_0.up ef_28994 (I.ne (k := 11) (j := 0) (k' := 1) (j' := 0) (by decide) (by decide) (Or.inl (by decide)))
        have p_ad_1_0 := p_ad_1_0.me ef_28994
        have o_28995 : (PBk (IA sl pl oh dh w) h0 (y3_1.toInt.toNat - 10 + 1)) g_28993 := (by rw [eg_28993]; exact PBk_st o_28992 (show y3_1.toNatClampNeg = 10 + (y3_1.toInt.toNat - 10) from by have z := B_28913.1; simp only [tnc]; omega) (by rw [ev_28990, show g_28988 = h0 from o_28989, show y3_1.toNatClampNeg = 10 + (y3_1.toInt.toNat - 10) from by have z := B_28913.1; simp only [tnc]; omega]))
        have I := I.upS (sp' := spM (PBk (IA sl pl oh dh w) h0 (y3_1.toInt.toNat - 10 + 1)) pi px (EQ h0)) (k := 1) (j := 0) (by decide) ef_28994 (okE_a (g := g_28993) o_28995) pAC
        obtain ⟨x_28996, ex_28996⟩ : ∃ z : Int32, z = y3_1 + 1 := ⟨_, rfl⟩
        refine lv_iinc (v := x_28996) (lv' := [(1, .int x_28996), (0, .ref (ad 0 0))]) hx hb dX12_putBack_21 hl (k := 1) rfl (by rw [ex_28996]; rfl) (by decide) rfl (fun ls hl => ?_)
        refine lv_goto (tgt := 3) hx hb dX12_putBack_24 (by decide) ?_
        have I : SH (spM (PBk (IA sl pl oh dh w) h0 ((x_28996 : Int32).toInt.toNat - 10)) pi px (EQ h0)) nnM G ad L_3 f_28994 := by have z9 := (la_add ex_28996 (rfl : y3_1.toInt = y3_1.toInt) (show (1 : Int32).toInt = 1 from rfl) B_28913 (show bn 1 1 (1 : Int32) from bn_k (by decide)) (by decide)); have z8 := (B_28913).1; have e9 : (x_28996 : Int32).toInt.toNat - 10 = y3_1.toInt.toNat - 10 + 1 := (by omega); rw [e9]; exact I
        exact ih3 _ (by rw [← hm3]; exact ms_up (m := 1) ex_28996 (show bn 1 1 (1 : Int32) from bn_k (by decide)) B_28913 (bn_w (bn_eq ex_28996 (bn_add B_28913 (show bn 1 1 (1 : Int32) from bn_k (by decide)) (by decide))) (by decide) : bn 10 114 x_28996) (by decide)) x_28996 _ _  _ _ _ I (bn_w (bn_eq ex_28996 (bn_add B_28913 (show bn 1 1 (1 : Int32) from bn_k (by decide)) (by decide))) (by decide)) rfl Y (lv_sub hl [1, 0] rfl)
  refine lv_bipush (v := 10) hx hb dX12_putBack_0 (by decide) ?_
  refine lv_istore_n (lv' := [(1, .int 10), (0, .ref (ad 0 0))]) hx hb dX12_putBack_2 rfl hl (by decide) rfl (fun ls hl => ?_)
  obtain ⟨g_28997, p_ad_1_0, o_28998⟩ := I.opi (k := 1) (j := 0) (by decide) rfl
  have p_ad_1_0 : pt L f (ad 1 0) (.inl (G.2 0, 10568, .inl g_28997)) := p_ad_1_0
  have o_28999 : (PBk (IA sl pl oh dh w) h0 ((10 : Int32).toInt.toNat - 10)) g_28997 := (PBk_0 o_28998)
  have I := I.castS (sp' := spM (PBk (IA sl pl oh dh w) h0 ((10 : Int32).toInt.toNat - 10)) pi px (EQ h0)) (k := 1) (j := 0) (by decide) p_ad_1_0 (okE_a (g := g_28997) o_28999) pAC
  exact J_3 _ 10 _ _  _ _ _ I (bn_w (show bn 10 10 (10 : Int32) from bn_k (by decide)) (by decide)) rfl Y (lv_sub hl [1, 0] rfl)
set_option maxHeartbeats 4000000 in
set_option maxRecDepth 100000 in
theorem x_X12_copy_image {l : Launch} {G : GG}  {L : List Nat} {f : HF} {ad : Nat → Nat → Nat} {pl : Int} {oh : Int} {dh : Int} {w : Int × Int} {pi : (Nat → Int32) → Prop} {px : (Nat → Int32) → Prop} {pa : (Nat → Int32) → Prop} (I : SH (spM (IA 0 pl oh dh w) pi px pa) nnM G ad L f) (hB : BBp 0 pl oh dh w) : PMv l yX12_copy cX12_copy 3 0 0 0 G [.ref (ad 1 0), .ref (ad 2 0)] L f (fun L1 f1 => SH (spM (IA 0 pl oh dh w) (IA 0 pl oh dh w) px pa) nnM G ad L1 f1) := by
  refine PMv.of (post := fun L1 f1 => SH (spM (IA 0 pl oh dh w) (IA 0 pl oh dh w) px pa) nnM G ad L1 f1) (own := RX12) (by decide) rfl (Nat.le_of_ble_eq_true rfl) (fun sz p e s m args below meth c A ls hA1 hname S Y hl => ?_)
  have hx := S.hx
  have hb := S.hb
  have hl : lv_has ls 3 [(0, .ref (ad 1 0)), (1, .ref (ad 2 0))] := hl
  obtain ⟨ga, pga, oga⟩ := I.opi (k := 1) (j := 0) (by decide) rfl
  have I := I.castS (sp' := spM (EQ ga) pi px pa) (k := 1) (j := 0) (by decide) pga (okE_a (g := ga) (rfl : EQ ga ga)) pAC
  have J_2 : ∀ (n2 : Nat) (y2_2 : Int32) (L_2 : List Nat) (f_2 : HF) (H : Heap) (locs : List Loc) (ls : Array Slot), (SH (spM (EQ ga) (CPk ga y2_2.toInt.toNat) px pa) nnM G ad L_2 f_2) → (bn 0 10568 y2_2) → (((10568 : Int) - y2_2.toInt).toNat = n2) → (DY G A s [] L_2 f_2 H locs) → (lv_has ls 3 [(0, .ref (ad 1 0)), (1, .ref (ad 2 0)), (2, .int y2_2)]) → W p l e (rmD 0 0 0) s m args below meth c H locs (0) (0) (MQ below (va_Qv (fun (u : List Nat × HF) => (fun L1 f1 => SH (spM (IA 0 pl oh dh w) (IA 0 pl oh dh w) px pa) nnM G ad L1 f1) u.1 u.2) (fun u t => pOut G (va_A (va_pl L f) sz) u.1 u.2 t) (va_A (va_pl L f) sz)) args s 0 0 A) (F0 m 2 ls []) := by
    intro n2
    induction n2 using Nat.strongRecOn with
    | _ n2 ih2 =>
      intro y2_2 L_2 f_2 H locs ls I b_y2_2 hm2 Y hl
      refine lv_iload_n hx hb dX12_copy_2 rfl (lv_at hl 2 rfl) ?_
      refine lv_sipush (v := 10568) hx hb dX12_copy_3 (by decide) ?_
      refine lv_icmp_ge (tgt := 21) hx hb dX12_copy_6 (by decide) (fun c_29471 => ?_) (fun c_29471 => ?_)
      · have B_29472 : bn 10568 10568 y2_2 := bn_w (bn_ler c_29471 (show bn 10568 10568 (10568 : Int32) from bn_k (by decide)) b_y2_2) (by decide)
        obtain ⟨g_29474, p_ad_2_0, o_29475⟩ := I.opi (k := 2) (j := 0) (by decide) rfl
        have p_ad_2_0 : pt L_2 f_2 (ad 2 0) (.inl (G.2 0, 10568, .inl g_29474)) := p_ad_2_0
        have o_29476 : (IA 0 pl oh dh w) g_29474 := (CPk_end (h := g_29474) (show CPk ga 10568 _ from by rw [← (tn_eq (n := 10568) (bn_w B_29472 (by decide)))]; exact o_29475) oga)
        have I := I.castS (sp' := spM (EQ ga) (IA 0 pl oh dh w) px pa) (k := 2) (j := 0) (by decide) p_ad_2_0 (okE_a (g := g_29474) o_29476) pIC
        exact prV (post := fun L1 f1 => SH (spM (IA 0 pl oh dh w) (IA 0 pl oh dh w) px pa) nnM G ad L1 f1) S Y (by decide) (by decide) hA1 (SHpA I (EQ_to oga)) dX12_copy_21
      · have B_29473 : bn 0 10567 y2_2 := bn_w (bn_gtr c_29471 (show bn 10568 10568 (10568 : Int32) from bn_k (by decide)) b_y2_2) (by decide)
        refine lv_aload_n hx hb dX12_copy_9 rfl (lv_at hl 1 rfl) ?_
        refine lv_iload_n hx hb dX12_copy_10 rfl (lv_at hl 2 rfl) ?_
        refine lv_aload_n hx hb dX12_copy_11 rfl (lv_at hl 0 rfl) ?_
        refine lv_iload_n hx hb dX12_copy_12 rfl (lv_at hl 2 rfl) ?_
        obtain ⟨g_29477, p_ad_1_0, o_29478⟩ := I.opi (k := 1) (j := 0) (by decide) rfl
        have p_ad_1_0 : pt L_2 f_2 (ad 1 0) (.inl (G.2 0, 10568, .inl g_29477)) := p_ad_1_0
        obtain ⟨v_29479, ev_29479⟩ : ∃ z, z = g_29477 (y2_2 : Int32).toNatClampNeg := ⟨_, rfl⟩
        refine pg_iald S Y (v := v_29479) p_ad_1_0 (vp_bn B_29473 (by decide)) ev_29479.symm dX12_copy_13 ?_
        obtain ⟨g_29480, p_ad_2_0, o_29481⟩ := I.opi (k := 2) (j := 0) (by decide) rfl
        have p_ad_2_0 : pt L_2 f_2 (ad 2 0) (.inl (G.2 0, 10568, .inl g_29480)) := p_ad_2_0
        refine pg_iast S Y p_ad_2_0 (vp_bn B_29473 (by decide)) dX12_copy_14 (fun f_29483 H locs ef_29483 Y => ?_)
        obtain ⟨g_29482, eg_29482⟩ : ∃ z, z = upd (g_29480) (y2_2 : Int32).toNatClampNeg v_29479 := ⟨_, rfl⟩
        rw [← eg_29482] at ef_29483
        have p_ad_1_0 := p_ad_1_0.up ef_29483 (I.ne (k := 1) (j := 0) (k' := 2) (j' := 0) (by decide) (by decide) (Or.inl (by decide)))
        have p_ad_2_0 := p_ad_2_0.me ef_29483
        have o_29484 : (CPk ga (y2_2.toInt.toNat + 1)) g_29482 := (by rw [eg_29482]; exact CPk_st o_29481 (tnc y2_2) (by rw [ev_29479, show g_29477 = ga from o_29478]; rfl))
        have I := I.upS (sp' := spM (EQ ga) (CPk ga (y2_2.toInt.toNat + 1)) px pa) (k := 2) (j := 0) (by decide) ef_29483 (okE_a (g := g_29482) o_29484) pIC
        obtain ⟨x_29485, ex_29485⟩ : ∃ z : Int32, z = y2_2 + 1 := ⟨_, rfl⟩
        refine lv_iinc (v := x_29485) (lv' := [(2, .int x_29485), (0, .ref (ad 1 0)), (1, .ref (ad 2 0))]) hx hb dX12_copy_15 hl (k := 2) rfl (by rw [ex_29485]; rfl) (by decide) rfl (fun ls hl => ?_)
        refine lv_goto (tgt := 2) hx hb dX12_copy_18 (by decide) ?_
        have I : SH (spM (EQ ga) (CPk ga (x_29485 : Int32).toInt.toNat) px pa) nnM G ad L_2 f_29483 := by have z9 := (la_add ex_29485 (rfl : y2_2.toInt = y2_2.toInt) (show (1 : Int32).toInt = 1 from rfl) B_29473 (show bn 1 1 (1 : Int32) from bn_k (by decide)) (by decide)); have z8 := (B_29473).1; have e9 : (x_29485 : Int32).toInt.toNat = y2_2.toInt.toNat + 1 := (by omega); rw [e9]; exact I
        exact ih2 _ (by rw [← hm2]; exact ms_up (m := 1) ex_29485 (show bn 1 1 (1 : Int32) from bn_k (by decide)) B_29473 (bn_w (bn_eq ex_29485 (bn_add B_29473 (show bn 1 1 (1 : Int32) from bn_k (by decide)) (by decide))) (by decide) : bn 0 10568 x_29485) (by decide)) x_29485 _ _  _ _ _ I (bn_w (bn_eq ex_29485 (bn_add B_29473 (show bn 1 1 (1 : Int32) from bn_k (by decide)) (by decide))) (by decide)) rfl Y (lv_sub hl [1, 2, 0] rfl)
  refine lv_iconst (v := 0) hx hb dX12_copy_0 (by decide) ?_
  refine lv_istore_n (lv' := [(2, .int 0), (0, .ref (ad 1 0)), (1, .ref (ad 2 0))]) hx hb dX12_copy_1 rfl hl (by decide) rfl (fun ls hl => ?_)
  obtain ⟨g_29486, p_ad_2_0, o_29487⟩ := I.opi (k := 2) (j := 0) (by decide) rfl
  have p_ad_2_0 : pt L f (ad 2 0) (.inl (G.2 0, 10568, .inl g_29486)) := p_ad_2_0
  have o_29488 : (CPk ga (0 : Int32).toInt.toNat) g_29486 := (fun j hj => absurd hj (Nat.not_lt_zero j))
  have I := I.castS (sp' := spM (EQ ga) (CPk ga (0 : Int32).toInt.toNat) px pa) (k := 2) (j := 0) (by decide) p_ad_2_0 (okE_a (g := g_29486) o_29488) pIC
  exact J_2 _ 0 _ _  _ _ _ I (bn_w (show bn 0 0 (0 : Int32) from bn_k (by decide)) (by decide)) rfl Y (lv_sub hl [1, 2, 0] rfl)
set_option maxHeartbeats 4000000 in
set_option maxRecDepth 100000 in
theorem x_X12_copy_back {l : Launch} {G : GG}  {L : List Nat} {f : HF} {ad : Nat → Nat → Nat} {sl : Int} {pl : Int} {oh : Int} {dh : Int} {w : Int × Int} {w2 : Int × Int} {px : (Nat → Int32) → Prop} {pa : (Nat → Int32) → Prop} (I : SH (spM (IA sl pl oh dh w) (IA 0 0 14 9999 w2) px pa) nnM G ad L f) (hB : BBp sl pl oh dh w) : PMv l yX12_copy cX12_copy 3 0 0 0 G [.ref (ad 2 0), .ref (ad 1 0)] L f (fun L1 f1 => SH (spM (IA 0 0 14 9999 w2) (IA 0 0 14 9999 w2) px pa) nnM G ad L1 f1) := by
  refine PMv.of (post := fun L1 f1 => SH (spM (IA 0 0 14 9999 w2) (IA 0 0 14 9999 w2) px pa) nnM G ad L1 f1) (own := RX12) (by decide) rfl (Nat.le_of_ble_eq_true rfl) (fun sz p e s m args below meth c A ls hA1 hname S Y hl => ?_)
  have hx := S.hx
  have hb := S.hb
  have hl : lv_has ls 3 [(0, .ref (ad 2 0)), (1, .ref (ad 1 0))] := hl
  obtain ⟨ga, pga, oga⟩ := I.opi (k := 2) (j := 0) (by decide) rfl
  have I := I.castS (sp' := spM (IA sl pl oh dh w) (EQ ga) px pa) (k := 2) (j := 0) (by decide) pga (okE_a (g := ga) (rfl : EQ ga ga)) pIC
  have J_2 : ∀ (n2 : Nat) (y2_2 : Int32) (L_2 : List Nat) (f_2 : HF) (H : Heap) (locs : List Loc) (ls : Array Slot), (SH (spM (CPk ga y2_2.toInt.toNat) (EQ ga) px pa) nnM G ad L_2 f_2) → (bn 0 10568 y2_2) → (((10568 : Int) - y2_2.toInt).toNat = n2) → (DY G A s [] L_2 f_2 H locs) → (lv_has ls 3 [(0, .ref (ad 2 0)), (1, .ref (ad 1 0)), (2, .int y2_2)]) → W p l e (rmD 0 0 0) s m args below meth c H locs (0) (0) (MQ below (va_Qv (fun (u : List Nat × HF) => (fun L1 f1 => SH (spM (IA 0 0 14 9999 w2) (IA 0 0 14 9999 w2) px pa) nnM G ad L1 f1) u.1 u.2) (fun u t => pOut G (va_A (va_pl L f) sz) u.1 u.2 t) (va_A (va_pl L f) sz)) args s 0 0 A) (F0 m 2 ls []) := by
    intro n2
    induction n2 using Nat.strongRecOn with
    | _ n2 ih2 =>
      intro y2_2 L_2 f_2 H locs ls I b_y2_2 hm2 Y hl
      refine lv_iload_n hx hb dX12_copy_2 rfl (lv_at hl 2 rfl) ?_
      refine lv_sipush (v := 10568) hx hb dX12_copy_3 (by decide) ?_
      refine lv_icmp_ge (tgt := 21) hx hb dX12_copy_6 (by decide) (fun c_29960 => ?_) (fun c_29960 => ?_)
      · have B_29961 : bn 10568 10568 y2_2 := bn_w (bn_ler c_29960 (show bn 10568 10568 (10568 : Int32) from bn_k (by decide)) b_y2_2) (by decide)
        obtain ⟨g_29963, p_ad_1_0, o_29964⟩ := I.opi (k := 1) (j := 0) (by decide) rfl
        have p_ad_1_0 : pt L_2 f_2 (ad 1 0) (.inl (G.2 0, 10568, .inl g_29963)) := p_ad_1_0
        have o_29965 : (IA 0 0 14 9999 w2) g_29963 := (CPk_end (h := g_29963) (show CPk ga 10568 _ from by rw [← (tn_eq (n := 10568) (bn_w B_29961 (by decide)))]; exact o_29964) oga)
        have I := I.castS (sp' := spM (IA 0 0 14 9999 w2) (EQ ga) px pa) (k := 1) (j := 0) (by decide) p_ad_1_0 (okE_a (g := g_29963) o_29965) pAC
        exact prV (post := fun L1 f1 => SH (spM (IA 0 0 14 9999 w2) (IA 0 0 14 9999 w2) px pa) nnM G ad L1 f1) S Y (by decide) (by decide) hA1 (SHpI I (EQ_to oga)) dX12_copy_21
      · have B_29962 : bn 0 10567 y2_2 := bn_w (bn_gtr c_29960 (show bn 10568 10568 (10568 : Int32) from bn_k (by decide)) b_y2_2) (by decide)
        refine lv_aload_n hx hb dX12_copy_9 rfl (lv_at hl 1 rfl) ?_
        refine lv_iload_n hx hb dX12_copy_10 rfl (lv_at hl 2 rfl) ?_
        refine lv_aload_n hx hb dX12_copy_11 rfl (lv_at hl 0 rfl) ?_
        refine lv_iload_n hx hb dX12_copy_12 rfl (lv_at hl 2 rfl) ?_
        obtain ⟨g_29966, p_ad_2_0, o_29967⟩ := I.opi (k := 2) (j := 0) (by decide) rfl
        have p_ad_2_0 : pt L_2 f_2 (ad 2 0) (.inl (G.2 0, 10568, .inl g_29966)) := p_ad_2_0
        obtain ⟨v_29968, ev_29968⟩ : ∃ z, z = g_29966 (y2_2 : Int32).toNatClampNeg := ⟨_, rfl⟩
        refine pg_iald S Y (v := v_29968) p_ad_2_0 (vp_bn B_29962 (by decide)) ev_29968.symm dX12_copy_13 ?_
        obtain ⟨g_29969, p_ad_1_0, o_29970⟩ := I.opi (k := 1) (j := 0) (by decide) rfl
        have p_ad_1_0 : pt L_2 f_2 (ad 1 0) (.inl (G.2 0, 10568, .inl g_29969)) := p_ad_1_0
        refine pg_iast S Y p_ad_1_0 (vp_bn B_29962 (by decide)) dX12_copy_14 (fun f_29972 H locs ef_29972 Y => ?_)
        obtain ⟨g_29971, eg_29971⟩ : ∃ z, z = upd (g_29969) (y2_2 : Int32).toNatClampNeg v_29968 := ⟨_, rfl⟩
        rw [← eg_29971] at ef_29972
        have p_ad_2_0 := p_ad_2_0.up ef_29972 (I.ne (k := 2) (j := 0) (k' := 1) (j' := 0) (by decide) (by decide) (Or.inl (by decide)))
        have p_ad_1_0 := p_ad_1_0.me ef_29972
        have o_29973 : (CPk ga (y2_2.toInt.toNat + 1)) g_29971 := (by rw [eg_29971]; exact CPk_st o_29970 (tnc y2_2) (by rw [ev_29968, show g_29966 = ga from o_29967]; rfl))
        have I := I.upS (sp' := spM (CPk ga (y2_2.toInt.toNat + 1)) (EQ ga) px pa) (k := 1) (j := 0) (by decide) ef_29972 (okE_a (g := g_29971) o_29973) pAC
        obtain ⟨x_29974, ex_29974⟩ : ∃ z : Int32, z = y2_2 + 1 := ⟨_, rfl⟩
        refine lv_iinc (v := x_29974) (lv' := [(2, .int x_29974), (0, .ref (ad 2 0)), (1, .ref (ad 1 0))]) hx hb dX12_copy_15 hl (k := 2) rfl (by rw [ex_29974]; rfl) (by decide) rfl (fun ls hl => ?_)
        refine lv_goto (tgt := 2) hx hb dX12_copy_18 (by decide) ?_
        have I : SH (spM (CPk ga (x_29974 : Int32).toInt.toNat) (EQ ga) px pa) nnM G ad L_2 f_29972 := by have z9 := (la_add ex_29974 (rfl : y2_2.toInt = y2_2.toInt) (show (1 : Int32).toInt = 1 from rfl) B_29962 (show bn 1 1 (1 : Int32) from bn_k (by decide)) (by decide)); have z8 := (B_29962).1; have e9 : (x_29974 : Int32).toInt.toNat = y2_2.toInt.toNat + 1 := (by omega); rw [e9]; exact I
        exact ih2 _ (by rw [← hm2]; exact ms_up (m := 1) ex_29974 (show bn 1 1 (1 : Int32) from bn_k (by decide)) B_29962 (bn_w (bn_eq ex_29974 (bn_add B_29962 (show bn 1 1 (1 : Int32) from bn_k (by decide)) (by decide))) (by decide) : bn 0 10568 x_29974) (by decide)) x_29974 _ _  _ _ _ I (bn_w (bn_eq ex_29974 (bn_add B_29962 (show bn 1 1 (1 : Int32) from bn_k (by decide)) (by decide))) (by decide)) rfl Y (lv_sub hl [1, 2, 0] rfl)
  refine lv_iconst (v := 0) hx hb dX12_copy_0 (by decide) ?_
  refine lv_istore_n (lv' := [(2, .int 0), (0, .ref (ad 2 0)), (1, .ref (ad 1 0))]) hx hb dX12_copy_1 rfl hl (by decide) rfl (fun ls hl => ?_)
  obtain ⟨g_29975, p_ad_1_0, o_29976⟩ := I.opi (k := 1) (j := 0) (by decide) rfl
  have p_ad_1_0 : pt L f (ad 1 0) (.inl (G.2 0, 10568, .inl g_29975)) := p_ad_1_0
  have o_29977 : (CPk ga (0 : Int32).toInt.toNat) g_29975 := (fun j hj => absurd hj (Nat.not_lt_zero j))
  have I := I.castS (sp' := spM (CPk ga (0 : Int32).toInt.toNat) (EQ ga) px pa) (k := 1) (j := 0) (by decide) p_ad_1_0 (okE_a (g := g_29975) o_29977) pAC
  exact J_2 _ 0 _ _  _ _ _ I (bn_w (show bn 0 0 (0 : Int32) from bn_k (by decide)) (by decide)) rfl Y (lv_sub hl [1, 2, 0] rfl)
