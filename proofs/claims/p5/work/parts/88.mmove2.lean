theorem dX12_undo_0 : decode cX12_undo 0 = .ok (.aload_n 0, 1) := by decide +kernel
theorem dX12_undo_1 : decode cX12_undo 1 = .ok (.getfield 7, 3) := by decide +kernel
theorem dX12_undo_4 : decode cX12_undo 4 = .ok (.iconst 3, 1) := by decide +kernel
theorem dX12_undo_5 : decode cX12_undo 5 = .ok (.iaload, 1) := by decide +kernel
theorem dX12_undo_6 : decode cX12_undo 6 = .ok (.ifCond .ne 5, 3) := by decide +kernel
theorem dX12_undo_11 : decode cX12_undo 11 = .ok (.aload_n 0, 1) := by decide +kernel
theorem dX12_undo_12 : decode cX12_undo 12 = .ok (.getfield 7, 3) := by decide +kernel
theorem dX12_undo_15 : decode cX12_undo 15 = .ok (.iconst 3, 1) := by decide +kernel
theorem dX12_undo_16 : decode cX12_undo 16 = .ok (.dup2, 1) := by decide +kernel
theorem dX12_undo_17 : decode cX12_undo 17 = .ok (.iaload, 1) := by decide +kernel
theorem dX12_undo_18 : decode cX12_undo 18 = .ok (.iconst 1, 1) := by decide +kernel
theorem dX12_undo_19 : decode cX12_undo 19 = .ok (.isub, 1) := by decide +kernel
theorem dX12_undo_20 : decode cX12_undo 20 = .ok (.iastore, 1) := by decide +kernel
theorem dX12_undo_21 : decode cX12_undo 21 = .ok (.sipush 208, 3) := by decide +kernel
theorem dX12_undo_24 : decode cX12_undo 24 = .ok (.bipush 104, 2) := by decide +kernel
theorem dX12_undo_26 : decode cX12_undo 26 = .ok (.aload_n 0, 1) := by decide +kernel
theorem dX12_undo_27 : decode cX12_undo 27 = .ok (.getfield 7, 3) := by decide +kernel
theorem dX12_undo_30 : decode cX12_undo 30 = .ok (.iconst 3, 1) := by decide +kernel
theorem dX12_undo_31 : decode cX12_undo 31 = .ok (.iaload, 1) := by decide +kernel
theorem dX12_undo_32 : decode cX12_undo 32 = .ok (.imul, 1) := by decide +kernel
theorem dX12_undo_33 : decode cX12_undo 33 = .ok (.iadd, 1) := by decide +kernel
theorem dX12_undo_34 : decode cX12_undo 34 = .ok (.istore_n 1, 1) := by decide +kernel
theorem dX12_undo_35 : decode cX12_undo 35 = .ok (.iconst 0, 1) := by decide +kernel
theorem dX12_undo_36 : decode cX12_undo 36 = .ok (.istore_n 2, 1) := by decide +kernel
theorem dX12_undo_9 : decode cX12_undo 9 = .ok (.iconst (-1), 1) := by decide +kernel
theorem dX12_undo_10 : decode cX12_undo 10 = .ok (.ireturn, 1) := by decide +kernel
theorem dX12_undo_37 : decode cX12_undo 37 = .ok (.iload_n 2, 1) := by decide +kernel
theorem dX12_undo_38 : decode cX12_undo 38 = .ok (.bipush 104, 2) := by decide +kernel
theorem dX12_undo_40 : decode cX12_undo 40 = .ok (.if_icmp .ge 26, 3) := by decide +kernel
theorem dX12_undo_43 : decode cX12_undo 43 = .ok (.aload_n 0, 1) := by decide +kernel
theorem dX12_undo_44 : decode cX12_undo 44 = .ok (.getfield 7, 3) := by decide +kernel
theorem dX12_undo_47 : decode cX12_undo 47 = .ok (.bipush 10, 2) := by decide +kernel
theorem dX12_undo_49 : decode cX12_undo 49 = .ok (.iload_n 2, 1) := by decide +kernel
theorem dX12_undo_50 : decode cX12_undo 50 = .ok (.iadd, 1) := by decide +kernel
theorem dX12_undo_51 : decode cX12_undo 51 = .ok (.aload_n 0, 1) := by decide +kernel
theorem dX12_undo_52 : decode cX12_undo 52 = .ok (.getfield 7, 3) := by decide +kernel
theorem dX12_undo_55 : decode cX12_undo 55 = .ok (.iload_n 1, 1) := by decide +kernel
theorem dX12_undo_56 : decode cX12_undo 56 = .ok (.iload_n 2, 1) := by decide +kernel
theorem dX12_undo_57 : decode cX12_undo 57 = .ok (.iadd, 1) := by decide +kernel
theorem dX12_undo_58 : decode cX12_undo 58 = .ok (.iaload, 1) := by decide +kernel
theorem dX12_undo_59 : decode cX12_undo 59 = .ok (.iastore, 1) := by decide +kernel
theorem dX12_undo_60 : decode cX12_undo 60 = .ok (.iinc 2 1, 3) := by decide +kernel
theorem dX12_undo_63 : decode cX12_undo 63 = .ok (.goto (-26), 3) := by decide +kernel
theorem dX12_undo_66 : decode cX12_undo 66 = .ok (.aload_n 0, 1) := by decide +kernel
theorem dX12_undo_67 : decode cX12_undo 67 = .ok (.getfield 7, 3) := by decide +kernel
theorem dX12_undo_70 : decode cX12_undo 70 = .ok (.iconst 3, 1) := by decide +kernel
theorem dX12_undo_71 : decode cX12_undo 71 = .ok (.iaload, 1) := by decide +kernel
theorem dX12_undo_72 : decode cX12_undo 72 = .ok (.ireturn, 1) := by decide +kernel
theorem dX12_setAside_0 : decode cX12_setAside 0 = .ok (.bipush 10, 2) := by decide +kernel
theorem dX12_setAside_2 : decode cX12_setAside 2 = .ok (.istore_n 1, 1) := by decide +kernel
theorem dX12_setAside_3 : decode cX12_setAside 3 = .ok (.iload_n 1, 1) := by decide +kernel
theorem dX12_setAside_4 : decode cX12_setAside 4 = .ok (.bipush 114, 2) := by decide +kernel
theorem dX12_setAside_6 : decode cX12_setAside 6 = .ok (.if_icmp .ge 21, 3) := by decide +kernel
theorem dX12_setAside_9 : decode cX12_setAside 9 = .ok (.aload_n 0, 1) := by decide +kernel
theorem dX12_setAside_10 : decode cX12_setAside 10 = .ok (.getfield 53, 3) := by decide +kernel
theorem kf12_53 : inW (Cond.fieldLink RX12 53 "KneeOathsModel" "aside" "[I") := ⟨List.mem_of_getElem? (i := 1525) (by decide +kernel), by decide +kernel⟩
theorem dX12_setAside_13 : decode cX12_setAside 13 = .ok (.iload_n 1, 1) := by decide +kernel
theorem dX12_setAside_14 : decode cX12_setAside 14 = .ok (.aload_n 0, 1) := by decide +kernel
theorem dX12_setAside_15 : decode cX12_setAside 15 = .ok (.getfield 7, 3) := by decide +kernel
theorem dX12_setAside_18 : decode cX12_setAside 18 = .ok (.iload_n 1, 1) := by decide +kernel
theorem dX12_setAside_19 : decode cX12_setAside 19 = .ok (.iaload, 1) := by decide +kernel
theorem dX12_setAside_20 : decode cX12_setAside 20 = .ok (.iastore, 1) := by decide +kernel
theorem dX12_setAside_21 : decode cX12_setAside 21 = .ok (.iinc 1 1, 3) := by decide +kernel
theorem dX12_setAside_24 : decode cX12_setAside 24 = .ok (.goto (-21), 3) := by decide +kernel
theorem dX12_setAside_27 : decode cX12_setAside 27 = .ok (.aload_n 0, 1) := by decide +kernel
theorem dX12_setAside_28 : decode cX12_setAside 28 = .ok (.iconst 0, 1) := by decide +kernel
theorem dX12_setAside_29 : decode cX12_setAside 29 = .ok (.putfield 46, 3) := by decide +kernel
theorem dX12_setAside_32 : decode cX12_setAside 32 = .ok (.return_, 1) := by decide +kernel
theorem dX12_putBack_0 : decode cX12_putBack 0 = .ok (.bipush 10, 2) := by decide +kernel
theorem dX12_putBack_2 : decode cX12_putBack 2 = .ok (.istore_n 1, 1) := by decide +kernel
theorem dX12_putBack_3 : decode cX12_putBack 3 = .ok (.iload_n 1, 1) := by decide +kernel
theorem dX12_putBack_4 : decode cX12_putBack 4 = .ok (.bipush 114, 2) := by decide +kernel
theorem dX12_putBack_6 : decode cX12_putBack 6 = .ok (.if_icmp .ge 21, 3) := by decide +kernel
theorem dX12_putBack_9 : decode cX12_putBack 9 = .ok (.aload_n 0, 1) := by decide +kernel
theorem dX12_putBack_10 : decode cX12_putBack 10 = .ok (.getfield 7, 3) := by decide +kernel
theorem dX12_putBack_13 : decode cX12_putBack 13 = .ok (.iload_n 1, 1) := by decide +kernel
theorem dX12_putBack_14 : decode cX12_putBack 14 = .ok (.aload_n 0, 1) := by decide +kernel
theorem dX12_putBack_15 : decode cX12_putBack 15 = .ok (.getfield 53, 3) := by decide +kernel
theorem dX12_putBack_18 : decode cX12_putBack 18 = .ok (.iload_n 1, 1) := by decide +kernel
theorem dX12_putBack_19 : decode cX12_putBack 19 = .ok (.iaload, 1) := by decide +kernel
theorem dX12_putBack_20 : decode cX12_putBack 20 = .ok (.iastore, 1) := by decide +kernel
theorem dX12_putBack_21 : decode cX12_putBack 21 = .ok (.iinc 1 1, 3) := by decide +kernel
theorem dX12_putBack_24 : decode cX12_putBack 24 = .ok (.goto (-21), 3) := by decide +kernel
theorem dX12_putBack_27 : decode cX12_putBack 27 = .ok (.aload_n 0, 1) := by decide +kernel
theorem dX12_putBack_28 : decode cX12_putBack 28 = .ok (.iconst 1, 1) := by decide +kernel
theorem dX12_putBack_29 : decode cX12_putBack 29 = .ok (.putfield 46, 3) := by decide +kernel
theorem dX12_putBack_32 : decode cX12_putBack 32 = .ok (.return_, 1) := by decide +kernel
theorem dX12_copy_0 : decode cX12_copy 0 = .ok (.iconst 0, 1) := by decide +kernel
theorem dX12_copy_1 : decode cX12_copy 1 = .ok (.istore_n 2, 1) := by decide +kernel
theorem dX12_copy_2 : decode cX12_copy 2 = .ok (.iload_n 2, 1) := by decide +kernel
theorem dX12_copy_3 : decode cX12_copy 3 = .ok (.sipush 10568, 3) := by decide +kernel
theorem dX12_copy_6 : decode cX12_copy 6 = .ok (.if_icmp .ge 15, 3) := by decide +kernel
theorem dX12_copy_9 : decode cX12_copy 9 = .ok (.aload_n 1, 1) := by decide +kernel
theorem dX12_copy_10 : decode cX12_copy 10 = .ok (.iload_n 2, 1) := by decide +kernel
theorem dX12_copy_11 : decode cX12_copy 11 = .ok (.aload_n 0, 1) := by decide +kernel
theorem dX12_copy_12 : decode cX12_copy 12 = .ok (.iload_n 2, 1) := by decide +kernel
theorem dX12_copy_13 : decode cX12_copy 13 = .ok (.iaload, 1) := by decide +kernel
theorem dX12_copy_14 : decode cX12_copy 14 = .ok (.iastore, 1) := by decide +kernel
theorem dX12_copy_15 : decode cX12_copy 15 = .ok (.iinc 2 1, 3) := by decide +kernel
theorem dX12_copy_18 : decode cX12_copy 18 = .ok (.goto (-16), 3) := by decide +kernel
theorem dX12_copy_21 : decode cX12_copy 21 = .ok (.return_, 1) := by decide +kernel
section PAR
variable {G : GG} {L : List Nat} {f : HF} {ad : Nat → Nat → Nat} {PA PX pa PA2 PX2 pa2 gp2 gp3 zT : (Nat → Int32) → Prop} {PI : PIT} {zL zF zQ : Int × Int} {j : Nat} {sl pl oh dh : Int} {w : WW}
theorem SHpa (I : SH (spM PA PI PX pa) nnM G ad L f) (h : ∀ g, pa g → pa2 g) : SH (spM PA PI PX pa2) nnM G ad L f := by
  obtain ⟨g, p, o⟩ := I.opi (k := 11) (j := 0) (by decide) rfl
  exact I.castS (k := 11) (j := 0) (by decide) p (okE_a (g := g) (h g o)) paC
theorem SHpI (I : SH (spM PA ((gp2, zL, zF, zQ, zT) : PIT) PX pa) nnM G ad L f) (h : ∀ g, gp2 g → gp3 g) : SH (spM PA ((gp3, zL, zF, zQ, zT) : PIT) PX pa) nnM G ad L f := by
  obtain ⟨g, p, o⟩ := I.opi (k := 2) (j := 0) (by decide) rfl
  exact I.castS (k := 2) (j := 0) (by decide) p (okE_a (g := g) (h g o)) pIC
theorem SHpX (I : SH (spM PA PI PX pa) nnM G ad L f) (h : ∀ g, PX g → PX2 g) : SH (spM PA PI PX2 pa) nnM G ad L f := by
  obtain ⟨g, p, o⟩ := I.opi (k := 3) (j := 0) (by decide) rfl
  exact I.castS (k := 3) (j := 0) (by decide) p (okE_a (g := g) (h g o)) pXC
theorem BB_std (h : BBp sl pl oh dh w) : BBp 0 pl 14 9999 w := by unfold BBp at *; omega
theorem EQ_to {Q : (Nat → Int32) → Prop} {ga : Nat → Int32} (h : Q ga) : ∀ g, EQ ga g → Q g := fun g e => by rw [show g = ga from e]; exact h
end PAR
theorem IA_std {sl pl oh dh : Int} {w : WW} {g : Nat → Int32} (h : IA sl pl oh dh w g) (q2 : oh ≤ 14) (q3 : dh ≤ 9999) (q1 : sl ≤ 0) : IA 0 pl 14 9999 w g := IA_b h (fun _ _ => rfl) (fun _ _ _ _ => rfl) (LD_w (IA_ld h) q1 q2 q3)
set_option maxHeartbeats 4000000 in
set_option maxRecDepth 100000 in
theorem x_X12_undo {l : Launch} {G : GG}  {L : List Nat} {f : HF} {ad : Nat → Nat → Nat} {sl : Int} {pl : Int} {oh : Int} {dh : Int} {w : WW} {pi : PIT} {px : (Nat → Int32) → Prop} {pa : (Nat → Int32) → Prop} (I : SH (spM (IA sl pl oh dh w) pi px pa) nnM G ad L f) (hB : BBp sl pl oh dh w) (hsl : sl ≤ 0) : PMi l yX12_undo cX12_undo 3 .int 0 0 0 G [.ref (ad 0 0)] L f (fun r L1 f1 => SH (spM (IA 0 pl 14 9999 w) pi px pa) nnM G ad L1 f1) := by
  refine PMi.of (post := fun r L1 f1 => SH (spM (IA 0 pl 14 9999 w) pi px pa) nnM G ad L1 f1) (own := RX12) (by decide) rfl (Nat.le_of_ble_eq_true rfl) (fun sz p e s m args below meth c A ls hA1 hname S Y hl => ?_)
  have hx := S.hx
  have hb := S.hb
  have hl : lv_has ls 3 [(0, .ref (ad 0 0))] := hl
  have J_37 : ∀ (n37 : Nat) (y37_1 y37_2 : Int32) (L_37 : List Nat) (f_37 : HF) (H : Heap) (locs : List Loc) (ls : Array Slot), (SH (spM (UP (IA sl pl oh dh w) y37_1 y37_2.toInt.toNat) pi px pa) nnM G ad L_37 f_37) → (bn 208 3224 y37_1) → (bn 0 104 y37_2) → (((104 : Int) - y37_2.toInt).toNat = n37) → (DY G A s [] L_37 f_37 H locs) → (lv_has ls 3 [(0, .ref (ad 0 0)), (1, .int y37_1), (2, .int y37_2)]) → W p l e (rmD 0 0 0) s m args below meth c H locs (0) (0) (MQ below (va_Qi (fun r (u : List Nat × HF) => (fun r L1 f1 => SH (spM (IA 0 pl 14 9999 w) pi px pa) nnM G ad L1 f1) r u.1 u.2) (fun u t => pOut G (va_A (va_pl L f) sz) u.1 u.2 t) (va_A (va_pl L f) sz)) args s 0 0 A) (F0 m 37 ls []) := by
    intro n37
    induction n37 using Nat.strongRecOn with
    | _ n37 ih37 =>
      intro y37_1 y37_2 L_37 f_37 H locs ls I b_y37_1 b_y37_2 hm37 Y hl
      refine lv_iload_n hx hb dX12_undo_37 rfl (lv_at hl 2 rfl) ?_
      refine lv_bipush (v := 104) hx hb dX12_undo_38 (by decide) ?_
      refine lv_icmp_ge (tgt := 66) hx hb dX12_undo_40 (by decide) (fun c_25875 => ?_) (fun c_25875 => ?_)
      · have B_25876 : bn 104 104 y37_2 := bn_w (bn_ler c_25875 (show bn 104 104 (104 : Int32) from bn_k (by decide)) b_y37_2) (by decide)
        obtain ⟨g_25878, p_ad_1_0, o_25879⟩ := I.opi (k := 1) (j := 0) (by decide) rfl
        have p_ad_1_0 : pt L_37 f_37 (ad 1 0) (.inl (G.2 0, 10568, .inl g_25878)) := p_ad_1_0
        have o_25880 : (IA 0 pl 14 9999 w) g_25878 := (UP_end (show UP (IA sl pl oh dh w) y37_1 104 g_25878 from by rw [← (tn_eq (n := 104) (bn_w B_25876 (by decide)))]; exact o_25879))
        have I := I.castS (sp' := spM (IA 0 pl 14 9999 w) pi px pa) (k := 1) (j := 0) (by decide) p_ad_1_0 (okE_a (g := g_25878) o_25880) pAC
        refine lv_aload_n hx hb dX12_undo_66 rfl (lv_at hl 0 rfl) ?_
        obtain ⟨v_25881, v_25883, v_25885, v_25887, v_25889, v_25891, v_25893, v_25895, v_25896, v_25898, v_25900, v_25902, v_25904, v_25906, v_25908, v_25910, v_25912, v_25914, p_ad_0_0, b_25882, b_25884, b_25886, b_25888, b_25890, b_25892, b_25894, b_25897, b_25899, b_25901, b_25903, b_25905, b_25907, b_25909, b_25911, b_25913, b_25915⟩ := opnM_0 (j := 0) I (by decide)
        have p_ad_0_0 : pt L_37 f_37 (ad 0 0) (.inr (12, [.ref (ad 1 0), .ref (ad 2 0), .ref (ad 3 0), .ref (ad 4 0), .int v_25881, .int v_25883, .int v_25885, .int v_25887, .int v_25889, .int v_25891, .int v_25893, .long v_25895, .int v_25896, .int v_25898, .int v_25900, .ref (ad 5 0), .ref (ad 6 0), .int v_25902, .int v_25904, .int v_25906, .int v_25908, .int v_25910, .ref (ad 7 0), .ref (ad 8 0), .ref (ad 9 0), .int v_25912, .ref (ad 10 0), .ref (ad 11 0), .ref (ad 12 0), .ref (ad 13 0), .int v_25914, .ref (ad 14 0)])) := p_ad_0_0
        refine pg_get S Y ok_X12 0 (by decide) kf12_7 (v := .ref (ad 1 0)) p_ad_0_0 rfl dX12_undo_67 ?_
        refine lv_iconst (v := 3) hx hb dX12_undo_70 (by decide) ?_
        obtain ⟨v_25916, ev_25916⟩ : ∃ z, z = g_25878 (3 : Int32).toNatClampNeg := ⟨_, rfl⟩
        refine pg_iald S Y (v := v_25916) p_ad_1_0 (by unfold vp_in; decide) ev_25916.symm dX12_undo_71 ?_
        have bv_25916 : bn 0 30 v_25916 := bn_eq ev_25916 (IA_3 o_25880)
        exact prI (post := fun r L1 f1 => SH (spM (IA 0 pl 14 9999 w) pi px pa) nnM G ad L1 f1) S Y rfl (by decide) (by decide) hA1 I dX12_undo_72
      · have B_25877 : bn 0 103 y37_2 := bn_w (bn_gtr c_25875 (show bn 104 104 (104 : Int32) from bn_k (by decide)) b_y37_2) (by decide)
        refine lv_aload_n hx hb dX12_undo_43 rfl (lv_at hl 0 rfl) ?_
        obtain ⟨v_25917, v_25919, v_25921, v_25923, v_25925, v_25927, v_25929, v_25931, v_25932, v_25934, v_25936, v_25938, v_25940, v_25942, v_25944, v_25946, v_25948, v_25950, p_ad_0_0, b_25918, b_25920, b_25922, b_25924, b_25926, b_25928, b_25930, b_25933, b_25935, b_25937, b_25939, b_25941, b_25943, b_25945, b_25947, b_25949, b_25951⟩ := opnM_0 (j := 0) I (by decide)
        have p_ad_0_0 : pt L_37 f_37 (ad 0 0) (.inr (12, [.ref (ad 1 0), .ref (ad 2 0), .ref (ad 3 0), .ref (ad 4 0), .int v_25917, .int v_25919, .int v_25921, .int v_25923, .int v_25925, .int v_25927, .int v_25929, .long v_25931, .int v_25932, .int v_25934, .int v_25936, .ref (ad 5 0), .ref (ad 6 0), .int v_25938, .int v_25940, .int v_25942, .int v_25944, .int v_25946, .ref (ad 7 0), .ref (ad 8 0), .ref (ad 9 0), .int v_25948, .ref (ad 10 0), .ref (ad 11 0), .ref (ad 12 0), .ref (ad 13 0), .int v_25950, .ref (ad 14 0)])) := p_ad_0_0
        refine pg_get S Y ok_X12 0 (by decide) kf12_7 (v := .ref (ad 1 0)) p_ad_0_0 rfl dX12_undo_44 ?_
        refine lv_bipush (v := 10) hx hb dX12_undo_47 (by decide) ?_
        refine lv_iload_n hx hb dX12_undo_49 rfl (lv_at hl 2 rfl) ?_
        refine lv_iadd hx hb dX12_undo_50 ?_
        refine lv_topi (fun x_25952 ex_25952 => ?_)
        refine lv_aload_n hx hb dX12_undo_51 rfl (lv_at hl 0 rfl) ?_
        refine pg_get S Y ok_X12 0 (by decide) kf12_7 (v := .ref (ad 1 0)) p_ad_0_0 rfl dX12_undo_52 ?_
        refine lv_iload_n hx hb dX12_undo_55 rfl (lv_at hl 1 rfl) ?_
        refine lv_iload_n hx hb dX12_undo_56 rfl (lv_at hl 2 rfl) ?_
        refine lv_iadd hx hb dX12_undo_57 ?_
        refine lv_topi (fun x_25953 ex_25953 => ?_)
        obtain ⟨g_25954, p_ad_1_0, o_25955⟩ := I.opi (k := 1) (j := 0) (by decide) rfl
        have p_ad_1_0 : pt L_37 f_37 (ad 1 0) (.inl (G.2 0, 10568, .inl g_25954)) := p_ad_1_0
        obtain ⟨v_25956, ev_25956⟩ : ∃ z, z = g_25954 (x_25953 : Int32).toNatClampNeg := ⟨_, rfl⟩
        refine pg_iald S Y (v := v_25956) p_ad_1_0 (vp_bn (bn_eq ex_25953 (bn_add b_y37_1 B_25877 (by decide))) (by decide)) ev_25956.symm dX12_undo_58 ?_
        refine pg_iast S Y p_ad_1_0 (vp_bn (bn_eq ex_25952 (bn_add (show bn 10 10 (10 : Int32) from bn_k (by decide)) B_25877 (by decide))) (by decide)) dX12_undo_59 (fun f_25958 H locs ef_25958 Y => ?_)
        obtain ⟨g_25957, eg_25957⟩ : ∃ z, z = upd (g_25954) (x_25952 : Int32).toNatClampNeg v_25956 := ⟨_, rfl⟩
        rw [← eg_25957] at ef_25958
        have p_ad_0_0 := p_ad_0_0.up ef_25958 (I.ne (k := 0) (j := 0) (k' := 1) (j' := 0) (by decide) (by decide) (Or.inl (by decide)))
        have p_ad_1_0 := p_ad_1_0.me ef_25958
        have o_25959 : (UP (IA sl pl oh dh w) y37_1 (y37_2.toInt.toNat + 1)) g_25957 := (by rw [eg_25957]; exact UP_st o_25955 (show (x_25952 : Int32).toNatClampNeg = 10 + y37_2.toInt.toNat from (by have z9 := (la_add ex_25952 (show (10 : Int32).toInt = 10 from rfl) (rfl : y37_2.toInt = y37_2.toInt) (show bn 10 10 (10 : Int32) from bn_k (by decide)) B_25877 (by decide)); have z0 := (b_y37_1).1; have z1 := (B_25877).1; simp only [tnc]; omega)) (by rw [ev_25956, show (x_25953 : Int32).toNatClampNeg = y37_1.toInt.toNat + y37_2.toInt.toNat from (by have z9 := (la_add ex_25953 (rfl : y37_1.toInt = y37_1.toInt) (rfl : y37_2.toInt = y37_2.toInt) b_y37_1 B_25877 (by decide)); have z0 := (b_y37_1).1; have z1 := (B_25877).1; simp only [tnc]; omega)]))
        have I := I.upS (sp' := spM (UP (IA sl pl oh dh w) y37_1 (y37_2.toInt.toNat + 1)) pi px pa) (k := 1) (j := 0) (by decide) ef_25958 (okE_a (g := g_25957) o_25959) pAC
        obtain ⟨x_25960, ex_25960⟩ : ∃ z : Int32, z = y37_2 + 1 := ⟨_, rfl⟩
        refine lv_iinc (v := x_25960) (lv' := [(2, .int x_25960), (0, .ref (ad 0 0)), (1, .int y37_1)]) hx hb dX12_undo_60 hl (k := 2) rfl (by rw [ex_25960]; rfl) (by decide) rfl (fun ls hl => ?_)
        refine lv_goto (tgt := 37) hx hb dX12_undo_63 (by decide) ?_
        have I : SH (spM (UP (IA sl pl oh dh w) y37_1 (x_25960 : Int32).toInt.toNat) pi px pa) nnM G ad L_37 f_25958 := by have z9 := (la_add ex_25960 (rfl : y37_2.toInt = y37_2.toInt) (show (1 : Int32).toInt = 1 from rfl) B_25877 (show bn 1 1 (1 : Int32) from bn_k (by decide)) (by decide)); have z8 := (B_25877).1; have e9 : (x_25960 : Int32).toInt.toNat = y37_2.toInt.toNat + 1 := (by omega); rw [e9]; exact I
        exact ih37 _ (by rw [← hm37]; exact ms_up (m := 1) ex_25960 (show bn 1 1 (1 : Int32) from bn_k (by decide)) B_25877 (bn_w (bn_eq ex_25960 (bn_add B_25877 (show bn 1 1 (1 : Int32) from bn_k (by decide)) (by decide))) (by decide) : bn 0 104 x_25960) (by decide)) y37_1 x_25960 _ _  _ _ _ I (bn_w b_y37_1 (by decide)) (bn_w (bn_eq ex_25960 (bn_add B_25877 (show bn 1 1 (1 : Int32) from bn_k (by decide)) (by decide))) (by decide)) rfl Y (lv_sub hl [1, 2, 0] rfl)
  refine lv_aload_n hx hb dX12_undo_0 rfl (lv_at hl 0 rfl) ?_
  obtain ⟨v_25961, v_25963, v_25965, v_25967, v_25969, v_25971, v_25973, v_25975, v_25976, v_25978, v_25980, v_25982, v_25984, v_25986, v_25988, v_25990, v_25992, v_25994, p_ad_0_0, b_25962, b_25964, b_25966, b_25968, b_25970, b_25972, b_25974, b_25977, b_25979, b_25981, b_25983, b_25985, b_25987, b_25989, b_25991, b_25993, b_25995⟩ := opnM_0 (j := 0) I (by decide)
  have p_ad_0_0 : pt L f (ad 0 0) (.inr (12, [.ref (ad 1 0), .ref (ad 2 0), .ref (ad 3 0), .ref (ad 4 0), .int v_25961, .int v_25963, .int v_25965, .int v_25967, .int v_25969, .int v_25971, .int v_25973, .long v_25975, .int v_25976, .int v_25978, .int v_25980, .ref (ad 5 0), .ref (ad 6 0), .int v_25982, .int v_25984, .int v_25986, .int v_25988, .int v_25990, .ref (ad 7 0), .ref (ad 8 0), .ref (ad 9 0), .int v_25992, .ref (ad 10 0), .ref (ad 11 0), .ref (ad 12 0), .ref (ad 13 0), .int v_25994, .ref (ad 14 0)])) := p_ad_0_0
  refine pg_get S Y ok_X12 0 (by decide) kf12_7 (v := .ref (ad 1 0)) p_ad_0_0 rfl dX12_undo_1 ?_
  refine lv_iconst (v := 3) hx hb dX12_undo_4 (by decide) ?_
  obtain ⟨g_25996, p_ad_1_0, o_25997⟩ := I.opi (k := 1) (j := 0) (by decide) rfl
  have p_ad_1_0 : pt L f (ad 1 0) (.inl (G.2 0, 10568, .inl g_25996)) := p_ad_1_0
  obtain ⟨v_25998, ev_25998⟩ : ∃ z, z = g_25996 (3 : Int32).toNatClampNeg := ⟨_, rfl⟩
  refine pg_iald S Y (v := v_25998) p_ad_1_0 (by unfold vp_in; decide) ev_25998.symm dX12_undo_5 ?_
  have bv_25998 : bn 0 30 v_25998 := bn_eq ev_25998 (IA_3 o_25997)
  refine lv_if_ne (tgt := 11) hx hb dX12_undo_6 (by decide) (fun c_25999 => ?_) (fun c_25999 => ?_)
  · have B_26000 : bn 1 30 v_25998 := bn_w (bn_nel c_25999 bv_25998 (show bn 0 0 (0 : Int32) from bn_k (by decide))) (by decide)
    refine lv_aload_n hx hb dX12_undo_11 rfl (lv_at hl 0 rfl) ?_
    refine pg_get S Y ok_X12 0 (by decide) kf12_7 (v := .ref (ad 1 0)) p_ad_0_0 rfl dX12_undo_12 ?_
    refine lv_iconst (v := 3) hx hb dX12_undo_15 (by decide) ?_
    refine lv_dup2_11 hx hb dX12_undo_16 rfl rfl ?_
    refine pg_iald S Y (v := v_25998) p_ad_1_0 (by unfold vp_in; decide) ev_25998.symm dX12_undo_17 ?_
    refine lv_iconst (v := 1) hx hb dX12_undo_18 (by decide) ?_
    refine lv_isub hx hb dX12_undo_19 ?_
    refine lv_topi (fun x_26002 ex_26002 => ?_)
    refine pg_iast S Y p_ad_1_0 (by unfold vp_in; decide) dX12_undo_20 (fun f_26004 H locs ef_26004 Y => ?_)
    obtain ⟨g_26003, eg_26003⟩ : ∃ z, z = upd (g_25996) (3 : Int32).toNatClampNeg x_26002 := ⟨_, rfl⟩
    rw [← eg_26003] at ef_26004
    have p_ad_0_0 := p_ad_0_0.up ef_26004 (I.ne (k := 0) (j := 0) (k' := 1) (j' := 0) (by decide) (by decide) (Or.inl (by decide)))
    have p_ad_1_0 := p_ad_1_0.me ef_26004
    have o_26005 : (IA sl pl oh dh w) g_26003 := (by rw [eg_26003]; exact (IA_s3 o_25997 (bn_w (bn_eq ex_26002 (bn_sub B_26000 (show bn 1 1 (1 : Int32) from bn_k (by decide)) (by decide))) (by decide))))
    have I := I.up (k := 1) (j := 0) (by decide) ef_26004 (okE_a (g := g_26003) o_26005)
    have q_26006 : g_26003 (3 : Int32).toNatClampNeg = x_26002 := by rw [eg_26003]; exact pk_us
    refine lv_sipush (v := 208) hx hb dX12_undo_21 (by decide) ?_
    refine lv_bipush (v := 104) hx hb dX12_undo_24 (by decide) ?_
    refine lv_aload_n hx hb dX12_undo_26 rfl (lv_at hl 0 rfl) ?_
    refine pg_get S Y ok_X12 0 (by decide) kf12_7 (v := .ref (ad 1 0)) p_ad_0_0 rfl dX12_undo_27 ?_
    refine lv_iconst (v := 3) hx hb dX12_undo_30 (by decide) ?_
    refine pg_iald S Y (v := x_26002) p_ad_1_0 (by unfold vp_in; decide) q_26006 dX12_undo_31 ?_
    refine lv_imul hx hb dX12_undo_32 ?_
    refine lv_topi (fun x_26007 ex_26007 => ?_)
    refine lv_iadd hx hb dX12_undo_33 ?_
    refine lv_topi (fun x_26008 ex_26008 => ?_)
    have B_26009 : bn 208 3224 x_26008 := bn_w (bn_eq ex_26008 (bn_add (show bn 208 208 (208 : Int32) from bn_k (by decide)) (bn_eq ex_26007 (bn_mul (show bn 104 104 (104 : Int32) from bn_k (by decide)) (bn_eq ex_26002 (bn_sub B_26000 (show bn 1 1 (1 : Int32) from bn_k (by decide)) (by decide))) (by decide))) (by decide))) (by decide)
    refine lv_istore_n (lv' := [(1, .int x_26008), (0, .ref (ad 0 0))]) hx hb dX12_undo_34 rfl hl (by decide) rfl (fun ls hl => ?_)
    refine lv_iconst (v := 0) hx hb dX12_undo_35 (by decide) ?_
    refine lv_istore_n (lv' := [(2, .int 0), (1, .int x_26008), (0, .ref (ad 0 0))]) hx hb dX12_undo_36 rfl hl (by decide) rfl (fun ls hl => ?_)
    have o_26010 : (UP (IA sl pl oh dh w) x_26008 (0 : Int32).toInt.toNat) g_26003 := (UP_0 o_26005 (bn_w (bn_eq ex_26002 (bn_sub B_26000 (show bn 1 1 (1 : Int32) from bn_k (by decide)) (by decide))) (by decide)) (by have z9 := (la_add ex_26008 (show (208 : Int32).toInt = 208 from rfl) (la_mul ex_26007 (show (104 : Int32).toInt = 104 from rfl) (rfl : x_26002.toInt = x_26002.toInt) (show bn 104 104 (104 : Int32) from bn_k (by decide)) (bn_eq ex_26002 (bn_sub B_26000 (show bn 1 1 (1 : Int32) from bn_k (by decide)) (by decide))) (by decide)) (show bn 208 208 (208 : Int32) from bn_k (by decide)) (bn_eq ex_26007 (bn_mul (show bn 104 104 (104 : Int32) from bn_k (by decide)) (bn_eq ex_26002 (bn_sub B_26000 (show bn 1 1 (1 : Int32) from bn_k (by decide)) (by decide))) (by decide))) (by decide)); omega))
    have I := I.castS (sp' := spM (UP (IA sl pl oh dh w) x_26008 (0 : Int32).toInt.toNat) pi px pa) (k := 1) (j := 0) (by decide) p_ad_1_0 (okE_a (g := g_26003) o_26010) pAC
    exact J_37 _ x_26008 0 _ _  _ _ _ I (bn_w B_26009 (by decide)) (bn_w (show bn 0 0 (0 : Int32) from bn_k (by decide)) (by decide)) rfl Y (lv_sub hl [2, 1, 0] rfl)
  · have B_26001 : bn 0 0 v_25998 := bn_w (bn_eq c_25999 (show bn 0 0 (0 : Int32) from bn_k (by decide))) (by decide)
    refine lv_iconst (v := (-1)) hx hb dX12_undo_9 (by decide) ?_
    exact prI (post := fun r L1 f1 => SH (spM (IA 0 pl 14 9999 w) pi px pa) nnM G ad L1 f1) S Y rfl (by decide) (by decide) hA1 (SHpA I (fun g h => IA_std h (by have h9 := hB; unfold BBp at h9; omega) (by have h9 := hB; unfold BBp at h9; omega) hsl)) dX12_undo_10
set_option maxHeartbeats 4000000 in
set_option maxRecDepth 100000 in
theorem x_X12_setAside {l : Launch} {G : GG}  {L : List Nat} {f : HF} {ad : Nat → Nat → Nat} {pl : Int} {oh : Int} {dh : Int} {w : WW} {pi : PIT} {px : (Nat → Int32) → Prop} {pa : (Nat → Int32) → Prop} (I : SH (spM (IA 0 pl oh dh w) pi px pa) nnM G ad L f) (hB : BBp 0 pl oh dh w) : PMv l yX12_setAside cX12_setAside 2 0 0 0 G [.ref (ad 0 0)] L f (fun L1 f1 => SH (spM (IA 0 pl oh dh w) pi px LDa) nnM G ad L1 f1) := by
  refine PMv.of (post := fun L1 f1 => SH (spM (IA 0 pl oh dh w) pi px LDa) nnM G ad L1 f1) (own := RX12) (by decide) rfl (Nat.le_of_ble_eq_true rfl) (fun sz p e s m args below meth c A ls hA1 hname S Y hl => ?_)
  have hx := S.hx
  have hb := S.hb
  have hl : lv_has ls 2 [(0, .ref (ad 0 0))] := hl
  obtain ⟨ga, pga, oga⟩ := I.opi (k := 1) (j := 0) (by decide) rfl
  have I := I.castS (sp' := spM (EQ ga) pi px pa) (k := 1) (j := 0) (by decide) pga (okE_a (g := ga) (rfl : EQ ga ga)) pAC
  have J_3 : ∀ (n3 : Nat) (y3_1 : Int32) (L_3 : List Nat) (f_3 : HF) (H : Heap) (locs : List Loc) (ls : Array Slot), (SH (spM (EQ ga) pi px (SA ga (y3_1.toInt.toNat - 10))) nnM G ad L_3 f_3) → (bn 10 114 y3_1) → (((114 : Int) - y3_1.toInt).toNat = n3) → (DY G A s [] L_3 f_3 H locs) → (lv_has ls 2 [(0, .ref (ad 0 0)), (1, .int y3_1)]) → W p l e (rmD 0 0 0) s m args below meth c H locs (0) (0) (MQ below (va_Qv (fun (u : List Nat × HF) => (fun L1 f1 => SH (spM (IA 0 pl oh dh w) pi px LDa) nnM G ad L1 f1) u.1 u.2) (fun u t => pOut G (va_A (va_pl L f) sz) u.1 u.2 t) (va_A (va_pl L f) sz)) args s 0 0 A) (F0 m 3 ls []) := by
    intro n3
    induction n3 using Nat.strongRecOn with
    | _ n3 ih3 =>
      intro y3_1 L_3 f_3 H locs ls I b_y3_1 hm3 Y hl
      refine lv_iload_n hx hb dX12_setAside_3 rfl (lv_at hl 1 rfl) ?_
      refine lv_bipush (v := 114) hx hb dX12_setAside_4 (by decide) ?_
      refine lv_icmp_ge (tgt := 27) hx hb dX12_setAside_6 (by decide) (fun c_27415 => ?_) (fun c_27415 => ?_)
      · have B_27416 : bn 114 114 y3_1 := bn_w (bn_ler c_27415 (show bn 114 114 (114 : Int32) from bn_k (by decide)) b_y3_1) (by decide)
        obtain ⟨g_27418, p_ad_11_0, o_27419⟩ := I.opi (k := 11) (j := 0) (by decide) rfl
        have p_ad_11_0 : pt L_3 f_3 (ad 11 0) (.inl (G.2 0, 114, .inl g_27418)) := p_ad_11_0
        have o_27420 : LDa g_27418 := (SA_end (h := g_27418) (show SA ga 104 _ from by rw [show (104 : Nat) = 114 - 10 from rfl, ← (tn_eq (n := 114) (bn_w B_27416 (by decide)))]; exact o_27419) (IA_ld oga) (Int.le_refl _) (by have h9 := hB; unfold BBp at h9; omega) (by have h9 := hB; unfold BBp at h9; omega))
        have I := I.castS (sp' := spM (EQ ga) pi px LDa) (k := 11) (j := 0) (by decide) p_ad_11_0 (okE_a (g := g_27418) o_27420) paC
        refine lv_aload_n hx hb dX12_setAside_27 rfl (lv_at hl 0 rfl) ?_
        refine lv_iconst (v := 0) hx hb dX12_setAside_28 (by decide) ?_
        obtain ⟨v_27421, v_27423, v_27425, v_27427, v_27429, v_27431, v_27433, v_27435, v_27436, v_27438, v_27440, v_27442, v_27444, v_27446, v_27448, v_27450, v_27452, v_27454, p_ad_0_0, b_27422, b_27424, b_27426, b_27428, b_27430, b_27432, b_27434, b_27437, b_27439, b_27441, b_27443, b_27445, b_27447, b_27449, b_27451, b_27453, b_27455⟩ := opnM_0 (j := 0) I (by decide)
        have p_ad_0_0 : pt L_3 f_3 (ad 0 0) (.inr (12, [.ref (ad 1 0), .ref (ad 2 0), .ref (ad 3 0), .ref (ad 4 0), .int v_27421, .int v_27423, .int v_27425, .int v_27427, .int v_27429, .int v_27431, .int v_27433, .long v_27435, .int v_27436, .int v_27438, .int v_27440, .ref (ad 5 0), .ref (ad 6 0), .int v_27442, .int v_27444, .int v_27446, .int v_27448, .int v_27450, .ref (ad 7 0), .ref (ad 8 0), .ref (ad 9 0), .int v_27452, .ref (ad 10 0), .ref (ad 11 0), .ref (ad 12 0), .ref (ad 13 0), .int v_27454, .ref (ad 14 0)])) := p_ad_0_0
        refine pg_put S Y ok_X12 25 (by decide) kf12_46 rfl (fs' := [.ref (ad 1 0), .ref (ad 2 0), .ref (ad 3 0), .ref (ad 4 0), .int v_27421, .int v_27423, .int v_27425, .int v_27427, .int v_27429, .int v_27431, .int v_27433, .long v_27435, .int v_27436, .int v_27438, .int v_27440, .ref (ad 5 0), .ref (ad 6 0), .int v_27442, .int v_27444, .int v_27446, .int v_27448, .int v_27450, .ref (ad 7 0), .ref (ad 8 0), .ref (ad 9 0), .int 0, .ref (ad 10 0), .ref (ad 11 0), .ref (ad 12 0), .ref (ad 13 0), .int v_27454, .ref (ad 14 0)]) (v := .int 0) p_ad_0_0 rfl rfl rfl (Nat.le_of_ble_eq_true rfl) dX12_setAside_29 (fun f_27456 H locs ef_27456 Y => ?_)
        have p_ad_11_0 := p_ad_11_0.up ef_27456 (I.ne (k := 11) (j := 0) (k' := 0) (j' := 0) (by decide) (by decide) (Or.inl (by decide)))
        have p_ad_0_0 := p_ad_0_0.me ef_27456
        have I := I.up (k := 0) (j := 0) (by decide) ef_27456 (okE_o (okFs_c okV_r (okFs_c okV_r (okFs_c okV_r (okFs_c okV_r (okFs_c (okV_p b_27422) (okFs_c (okV_p b_27424) (okFs_c (okV_p b_27426) (okFs_c (okV_i b_27428) (okFs_c (okV_i b_27430) (okFs_c (okV_i b_27432) (okFs_c (okV_i b_27434) (okFs_c okV_l (okFs_c (okV_i b_27437) (okFs_c (okV_i b_27439) (okFs_c (okV_i b_27441) (okFs_c okV_r (okFs_c okV_r (okFs_c (okV_i b_27443) (okFs_c (okV_i b_27445) (okFs_c (okV_i b_27447) (okFs_c (okV_i b_27449) (okFs_c (okV_i b_27451) (okFs_c okV_r (okFs_c okV_r (okFs_c okV_r (okFs_c (okV_i (bn_w (show bn 0 0 (0 : Int32) from bn_k (by decide)) (by decide))) (okFs_c okV_r (okFs_c okV_r (okFs_c okV_r (okFs_c okV_r (okFs_c (okV_i b_27455) (okFs_c okV_r okFs_n)))))))))))))))))))))))))))))))))
        exact prV (post := fun L1 f1 => SH (spM (IA 0 pl oh dh w) pi px LDa) nnM G ad L1 f1) S Y (by decide) (by decide) hA1 (SHpA I (EQ_to oga)) dX12_setAside_32
      · have B_27417 : bn 10 113 y3_1 := bn_w (bn_gtr c_27415 (show bn 114 114 (114 : Int32) from bn_k (by decide)) b_y3_1) (by decide)
        refine lv_aload_n hx hb dX12_setAside_9 rfl (lv_at hl 0 rfl) ?_
        obtain ⟨v_27457, v_27459, v_27461, v_27463, v_27465, v_27467, v_27469, v_27471, v_27472, v_27474, v_27476, v_27478, v_27480, v_27482, v_27484, v_27486, v_27488, v_27490, p_ad_0_0, b_27458, b_27460, b_27462, b_27464, b_27466, b_27468, b_27470, b_27473, b_27475, b_27477, b_27479, b_27481, b_27483, b_27485, b_27487, b_27489, b_27491⟩ := opnM_0 (j := 0) I (by decide)
        have p_ad_0_0 : pt L_3 f_3 (ad 0 0) (.inr (12, [.ref (ad 1 0), .ref (ad 2 0), .ref (ad 3 0), .ref (ad 4 0), .int v_27457, .int v_27459, .int v_27461, .int v_27463, .int v_27465, .int v_27467, .int v_27469, .long v_27471, .int v_27472, .int v_27474, .int v_27476, .ref (ad 5 0), .ref (ad 6 0), .int v_27478, .int v_27480, .int v_27482, .int v_27484, .int v_27486, .ref (ad 7 0), .ref (ad 8 0), .ref (ad 9 0), .int v_27488, .ref (ad 10 0), .ref (ad 11 0), .ref (ad 12 0), .ref (ad 13 0), .int v_27490, .ref (ad 14 0)])) := p_ad_0_0
        refine pg_get S Y ok_X12 27 (by decide) kf12_53 (v := .ref (ad 11 0)) p_ad_0_0 rfl dX12_setAside_10 ?_
        refine lv_iload_n hx hb dX12_setAside_13 rfl (lv_at hl 1 rfl) ?_
        refine lv_aload_n hx hb dX12_setAside_14 rfl (lv_at hl 0 rfl) ?_
        refine pg_get S Y ok_X12 0 (by decide) kf12_7 (v := .ref (ad 1 0)) p_ad_0_0 rfl dX12_setAside_15 ?_
        refine lv_iload_n hx hb dX12_setAside_18 rfl (lv_at hl 1 rfl) ?_
        obtain ⟨g_27492, p_ad_1_0, o_27493⟩ := I.opi (k := 1) (j := 0) (by decide) rfl
        have p_ad_1_0 : pt L_3 f_3 (ad 1 0) (.inl (G.2 0, 10568, .inl g_27492)) := p_ad_1_0
        obtain ⟨v_27494, ev_27494⟩ : ∃ z, z = g_27492 (y3_1 : Int32).toNatClampNeg := ⟨_, rfl⟩
        refine pg_iald S Y (v := v_27494) p_ad_1_0 (vp_bn B_27417 (by decide)) ev_27494.symm dX12_setAside_19 ?_
        obtain ⟨g_27495, p_ad_11_0, o_27496⟩ := I.opi (k := 11) (j := 0) (by decide) rfl
        have p_ad_11_0 : pt L_3 f_3 (ad 11 0) (.inl (G.2 0, 114, .inl g_27495)) := p_ad_11_0
        refine pg_iast S Y p_ad_11_0 (vp_bn B_27417 (by decide)) dX12_setAside_20 (fun f_27498 H locs ef_27498 Y => ?_)
        obtain ⟨g_27497, eg_27497⟩ : ∃ z, z = upd (g_27495) (y3_1 : Int32).toNatClampNeg v_27494 := ⟨_, rfl⟩
        rw [← eg_27497] at ef_27498
        have p_ad_0_0 := p_ad_0_0.up ef_27498 (I.ne (k := 0) (j := 0) (k' := 11) (j' := 0) (by decide) (by decide) (Or.inl (by decide)))
        have p_ad_1_0 := p_ad_1_0.up ef_27498 (I.ne (k := 1) (j := 0) (k' := 11) (j' := 0) (by decide) (by decide) (Or.inl (by decide)))
        have p_ad_11_0 := p_ad_11_0.me ef_27498
        have o_27499 : (SA ga (y3_1.toInt.toNat - 10 + 1)) g_27497 := (by rw [eg_27497]; exact SA_st o_27496 (show y3_1.toNatClampNeg = 10 + (y3_1.toInt.toNat - 10) from by have z := B_27417.1; simp only [tnc]; omega) (by rw [ev_27494, show g_27492 = ga from o_27493, show y3_1.toNatClampNeg = 10 + (y3_1.toInt.toNat - 10) from by have z := B_27417.1; simp only [tnc]; omega]))
        have I := I.upS (sp' := spM (EQ ga) pi px (SA ga (y3_1.toInt.toNat - 10 + 1))) (k := 11) (j := 0) (by decide) ef_27498 (okE_a (g := g_27497) o_27499) paC
        obtain ⟨x_27500, ex_27500⟩ : ∃ z : Int32, z = y3_1 + 1 := ⟨_, rfl⟩
        refine lv_iinc (v := x_27500) (lv' := [(1, .int x_27500), (0, .ref (ad 0 0))]) hx hb dX12_setAside_21 hl (k := 1) rfl (by rw [ex_27500]; rfl) (by decide) rfl (fun ls hl => ?_)
        refine lv_goto (tgt := 3) hx hb dX12_setAside_24 (by decide) ?_
        have I : SH (spM (EQ ga) pi px (SA ga ((x_27500 : Int32).toInt.toNat - 10))) nnM G ad L_3 f_27498 := by have z9 := (la_add ex_27500 (rfl : y3_1.toInt = y3_1.toInt) (show (1 : Int32).toInt = 1 from rfl) B_27417 (show bn 1 1 (1 : Int32) from bn_k (by decide)) (by decide)); have z8 := (B_27417).1; have e9 : (x_27500 : Int32).toInt.toNat - 10 = y3_1.toInt.toNat - 10 + 1 := (by omega); rw [e9]; exact I
        exact ih3 _ (by rw [← hm3]; exact ms_up (m := 1) ex_27500 (show bn 1 1 (1 : Int32) from bn_k (by decide)) B_27417 (bn_w (bn_eq ex_27500 (bn_add B_27417 (show bn 1 1 (1 : Int32) from bn_k (by decide)) (by decide))) (by decide) : bn 10 114 x_27500) (by decide)) x_27500 _ _  _ _ _ I (bn_w (bn_eq ex_27500 (bn_add B_27417 (show bn 1 1 (1 : Int32) from bn_k (by decide)) (by decide))) (by decide)) rfl Y (lv_sub hl [1, 0] rfl)
  refine lv_bipush (v := 10) hx hb dX12_setAside_0 (by decide) ?_
  refine lv_istore_n (lv' := [(1, .int 10), (0, .ref (ad 0 0))]) hx hb dX12_setAside_2 rfl hl (by decide) rfl (fun ls hl => ?_)
  obtain ⟨g_27501, p_ad_11_0, o_27502⟩ := I.opi (k := 11) (j := 0) (by decide) rfl
  have p_ad_11_0 : pt L f (ad 11 0) (.inl (G.2 0, 114, .inl g_27501)) := p_ad_11_0
  have o_27503 : (SA ga ((10 : Int32).toInt.toNat - 10)) g_27501 := (fun j hj => absurd hj (Nat.not_lt_zero j))
  have I := I.castS (sp' := spM (EQ ga) pi px (SA ga ((10 : Int32).toInt.toNat - 10))) (k := 11) (j := 0) (by decide) p_ad_11_0 (okE_a (g := g_27501) o_27503) paC
  exact J_3 _ 10 _ _  _ _ _ I (bn_w (show bn 10 10 (10 : Int32) from bn_k (by decide)) (by decide)) rfl Y (lv_sub hl [1, 0] rfl)
set_option maxHeartbeats 4000000 in
set_option maxRecDepth 100000 in
theorem x_X12_putBack {l : Launch} {G : GG}  {L : List Nat} {f : HF} {ad : Nat → Nat → Nat} {sl : Int} {pl : Int} {oh : Int} {dh : Int} {w : WW} {pi : PIT} {px : (Nat → Int32) → Prop} (I : SH (spM (IA sl pl oh dh w) pi px LDa) nnM G ad L f) (hB : BBp sl pl oh dh w) : PMv l yX12_putBack cX12_putBack 2 0 0 0 G [.ref (ad 0 0)] L f (fun L1 f1 => SH (spM (IA 0 pl 14 9999 w) pi px LDa) nnM G ad L1 f1) := by
  refine PMv.of (post := fun L1 f1 => SH (spM (IA 0 pl 14 9999 w) pi px LDa) nnM G ad L1 f1) (own := RX12) (by decide) rfl (Nat.le_of_ble_eq_true rfl) (fun sz p e s m args below meth c A ls hA1 hname S Y hl => ?_)
  have hx := S.hx
  have hb := S.hb
  have hl : lv_has ls 2 [(0, .ref (ad 0 0))] := hl
  obtain ⟨h0, ph0, oh0⟩ := I.opi (k := 11) (j := 0) (by decide) rfl
  have I := I.castS (sp' := spM (IA sl pl oh dh w) pi px (EQ h0)) (k := 11) (j := 0) (by decide) ph0 (okE_a (g := h0) (rfl : EQ h0 h0)) paC
  have J_3 : ∀ (n3 : Nat) (y3_1 : Int32) (L_3 : List Nat) (f_3 : HF) (H : Heap) (locs : List Loc) (ls : Array Slot), (SH (spM (PBk (IA sl pl oh dh w) h0 (y3_1.toInt.toNat - 10)) pi px (EQ h0)) nnM G ad L_3 f_3) → (bn 10 114 y3_1) → (((114 : Int) - y3_1.toInt).toNat = n3) → (DY G A s [] L_3 f_3 H locs) → (lv_has ls 2 [(0, .ref (ad 0 0)), (1, .int y3_1)]) → W p l e (rmD 0 0 0) s m args below meth c H locs (0) (0) (MQ below (va_Qv (fun (u : List Nat × HF) => (fun L1 f1 => SH (spM (IA 0 pl 14 9999 w) pi px LDa) nnM G ad L1 f1) u.1 u.2) (fun u t => pOut G (va_A (va_pl L f) sz) u.1 u.2 t) (va_A (va_pl L f) sz)) args s 0 0 A) (F0 m 3 ls []) := by
    intro n3
    induction n3 using Nat.strongRecOn with
    | _ n3 ih3 =>
      intro y3_1 L_3 f_3 H locs ls I b_y3_1 hm3 Y hl
      refine lv_iload_n hx hb dX12_putBack_3 rfl (lv_at hl 1 rfl) ?_
      refine lv_bipush (v := 114) hx hb dX12_putBack_4 (by decide) ?_
      refine lv_icmp_ge (tgt := 27) hx hb dX12_putBack_6 (by decide) (fun c_28908 => ?_) (fun c_28908 => ?_)
      · have B_28909 : bn 114 114 y3_1 := bn_w (bn_ler c_28908 (show bn 114 114 (114 : Int32) from bn_k (by decide)) b_y3_1) (by decide)
        obtain ⟨g_28911, p_ad_1_0, o_28912⟩ := I.opi (k := 1) (j := 0) (by decide) rfl
        have p_ad_1_0 : pt L_3 f_3 (ad 1 0) (.inl (G.2 0, 10568, .inl g_28911)) := p_ad_1_0
        have o_28913 : (IA 0 pl 14 9999 w) g_28911 := (PBk_end (g := g_28911) (show PBk _ h0 104 _ from by rw [show (104 : Nat) = 114 - 10 from rfl, ← (tn_eq (n := 114) (bn_w B_28909 (by decide)))]; exact o_28912) oh0)
        have I := I.castS (sp' := spM (IA 0 pl 14 9999 w) pi px (EQ h0)) (k := 1) (j := 0) (by decide) p_ad_1_0 (okE_a (g := g_28911) o_28913) pAC
        refine lv_aload_n hx hb dX12_putBack_27 rfl (lv_at hl 0 rfl) ?_
        refine lv_iconst (v := 1) hx hb dX12_putBack_28 (by decide) ?_
        obtain ⟨v_28914, v_28916, v_28918, v_28920, v_28922, v_28924, v_28926, v_28928, v_28929, v_28931, v_28933, v_28935, v_28937, v_28939, v_28941, v_28943, v_28945, v_28947, p_ad_0_0, b_28915, b_28917, b_28919, b_28921, b_28923, b_28925, b_28927, b_28930, b_28932, b_28934, b_28936, b_28938, b_28940, b_28942, b_28944, b_28946, b_28948⟩ := opnM_0 (j := 0) I (by decide)
        have p_ad_0_0 : pt L_3 f_3 (ad 0 0) (.inr (12, [.ref (ad 1 0), .ref (ad 2 0), .ref (ad 3 0), .ref (ad 4 0), .int v_28914, .int v_28916, .int v_28918, .int v_28920, .int v_28922, .int v_28924, .int v_28926, .long v_28928, .int v_28929, .int v_28931, .int v_28933, .ref (ad 5 0), .ref (ad 6 0), .int v_28935, .int v_28937, .int v_28939, .int v_28941, .int v_28943, .ref (ad 7 0), .ref (ad 8 0), .ref (ad 9 0), .int v_28945, .ref (ad 10 0), .ref (ad 11 0), .ref (ad 12 0), .ref (ad 13 0), .int v_28947, .ref (ad 14 0)])) := p_ad_0_0
        refine pg_put S Y ok_X12 25 (by decide) kf12_46 rfl (fs' := [.ref (ad 1 0), .ref (ad 2 0), .ref (ad 3 0), .ref (ad 4 0), .int v_28914, .int v_28916, .int v_28918, .int v_28920, .int v_28922, .int v_28924, .int v_28926, .long v_28928, .int v_28929, .int v_28931, .int v_28933, .ref (ad 5 0), .ref (ad 6 0), .int v_28935, .int v_28937, .int v_28939, .int v_28941, .int v_28943, .ref (ad 7 0), .ref (ad 8 0), .ref (ad 9 0), .int 1, .ref (ad 10 0), .ref (ad 11 0), .ref (ad 12 0), .ref (ad 13 0), .int v_28947, .ref (ad 14 0)]) (v := .int 1) p_ad_0_0 rfl rfl rfl (Nat.le_of_ble_eq_true rfl) dX12_putBack_29 (fun f_28949 H locs ef_28949 Y => ?_)
        have p_ad_1_0 := p_ad_1_0.up ef_28949 (I.ne (k := 1) (j := 0) (k' := 0) (j' := 0) (by decide) (by decide) (Or.inl (by decide)))
        have p_ad_0_0 := p_ad_0_0.me ef_28949
        have I := I.up (k := 0) (j := 0) (by decide) ef_28949 (okE_o (okFs_c okV_r (okFs_c okV_r (okFs_c okV_r (okFs_c okV_r (okFs_c (okV_p b_28915) (okFs_c (okV_p b_28917) (okFs_c (okV_p b_28919) (okFs_c (okV_i b_28921) (okFs_c (okV_i b_28923) (okFs_c (okV_i b_28925) (okFs_c (okV_i b_28927) (okFs_c okV_l (okFs_c (okV_i b_28930) (okFs_c (okV_i b_28932) (okFs_c (okV_i b_28934) (okFs_c okV_r (okFs_c okV_r (okFs_c (okV_i b_28936) (okFs_c (okV_i b_28938) (okFs_c (okV_i b_28940) (okFs_c (okV_i b_28942) (okFs_c (okV_i b_28944) (okFs_c okV_r (okFs_c okV_r (okFs_c okV_r (okFs_c (okV_i (bn_w (show bn 1 1 (1 : Int32) from bn_k (by decide)) (by decide))) (okFs_c okV_r (okFs_c okV_r (okFs_c okV_r (okFs_c okV_r (okFs_c (okV_i b_28948) (okFs_c okV_r okFs_n)))))))))))))))))))))))))))))))))
        exact prV (post := fun L1 f1 => SH (spM (IA 0 pl 14 9999 w) pi px LDa) nnM G ad L1 f1) S Y (by decide) (by decide) hA1 (SHpa I (EQ_to oh0)) dX12_putBack_32
      · have B_28910 : bn 10 113 y3_1 := bn_w (bn_gtr c_28908 (show bn 114 114 (114 : Int32) from bn_k (by decide)) b_y3_1) (by decide)
        refine lv_aload_n hx hb dX12_putBack_9 rfl (lv_at hl 0 rfl) ?_
        obtain ⟨v_28950, v_28952, v_28954, v_28956, v_28958, v_28960, v_28962, v_28964, v_28965, v_28967, v_28969, v_28971, v_28973, v_28975, v_28977, v_28979, v_28981, v_28983, p_ad_0_0, b_28951, b_28953, b_28955, b_28957, b_28959, b_28961, b_28963, b_28966, b_28968, b_28970, b_28972, b_28974, b_28976, b_28978, b_28980, b_28982, b_28984⟩ := opnM_0 (j := 0) I (by decide)
        have p_ad_0_0 : pt L_3 f_3 (ad 0 0) (.inr (12, [.ref (ad 1 0), .ref (ad 2 0), .ref (ad 3 0), .ref (ad 4 0), .int v_28950, .int v_28952, .int v_28954, .int v_28956, .int v_28958, .int v_28960, .int v_28962, .long v_28964, .int v_28965, .int v_28967, .int v_28969, .ref (ad 5 0), .ref (ad 6 0), .int v_28971, .int v_28973, .int v_28975, .int v_28977, .int v_28979, .ref (ad 7 0), .ref (ad 8 0), .ref (ad 9 0), .int v_28981, .ref (ad 10 0), .ref (ad 11 0), .ref (ad 12 0), .ref (ad 13 0), .int v_28983, .ref (ad 14 0)])) := p_ad_0_0
        refine pg_get S Y ok_X12 0 (by decide) kf12_7 (v := .ref (ad 1 0)) p_ad_0_0 rfl dX12_putBack_10 ?_
        refine lv_iload_n hx hb dX12_putBack_13 rfl (lv_at hl 1 rfl) ?_
        refine lv_aload_n hx hb dX12_putBack_14 rfl (lv_at hl 0 rfl) ?_
        refine pg_get S Y ok_X12 27 (by decide) kf12_53 (v := .ref (ad 11 0)) p_ad_0_0 rfl dX12_putBack_15 ?_
        refine lv_iload_n hx hb dX12_putBack_18 rfl (lv_at hl 1 rfl) ?_
        obtain ⟨g_28985, p_ad_11_0, o_28986⟩ := I.opi (k := 11) (j := 0) (by decide) rfl
        have p_ad_11_0 : pt L_3 f_3 (ad 11 0) (.inl (G.2 0, 114, .inl g_28985)) := p_ad_11_0
        obtain ⟨v_28987, ev_28987⟩ : ∃ z, z = g_28985 (y3_1 : Int32).toNatClampNeg := ⟨_, rfl⟩
        refine pg_iald S Y (v := v_28987) p_ad_11_0 (vp_bn B_28910 (by decide)) ev_28987.symm dX12_putBack_19 ?_
        obtain ⟨g_28988, p_ad_1_0, o_28989⟩ := I.opi (k := 1) (j := 0) (by decide) rfl
        have p_ad_1_0 : pt L_3 f_3 (ad 1 0) (.inl (G.2 0, 10568, .inl g_28988)) := p_ad_1_0
        refine pg_iast S Y p_ad_1_0 (vp_bn B_28910 (by decide)) dX12_putBack_20 (fun f_28991 H locs ef_28991 Y => ?_)
        obtain ⟨g_28990, eg_28990⟩ : ∃ z, z = upd (g_28988) (y3_1 : Int32).toNatClampNeg v_28987 := ⟨_, rfl⟩
        rw [← eg_28990] at ef_28991
        have p_ad_0_0 := p_ad_0_0.up ef_28991 (I.ne (k := 0) (j := 0) (k' := 1) (j' := 0) (by decide) (by decide) (Or.inl (by decide)))
        have p_ad_11_0 := p_ad_11_0.up ef_28991 (I.ne (k := 11) (j := 0) (k' := 1) (j' := 0) (by decide) (by decide) (Or.inl (by decide)))
        have p_ad_1_0 := p_ad_1_0.me ef_28991
        have o_28992 : (PBk (IA sl pl oh dh w) h0 (y3_1.toInt.toNat - 10 + 1)) g_28990 := (by rw [eg_28990]; exact PBk_st o_28989 (show y3_1.toNatClampNeg = 10 + (y3_1.toInt.toNat - 10) from by have z := B_28910.1; simp only [tnc]; omega) (by rw [ev_28987, show g_28985 = h0 from o_28986, show y3_1.toNatClampNeg = 10 + (y3_1.toInt.toNat - 10) from by have z := B_28910.1; simp only [tnc]; omega]))
        have I := I.upS (sp' := spM (PBk (IA sl pl oh dh w) h0 (y3_1.toInt.toNat - 10 + 1)) pi px (EQ h0)) (k := 1) (j := 0) (by decide) ef_28991 (okE_a (g := g_28990) o_28992) pAC
        obtain ⟨x_28993, ex_28993⟩ : ∃ z : Int32, z = y3_1 + 1 := ⟨_, rfl⟩
        refine lv_iinc (v := x_28993) (lv' := [(1, .int x_28993), (0, .ref (ad 0 0))]) hx hb dX12_putBack_21 hl (k := 1) rfl (by rw [ex_28993]; rfl) (by decide) rfl (fun ls hl => ?_)
        refine lv_goto (tgt := 3) hx hb dX12_putBack_24 (by decide) ?_
        have I : SH (spM (PBk (IA sl pl oh dh w) h0 ((x_28993 : Int32).toInt.toNat - 10)) pi px (EQ h0)) nnM G ad L_3 f_28991 := by have z9 := (la_add ex_28993 (rfl : y3_1.toInt = y3_1.toInt) (show (1 : Int32).toInt = 1 from rfl) B_28910 (show bn 1 1 (1 : Int32) from bn_k (by decide)) (by decide)); have z8 := (B_28910).1; have e9 : (x_28993 : Int32).toInt.toNat - 10 = y3_1.toInt.toNat - 10 + 1 := (by omega); rw [e9]; exact I
        exact ih3 _ (by rw [← hm3]; exact ms_up (m := 1) ex_28993 (show bn 1 1 (1 : Int32) from bn_k (by decide)) B_28910 (bn_w (bn_eq ex_28993 (bn_add B_28910 (show bn 1 1 (1 : Int32) from bn_k (by decide)) (by decide))) (by decide) : bn 10 114 x_28993) (by decide)) x_28993 _ _  _ _ _ I (bn_w (bn_eq ex_28993 (bn_add B_28910 (show bn 1 1 (1 : Int32) from bn_k (by decide)) (by decide))) (by decide)) rfl Y (lv_sub hl [1, 0] rfl)
  refine lv_bipush (v := 10) hx hb dX12_putBack_0 (by decide) ?_
  refine lv_istore_n (lv' := [(1, .int 10), (0, .ref (ad 0 0))]) hx hb dX12_putBack_2 rfl hl (by decide) rfl (fun ls hl => ?_)
  obtain ⟨g_28994, p_ad_1_0, o_28995⟩ := I.opi (k := 1) (j := 0) (by decide) rfl
  have p_ad_1_0 : pt L f (ad 1 0) (.inl (G.2 0, 10568, .inl g_28994)) := p_ad_1_0
  have o_28996 : (PBk (IA sl pl oh dh w) h0 ((10 : Int32).toInt.toNat - 10)) g_28994 := (PBk_0 o_28995)
  have I := I.castS (sp' := spM (PBk (IA sl pl oh dh w) h0 ((10 : Int32).toInt.toNat - 10)) pi px (EQ h0)) (k := 1) (j := 0) (by decide) p_ad_1_0 (okE_a (g := g_28994) o_28996) pAC
  exact J_3 _ 10 _ _  _ _ _ I (bn_w (show bn 10 10 (10 : Int32) from bn_k (by decide)) (by decide)) rfl Y (lv_sub hl [1, 0] rfl)
set_option maxHeartbeats 4000000 in
set_option maxRecDepth 100000 in
theorem x_X12_copy_image {l : Launch} {G : GG}  {L : List Nat} {f : HF} {ad : Nat → Nat → Nat} {pl : Int} {oh : Int} {dh : Int} {w : WW} {gp2 : (Nat → Int32) → Prop} {zL : Int × Int} {zF : Int × Int} {zQ : Int × Int} {zT : (Nat → Int32) → Prop} {px : (Nat → Int32) → Prop} {pa : (Nat → Int32) → Prop} (I : SH (spM (IA 0 pl oh dh w) ((gp2, zL, zF, zQ, zT) : PIT) px pa) nnM G ad L f) (hB : BBp 0 pl oh dh w) : PMv l yX12_copy cX12_copy 3 0 0 0 G [.ref (ad 1 0), .ref (ad 2 0)] L f (fun L1 f1 => SH (spM (IA 0 pl oh dh w) (((IA 0 pl oh dh w), zL, zF, zQ, zT) : PIT) px pa) nnM G ad L1 f1) := by
  refine PMv.of (post := fun L1 f1 => SH (spM (IA 0 pl oh dh w) (((IA 0 pl oh dh w), zL, zF, zQ, zT) : PIT) px pa) nnM G ad L1 f1) (own := RX12) (by decide) rfl (Nat.le_of_ble_eq_true rfl) (fun sz p e s m args below meth c A ls hA1 hname S Y hl => ?_)
  have hx := S.hx
  have hb := S.hb
  have hl : lv_has ls 3 [(0, .ref (ad 1 0)), (1, .ref (ad 2 0))] := hl
  obtain ⟨ga, pga, oga⟩ := I.opi (k := 1) (j := 0) (by decide) rfl
  have I := I.castS (sp' := spM (EQ ga) ((gp2, zL, zF, zQ, zT) : PIT) px pa) (k := 1) (j := 0) (by decide) pga (okE_a (g := ga) (rfl : EQ ga ga)) pAC
  have J_2 : ∀ (n2 : Nat) (y2_2 : Int32) (L_2 : List Nat) (f_2 : HF) (H : Heap) (locs : List Loc) (ls : Array Slot), (SH (spM (EQ ga) (((CPk ga y2_2.toInt.toNat), zL, zF, zQ, zT) : PIT) px pa) nnM G ad L_2 f_2) → (bn 0 10568 y2_2) → (((10568 : Int) - y2_2.toInt).toNat = n2) → (DY G A s [] L_2 f_2 H locs) → (lv_has ls 3 [(0, .ref (ad 1 0)), (1, .ref (ad 2 0)), (2, .int y2_2)]) → W p l e (rmD 0 0 0) s m args below meth c H locs (0) (0) (MQ below (va_Qv (fun (u : List Nat × HF) => (fun L1 f1 => SH (spM (IA 0 pl oh dh w) (((IA 0 pl oh dh w), zL, zF, zQ, zT) : PIT) px pa) nnM G ad L1 f1) u.1 u.2) (fun u t => pOut G (va_A (va_pl L f) sz) u.1 u.2 t) (va_A (va_pl L f) sz)) args s 0 0 A) (F0 m 2 ls []) := by
    intro n2
    induction n2 using Nat.strongRecOn with
    | _ n2 ih2 =>
      intro y2_2 L_2 f_2 H locs ls I b_y2_2 hm2 Y hl
      refine lv_iload_n hx hb dX12_copy_2 rfl (lv_at hl 2 rfl) ?_
      refine lv_sipush (v := 10568) hx hb dX12_copy_3 (by decide) ?_
      refine lv_icmp_ge (tgt := 21) hx hb dX12_copy_6 (by decide) (fun c_29468 => ?_) (fun c_29468 => ?_)
      · have B_29469 : bn 10568 10568 y2_2 := bn_w (bn_ler c_29468 (show bn 10568 10568 (10568 : Int32) from bn_k (by decide)) b_y2_2) (by decide)
        obtain ⟨g_29471, p_ad_2_0, o_29472⟩ := I.opi (k := 2) (j := 0) (by decide) rfl
        have p_ad_2_0 : pt L_2 f_2 (ad 2 0) (.inl (G.2 0, 10568, .inl g_29471)) := p_ad_2_0
        have o_29473 : (IA 0 pl oh dh w) g_29471 := (CPk_end (h := g_29471) (show CPk ga 10568 _ from by rw [← (tn_eq (n := 10568) (bn_w B_29469 (by decide)))]; exact o_29472) oga)
        have I := I.castS (sp' := spM (EQ ga) (((IA 0 pl oh dh w), zL, zF, zQ, zT) : PIT) px pa) (k := 2) (j := 0) (by decide) p_ad_2_0 (okE_a (g := g_29471) o_29473) pIC
        exact prV (post := fun L1 f1 => SH (spM (IA 0 pl oh dh w) (((IA 0 pl oh dh w), zL, zF, zQ, zT) : PIT) px pa) nnM G ad L1 f1) S Y (by decide) (by decide) hA1 (SHpA I (EQ_to oga)) dX12_copy_21
      · have B_29470 : bn 0 10567 y2_2 := bn_w (bn_gtr c_29468 (show bn 10568 10568 (10568 : Int32) from bn_k (by decide)) b_y2_2) (by decide)
        refine lv_aload_n hx hb dX12_copy_9 rfl (lv_at hl 1 rfl) ?_
        refine lv_iload_n hx hb dX12_copy_10 rfl (lv_at hl 2 rfl) ?_
        refine lv_aload_n hx hb dX12_copy_11 rfl (lv_at hl 0 rfl) ?_
        refine lv_iload_n hx hb dX12_copy_12 rfl (lv_at hl 2 rfl) ?_
        obtain ⟨g_29474, p_ad_1_0, o_29475⟩ := I.opi (k := 1) (j := 0) (by decide) rfl
        have p_ad_1_0 : pt L_2 f_2 (ad 1 0) (.inl (G.2 0, 10568, .inl g_29474)) := p_ad_1_0
        obtain ⟨v_29476, ev_29476⟩ : ∃ z, z = g_29474 (y2_2 : Int32).toNatClampNeg := ⟨_, rfl⟩
        refine pg_iald S Y (v := v_29476) p_ad_1_0 (vp_bn B_29470 (by decide)) ev_29476.symm dX12_copy_13 ?_
        obtain ⟨g_29477, p_ad_2_0, o_29478⟩ := I.opi (k := 2) (j := 0) (by decide) rfl
        have p_ad_2_0 : pt L_2 f_2 (ad 2 0) (.inl (G.2 0, 10568, .inl g_29477)) := p_ad_2_0
        refine pg_iast S Y p_ad_2_0 (vp_bn B_29470 (by decide)) dX12_copy_14 (fun f_29480 H locs ef_29480 Y => ?_)
        obtain ⟨g_29479, eg_29479⟩ : ∃ z, z = upd (g_29477) (y2_2 : Int32).toNatClampNeg v_29476 := ⟨_, rfl⟩
        rw [← eg_29479] at ef_29480
        have p_ad_1_0 := p_ad_1_0.up ef_29480 (I.ne (k := 1) (j := 0) (k' := 2) (j' := 0) (by decide) (by decide) (Or.inl (by decide)))
        have p_ad_2_0 := p_ad_2_0.me ef_29480
        have o_29481 : (CPk ga (y2_2.toInt.toNat + 1)) g_29479 := (by rw [eg_29479]; exact CPk_st o_29478 (tnc y2_2) (by rw [ev_29476, show g_29474 = ga from o_29475]; rfl))
        have I := I.upS (sp' := spM (EQ ga) (((CPk ga (y2_2.toInt.toNat + 1)), zL, zF, zQ, zT) : PIT) px pa) (k := 2) (j := 0) (by decide) ef_29480 (okE_a (g := g_29479) o_29481) pIC
        obtain ⟨x_29482, ex_29482⟩ : ∃ z : Int32, z = y2_2 + 1 := ⟨_, rfl⟩
        refine lv_iinc (v := x_29482) (lv' := [(2, .int x_29482), (0, .ref (ad 1 0)), (1, .ref (ad 2 0))]) hx hb dX12_copy_15 hl (k := 2) rfl (by rw [ex_29482]; rfl) (by decide) rfl (fun ls hl => ?_)
        refine lv_goto (tgt := 2) hx hb dX12_copy_18 (by decide) ?_
        have I : SH (spM (EQ ga) (((CPk ga (x_29482 : Int32).toInt.toNat), zL, zF, zQ, zT) : PIT) px pa) nnM G ad L_2 f_29480 := by have z9 := (la_add ex_29482 (rfl : y2_2.toInt = y2_2.toInt) (show (1 : Int32).toInt = 1 from rfl) B_29470 (show bn 1 1 (1 : Int32) from bn_k (by decide)) (by decide)); have z8 := (B_29470).1; have e9 : (x_29482 : Int32).toInt.toNat = y2_2.toInt.toNat + 1 := (by omega); rw [e9]; exact I
        exact ih2 _ (by rw [← hm2]; exact ms_up (m := 1) ex_29482 (show bn 1 1 (1 : Int32) from bn_k (by decide)) B_29470 (bn_w (bn_eq ex_29482 (bn_add B_29470 (show bn 1 1 (1 : Int32) from bn_k (by decide)) (by decide))) (by decide) : bn 0 10568 x_29482) (by decide)) x_29482 _ _  _ _ _ I (bn_w (bn_eq ex_29482 (bn_add B_29470 (show bn 1 1 (1 : Int32) from bn_k (by decide)) (by decide))) (by decide)) rfl Y (lv_sub hl [1, 2, 0] rfl)
  refine lv_iconst (v := 0) hx hb dX12_copy_0 (by decide) ?_
  refine lv_istore_n (lv' := [(2, .int 0), (0, .ref (ad 1 0)), (1, .ref (ad 2 0))]) hx hb dX12_copy_1 rfl hl (by decide) rfl (fun ls hl => ?_)
  obtain ⟨g_29483, p_ad_2_0, o_29484⟩ := I.opi (k := 2) (j := 0) (by decide) rfl
  have p_ad_2_0 : pt L f (ad 2 0) (.inl (G.2 0, 10568, .inl g_29483)) := p_ad_2_0
  have o_29485 : (CPk ga (0 : Int32).toInt.toNat) g_29483 := (fun j hj => absurd hj (Nat.not_lt_zero j))
  have I := I.castS (sp' := spM (EQ ga) (((CPk ga (0 : Int32).toInt.toNat), zL, zF, zQ, zT) : PIT) px pa) (k := 2) (j := 0) (by decide) p_ad_2_0 (okE_a (g := g_29483) o_29485) pIC
  exact J_2 _ 0 _ _  _ _ _ I (bn_w (show bn 0 0 (0 : Int32) from bn_k (by decide)) (by decide)) rfl Y (lv_sub hl [1, 2, 0] rfl)
set_option maxHeartbeats 4000000 in
set_option maxRecDepth 100000 in
theorem x_X12_copy_back {l : Launch} {G : GG}  {L : List Nat} {f : HF} {ad : Nat → Nat → Nat} {sl : Int} {pl : Int} {oh : Int} {dh : Int} {w : WW} {w2 : WW} {zL : Int × Int} {zF : Int × Int} {zQ : Int × Int} {zT : (Nat → Int32) → Prop} {px : (Nat → Int32) → Prop} {pa : (Nat → Int32) → Prop} (I : SH (spM (IA sl pl oh dh w) (((IA 0 0 14 9999 w2), zL, zF, zQ, zT) : PIT) px pa) nnM G ad L f) (hB : BBp sl pl oh dh w) : PMv l yX12_copy cX12_copy 3 0 0 0 G [.ref (ad 2 0), .ref (ad 1 0)] L f (fun L1 f1 => SH (spM (IA 0 0 14 9999 w2) (((IA 0 0 14 9999 w2), zL, zF, zQ, zT) : PIT) px pa) nnM G ad L1 f1) := by
  refine PMv.of (post := fun L1 f1 => SH (spM (IA 0 0 14 9999 w2) (((IA 0 0 14 9999 w2), zL, zF, zQ, zT) : PIT) px pa) nnM G ad L1 f1) (own := RX12) (by decide) rfl (Nat.le_of_ble_eq_true rfl) (fun sz p e s m args below meth c A ls hA1 hname S Y hl => ?_)
  have hx := S.hx
  have hb := S.hb
  have hl : lv_has ls 3 [(0, .ref (ad 2 0)), (1, .ref (ad 1 0))] := hl
  obtain ⟨ga, pga, oga⟩ := I.opi (k := 2) (j := 0) (by decide) rfl
  have I := I.castS (sp' := spM (IA sl pl oh dh w) (((EQ ga), zL, zF, zQ, zT) : PIT) px pa) (k := 2) (j := 0) (by decide) pga (okE_a (g := ga) (rfl : EQ ga ga)) pIC
  have J_2 : ∀ (n2 : Nat) (y2_2 : Int32) (L_2 : List Nat) (f_2 : HF) (H : Heap) (locs : List Loc) (ls : Array Slot), (SH (spM (CPk ga y2_2.toInt.toNat) (((EQ ga), zL, zF, zQ, zT) : PIT) px pa) nnM G ad L_2 f_2) → (bn 0 10568 y2_2) → (((10568 : Int) - y2_2.toInt).toNat = n2) → (DY G A s [] L_2 f_2 H locs) → (lv_has ls 3 [(0, .ref (ad 2 0)), (1, .ref (ad 1 0)), (2, .int y2_2)]) → W p l e (rmD 0 0 0) s m args below meth c H locs (0) (0) (MQ below (va_Qv (fun (u : List Nat × HF) => (fun L1 f1 => SH (spM (IA 0 0 14 9999 w2) (((IA 0 0 14 9999 w2), zL, zF, zQ, zT) : PIT) px pa) nnM G ad L1 f1) u.1 u.2) (fun u t => pOut G (va_A (va_pl L f) sz) u.1 u.2 t) (va_A (va_pl L f) sz)) args s 0 0 A) (F0 m 2 ls []) := by
    intro n2
    induction n2 using Nat.strongRecOn with
    | _ n2 ih2 =>
      intro y2_2 L_2 f_2 H locs ls I b_y2_2 hm2 Y hl
      refine lv_iload_n hx hb dX12_copy_2 rfl (lv_at hl 2 rfl) ?_
      refine lv_sipush (v := 10568) hx hb dX12_copy_3 (by decide) ?_
      refine lv_icmp_ge (tgt := 21) hx hb dX12_copy_6 (by decide) (fun c_29957 => ?_) (fun c_29957 => ?_)
      · have B_29958 : bn 10568 10568 y2_2 := bn_w (bn_ler c_29957 (show bn 10568 10568 (10568 : Int32) from bn_k (by decide)) b_y2_2) (by decide)
        obtain ⟨g_29960, p_ad_1_0, o_29961⟩ := I.opi (k := 1) (j := 0) (by decide) rfl
        have p_ad_1_0 : pt L_2 f_2 (ad 1 0) (.inl (G.2 0, 10568, .inl g_29960)) := p_ad_1_0
        have o_29962 : (IA 0 0 14 9999 w2) g_29960 := (CPk_end (h := g_29960) (show CPk ga 10568 _ from by rw [← (tn_eq (n := 10568) (bn_w B_29958 (by decide)))]; exact o_29961) oga)
        have I := I.castS (sp' := spM (IA 0 0 14 9999 w2) (((EQ ga), zL, zF, zQ, zT) : PIT) px pa) (k := 1) (j := 0) (by decide) p_ad_1_0 (okE_a (g := g_29960) o_29962) pAC
        exact prV (post := fun L1 f1 => SH (spM (IA 0 0 14 9999 w2) (((IA 0 0 14 9999 w2), zL, zF, zQ, zT) : PIT) px pa) nnM G ad L1 f1) S Y (by decide) (by decide) hA1 (SHpI I (EQ_to oga)) dX12_copy_21
      · have B_29959 : bn 0 10567 y2_2 := bn_w (bn_gtr c_29957 (show bn 10568 10568 (10568 : Int32) from bn_k (by decide)) b_y2_2) (by decide)
        refine lv_aload_n hx hb dX12_copy_9 rfl (lv_at hl 1 rfl) ?_
        refine lv_iload_n hx hb dX12_copy_10 rfl (lv_at hl 2 rfl) ?_
        refine lv_aload_n hx hb dX12_copy_11 rfl (lv_at hl 0 rfl) ?_
        refine lv_iload_n hx hb dX12_copy_12 rfl (lv_at hl 2 rfl) ?_
        obtain ⟨g_29963, p_ad_2_0, o_29964⟩ := I.opi (k := 2) (j := 0) (by decide) rfl
        have p_ad_2_0 : pt L_2 f_2 (ad 2 0) (.inl (G.2 0, 10568, .inl g_29963)) := p_ad_2_0
        obtain ⟨v_29965, ev_29965⟩ : ∃ z, z = g_29963 (y2_2 : Int32).toNatClampNeg := ⟨_, rfl⟩
        refine pg_iald S Y (v := v_29965) p_ad_2_0 (vp_bn B_29959 (by decide)) ev_29965.symm dX12_copy_13 ?_
        obtain ⟨g_29966, p_ad_1_0, o_29967⟩ := I.opi (k := 1) (j := 0) (by decide) rfl
        have p_ad_1_0 : pt L_2 f_2 (ad 1 0) (.inl (G.2 0, 10568, .inl g_29966)) := p_ad_1_0
        refine pg_iast S Y p_ad_1_0 (vp_bn B_29959 (by decide)) dX12_copy_14 (fun f_29969 H locs ef_29969 Y => ?_)
        obtain ⟨g_29968, eg_29968⟩ : ∃ z, z = upd (g_29966) (y2_2 : Int32).toNatClampNeg v_29965 := ⟨_, rfl⟩
        rw [← eg_29968] at ef_29969
        have p_ad_2_0 := p_ad_2_0.up ef_29969 (I.ne (k := 2) (j := 0) (k' := 1) (j' := 0) (by decide) (by decide) (Or.inl (by decide)))
        have p_ad_1_0 := p_ad_1_0.me ef_29969
        have o_29970 : (CPk ga (y2_2.toInt.toNat + 1)) g_29968 := (by rw [eg_29968]; exact CPk_st o_29967 (tnc y2_2) (by rw [ev_29965, show g_29963 = ga from o_29964]; rfl))
        have I := I.upS (sp' := spM (CPk ga (y2_2.toInt.toNat + 1)) (((EQ ga), zL, zF, zQ, zT) : PIT) px pa) (k := 1) (j := 0) (by decide) ef_29969 (okE_a (g := g_29968) o_29970) pAC
        obtain ⟨x_29971, ex_29971⟩ : ∃ z : Int32, z = y2_2 + 1 := ⟨_, rfl⟩
        refine lv_iinc (v := x_29971) (lv' := [(2, .int x_29971), (0, .ref (ad 2 0)), (1, .ref (ad 1 0))]) hx hb dX12_copy_15 hl (k := 2) rfl (by rw [ex_29971]; rfl) (by decide) rfl (fun ls hl => ?_)
        refine lv_goto (tgt := 2) hx hb dX12_copy_18 (by decide) ?_
        have I : SH (spM (CPk ga (x_29971 : Int32).toInt.toNat) (((EQ ga), zL, zF, zQ, zT) : PIT) px pa) nnM G ad L_2 f_29969 := by have z9 := (la_add ex_29971 (rfl : y2_2.toInt = y2_2.toInt) (show (1 : Int32).toInt = 1 from rfl) B_29959 (show bn 1 1 (1 : Int32) from bn_k (by decide)) (by decide)); have z8 := (B_29959).1; have e9 : (x_29971 : Int32).toInt.toNat = y2_2.toInt.toNat + 1 := (by omega); rw [e9]; exact I
        exact ih2 _ (by rw [← hm2]; exact ms_up (m := 1) ex_29971 (show bn 1 1 (1 : Int32) from bn_k (by decide)) B_29959 (bn_w (bn_eq ex_29971 (bn_add B_29959 (show bn 1 1 (1 : Int32) from bn_k (by decide)) (by decide))) (by decide) : bn 0 10568 x_29971) (by decide)) x_29971 _ _  _ _ _ I (bn_w (bn_eq ex_29971 (bn_add B_29959 (show bn 1 1 (1 : Int32) from bn_k (by decide)) (by decide))) (by decide)) rfl Y (lv_sub hl [1, 2, 0] rfl)
  refine lv_iconst (v := 0) hx hb dX12_copy_0 (by decide) ?_
  refine lv_istore_n (lv' := [(2, .int 0), (0, .ref (ad 2 0)), (1, .ref (ad 1 0))]) hx hb dX12_copy_1 rfl hl (by decide) rfl (fun ls hl => ?_)
  obtain ⟨g_29972, p_ad_1_0, o_29973⟩ := I.opi (k := 1) (j := 0) (by decide) rfl
  have p_ad_1_0 : pt L f (ad 1 0) (.inl (G.2 0, 10568, .inl g_29972)) := p_ad_1_0
  have o_29974 : (CPk ga (0 : Int32).toInt.toNat) g_29972 := (fun j hj => absurd hj (Nat.not_lt_zero j))
  have I := I.castS (sp' := spM (CPk ga (0 : Int32).toInt.toNat) (((EQ ga), zL, zF, zQ, zT) : PIT) px pa) (k := 1) (j := 0) (by decide) p_ad_1_0 (okE_a (g := g_29972) o_29974) pAC
  exact J_2 _ 0 _ _  _ _ _ I (bn_w (show bn 0 0 (0 : Int32) from bn_k (by decide)) (by decide)) rfl Y (lv_sub hl [1, 2, 0] rfl)
