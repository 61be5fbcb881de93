theorem dX4_init_0 : decode cX4_init 0 = .ok (.aload_n 0, 1) := by decide +kernel
theorem dX4_init_1 : decode cX4_init 1 = .ok (.invokespecial 3, 3) := by decide +kernel
theorem km4_3 : inW (Cond.methodLink RX4 3 objectInit) := ⟨List.mem_of_getElem? (i := 158) (by decide +kernel), by decide +kernel⟩
theorem kObj1 : inW (Cond.instanceMethod objectInit) := ⟨List.mem_of_getElem? (i := 151) (by decide +kernel), by decide +kernel⟩
theorem kObj2 : inW (Cond.code objectInit ⟨#[0xb1]⟩ 1 none) := ⟨List.mem_of_getElem? (i := 152) (by decide +kernel), by decide +kernel⟩
theorem dX4_init_4 : decode cX4_init 4 = .ok (.aload_n 0, 1) := by decide +kernel
theorem dX4_init_5 : decode cX4_init 5 = .ok (.bipush 98, 2) := by decide +kernel
theorem dX4_init_7 : decode cX4_init 7 = .ok (.newarray .int, 2) := by decide +kernel
theorem ka_int : inW (Cond.arrayClass .int) := ⟨List.mem_of_getElem? (i := 197) (by decide +kernel), by decide +kernel⟩
theorem dX4_init_9 : decode cX4_init 9 = .ok (.putfield 9, 3) := by decide +kernel
theorem dX4_init_12 : decode cX4_init 12 = .ok (.aload_n 0, 1) := by decide +kernel
theorem dX4_init_13 : decode cX4_init 13 = .ok (.bipush 90, 2) := by decide +kernel
theorem dX4_init_15 : decode cX4_init 15 = .ok (.newarray .int, 2) := by decide +kernel
theorem dX4_init_17 : decode cX4_init 17 = .ok (.putfield 15, 3) := by decide +kernel
theorem dX4_init_20 : decode cX4_init 20 = .ok (.aload_n 0, 1) := by decide +kernel
theorem dX4_init_21 : decode cX4_init 21 = .ok (.sipush 137, 3) := by decide +kernel
theorem dX4_init_24 : decode cX4_init 24 = .ok (.putfield 18, 3) := by decide +kernel
theorem dX4_init_27 : decode cX4_init 27 = .ok (.return_, 1) := by decide +kernel
theorem dX9_init_0 : decode cX9_init 0 = .ok (.aload_n 0, 1) := by decide +kernel
theorem dX9_init_1 : decode cX9_init 1 = .ok (.invokespecial 3, 3) := by decide +kernel
theorem km9_3 : inW (Cond.methodLink RX9 3 objectInit) := ⟨List.mem_of_getElem? (i := 214) (by decide +kernel), by decide +kernel⟩
theorem dX9_init_4 : decode cX9_init 4 = .ok (.aload_n 0, 1) := by decide +kernel
theorem dX9_init_5 : decode cX9_init 5 = .ok (.bipush 24, 2) := by decide +kernel
theorem dX9_init_7 : decode cX9_init 7 = .ok (.newarray .int, 2) := by decide +kernel
theorem dX9_init_9 : decode cX9_init 9 = .ok (.putfield 9, 3) := by decide +kernel
theorem dX9_init_12 : decode cX9_init 12 = .ok (.aload_n 0, 1) := by decide +kernel
theorem dX9_init_13 : decode cX9_init 13 = .ok (.iload_n 1, 1) := by decide +kernel
theorem dX9_init_14 : decode cX9_init 14 = .ok (.bipush 8, 2) := by decide +kernel
theorem dX9_init_16 : decode cX9_init 16 = .ok (.invokestatic 15, 3) := by decide +kernel
theorem km9_15 : inW (Cond.methodLink RX9 15 Lib.Math.min.name) := ⟨List.mem_of_getElem? (i := 215) (by decide +kernel), by decide +kernel⟩
theorem dX9_init_19 : decode cX9_init 19 = .ok (.putfield 21, 3) := by decide +kernel
theorem dX9_init_22 : decode cX9_init 22 = .ok (.return_, 1) := by decide +kernel
theorem dX7_init_0 : decode cX7_init 0 = .ok (.aload_n 0, 1) := by decide +kernel
theorem dX7_init_1 : decode cX7_init 1 = .ok (.invokespecial 3, 3) := by decide +kernel
theorem km7_3 : inW (Cond.methodLink RX7 3 objectInit) := ⟨List.mem_of_getElem? (i := 236) (by decide +kernel), by decide +kernel⟩
theorem dX7_init_4 : decode cX7_init 4 = .ok (.aload_n 0, 1) := by decide +kernel
theorem dX7_init_5 : decode cX7_init 5 = .ok (.sipush 300, 3) := by decide +kernel
theorem dX7_init_8 : decode cX7_init 8 = .ok (.newarray .int, 2) := by decide +kernel
theorem dX7_init_10 : decode cX7_init 10 = .ok (.putfield 9, 3) := by decide +kernel
theorem dX7_init_13 : decode cX7_init 13 = .ok (.aload_n 0, 1) := by decide +kernel
theorem dX7_init_14 : decode cX7_init 14 = .ok (.sipush 300, 3) := by decide +kernel
theorem dX7_init_17 : decode cX7_init 17 = .ok (.newarray .int, 2) := by decide +kernel
theorem dX7_init_19 : decode cX7_init 19 = .ok (.putfield 15, 3) := by decide +kernel
theorem dX7_init_22 : decode cX7_init 22 = .ok (.aload_n 0, 1) := by decide +kernel
theorem dX7_init_23 : decode cX7_init 23 = .ok (.iconst 3, 1) := by decide +kernel
theorem dX7_init_24 : decode cX7_init 24 = .ok (.newarray .int, 2) := by decide +kernel
theorem dX7_init_26 : decode cX7_init 26 = .ok (.putfield 18, 3) := by decide +kernel
theorem dX7_init_29 : decode cX7_init 29 = .ok (.aload_n 0, 1) := by decide +kernel
theorem dX7_init_30 : decode cX7_init 30 = .ok (.iconst 3, 1) := by decide +kernel
theorem dX7_init_31 : decode cX7_init 31 = .ok (.newarray .int, 2) := by decide +kernel
theorem dX7_init_33 : decode cX7_init 33 = .ok (.putfield 21, 3) := by decide +kernel
theorem dX7_init_36 : decode cX7_init 36 = .ok (.aload_n 0, 1) := by decide +kernel
theorem dX7_init_37 : decode cX7_init 37 = .ok (.bipush 120, 2) := by decide +kernel
theorem dX7_init_39 : decode cX7_init 39 = .ok (.newarray .int, 2) := by decide +kernel
theorem dX7_init_41 : decode cX7_init 41 = .ok (.putfield 24, 3) := by decide +kernel
theorem dX7_init_44 : decode cX7_init 44 = .ok (.return_, 1) := by decide +kernel
theorem dX5_init_0 : decode cX5_init 0 = .ok (.aload_n 0, 1) := by decide +kernel
theorem dX5_init_1 : decode cX5_init 1 = .ok (.invokespecial 3, 3) := by decide +kernel
theorem km5_3 : inW (Cond.methodLink RX5 3 objectInit) := ⟨List.mem_of_getElem? (i := 338) (by decide +kernel), by decide +kernel⟩
theorem dX5_init_4 : decode cX5_init 4 = .ok (.aload_n 0, 1) := by decide +kernel
theorem dX5_init_5 : decode cX5_init 5 = .ok (.sipush 300, 3) := by decide +kernel
theorem dX5_init_8 : decode cX5_init 8 = .ok (.newarray .int, 2) := by decide +kernel
theorem dX5_init_10 : decode cX5_init 10 = .ok (.putfield 9, 3) := by decide +kernel
theorem dX5_init_13 : decode cX5_init 13 = .ok (.aload_n 0, 1) := by decide +kernel
theorem dX5_init_14 : decode cX5_init 14 = .ok (.sipush 301, 3) := by decide +kernel
theorem dX5_init_17 : decode cX5_init 17 = .ok (.newarray .int, 2) := by decide +kernel
theorem dX5_init_19 : decode cX5_init 19 = .ok (.putfield 15, 3) := by decide +kernel
theorem dX5_init_22 : decode cX5_init 22 = .ok (.aload_n 0, 1) := by decide +kernel
theorem dX5_init_23 : decode cX5_init 23 = .ok (.sipush 301, 3) := by decide +kernel
theorem dX5_init_26 : decode cX5_init 26 = .ok (.newarray .int, 2) := by decide +kernel
theorem dX5_init_28 : decode cX5_init 28 = .ok (.putfield 18, 3) := by decide +kernel
theorem dX5_init_31 : decode cX5_init 31 = .ok (.aload_n 0, 1) := by decide +kernel
theorem dX5_init_32 : decode cX5_init 32 = .ok (.sipush 301, 3) := by decide +kernel
theorem dX5_init_35 : decode cX5_init 35 = .ok (.newarray .int, 2) := by decide +kernel
theorem dX5_init_37 : decode cX5_init 37 = .ok (.putfield 21, 3) := by decide +kernel
theorem dX5_init_40 : decode cX5_init 40 = .ok (.aload_n 0, 1) := by decide +kernel
theorem dX5_init_41 : decode cX5_init 41 = .ok (.iconst (-1), 1) := by decide +kernel
theorem dX5_init_42 : decode cX5_init 42 = .ok (.putfield 24, 3) := by decide +kernel
theorem dX5_init_45 : decode cX5_init 45 = .ok (.aload_n 0, 1) := by decide +kernel
theorem dX5_init_46 : decode cX5_init 46 = .ok (.iconst (-1), 1) := by decide +kernel
theorem dX5_init_47 : decode cX5_init 47 = .ok (.putfield 28, 3) := by decide +kernel
theorem dX5_init_50 : decode cX5_init 50 = .ok (.return_, 1) := by decide +kernel
theorem dX3_init_0 : decode cX3_init 0 = .ok (.aload_n 0, 1) := by decide +kernel
theorem dX3_init_1 : decode cX3_init 1 = .ok (.invokespecial 3, 3) := by decide +kernel
theorem km3_3 : inW (Cond.methodLink RX3 3 objectInit) := ⟨List.mem_of_getElem? (i := 387) (by decide +kernel), by decide +kernel⟩
theorem dX3_init_4 : decode cX3_init 4 = .ok (.aload_n 0, 1) := by decide +kernel
theorem dX3_init_5 : decode cX3_init 5 = .ok (.sipush 300, 3) := by decide +kernel
theorem dX3_init_8 : decode cX3_init 8 = .ok (.newarray .int, 2) := by decide +kernel
theorem dX3_init_10 : decode cX3_init 10 = .ok (.putfield 9, 3) := by decide +kernel
theorem dX3_init_13 : decode cX3_init 13 = .ok (.aload_n 0, 1) := by decide +kernel
theorem dX3_init_14 : decode cX3_init 14 = .ok (.aload_n 1, 1) := by decide +kernel
theorem dX3_init_15 : decode cX3_init 15 = .ok (.putfield 15, 3) := by decide +kernel
theorem dX3_init_18 : decode cX3_init 18 = .ok (.return_, 1) := by decide +kernel
theorem dX6_init_0 : decode cX6_init 0 = .ok (.aload_n 0, 1) := by decide +kernel
theorem dX6_init_1 : decode cX6_init 1 = .ok (.invokespecial 3, 3) := by decide +kernel
theorem km6_3 : inW (Cond.methodLink RX6 3 objectInit) := ⟨List.mem_of_getElem? (i := 403) (by decide +kernel), by decide +kernel⟩
theorem dX6_init_4 : decode cX6_init 4 = .ok (.aload_n 0, 1) := by decide +kernel
theorem dX6_init_5 : decode cX6_init 5 = .ok (.aload_n 1, 1) := by decide +kernel
theorem dX6_init_6 : decode cX6_init 6 = .ok (.putfield 9, 3) := by decide +kernel
theorem dX6_init_9 : decode cX6_init 9 = .ok (.return_, 1) := by decide +kernel
theorem dX1_init_0 : decode cX1_init 0 = .ok (.aload_n 0, 1) := by decide +kernel
theorem dX1_init_1 : decode cX1_init 1 = .ok (.invokespecial 3, 3) := by decide +kernel
theorem km1_3 : inW (Cond.methodLink RX1 3 objectInit) := ⟨List.mem_of_getElem? (i := 416) (by decide +kernel), by decide +kernel⟩
theorem dX1_init_4 : decode cX1_init 4 = .ok (.aload_n 0, 1) := by decide +kernel
theorem dX1_init_5 : decode cX1_init 5 = .ok (.bipush 14, 2) := by decide +kernel
theorem dX1_init_7 : decode cX1_init 7 = .ok (.newarray .int, 2) := by decide +kernel
theorem dX1_init_9 : decode cX1_init 9 = .ok (.putfield 9, 3) := by decide +kernel
theorem dX1_init_12 : decode cX1_init 12 = .ok (.aload_n 0, 1) := by decide +kernel
theorem dX1_init_13 : decode cX1_init 13 = .ok (.aload_n 1, 1) := by decide +kernel
theorem dX1_init_14 : decode cX1_init 14 = .ok (.putfield 15, 3) := by decide +kernel
theorem dX1_init_17 : decode cX1_init 17 = .ok (.aload_n 0, 1) := by decide +kernel
theorem dX1_init_18 : decode cX1_init 18 = .ok (.aload_n 2, 1) := by decide +kernel
theorem dX1_init_19 : decode cX1_init 19 = .ok (.putfield 19, 3) := by decide +kernel
theorem dX1_init_22 : decode cX1_init 22 = .ok (.aload_n 0, 1) := by decide +kernel
theorem dX1_init_23 : decode cX1_init 23 = .ok (.aload_n 3, 1) := by decide +kernel
theorem dX1_init_24 : decode cX1_init 24 = .ok (.putfield 23, 3) := by decide +kernel
theorem dX1_init_27 : decode cX1_init 27 = .ok (.return_, 1) := by decide +kernel
theorem dX2_init_0 : decode cX2_init 0 = .ok (.aload_n 0, 1) := by decide +kernel
theorem dX2_init_1 : decode cX2_init 1 = .ok (.invokespecial 3, 3) := by decide +kernel
theorem km2_3 : inW (Cond.methodLink RX2 3 objectInit) := ⟨List.mem_of_getElem? (i := 438) (by decide +kernel), by decide +kernel⟩
theorem dX2_init_4 : decode cX2_init 4 = .ok (.aload_n 0, 1) := by decide +kernel
theorem dX2_init_5 : decode cX2_init 5 = .ok (.aload_n 1, 1) := by decide +kernel
theorem dX2_init_6 : decode cX2_init 6 = .ok (.putfield 9, 3) := by decide +kernel
theorem dX2_init_9 : decode cX2_init 9 = .ok (.aload_n 0, 1) := by decide +kernel
theorem dX2_init_10 : decode cX2_init 10 = .ok (.aload_n 2, 1) := by decide +kernel
theorem dX2_init_11 : decode cX2_init 11 = .ok (.putfield 15, 3) := by decide +kernel
theorem dX2_init_14 : decode cX2_init 14 = .ok (.aload_n 0, 1) := by decide +kernel
theorem dX2_init_15 : decode cX2_init 15 = .ok (.aload_n 3, 1) := by decide +kernel
theorem dX2_init_16 : decode cX2_init 16 = .ok (.putfield 19, 3) := by decide +kernel
theorem dX2_init_19 : decode cX2_init 19 = .ok (.aload_n 0, 1) := by decide +kernel
theorem dX2_init_20 : decode cX2_init 20 = .ok (.aload 4, 2) := by decide +kernel
theorem dX2_init_22 : decode cX2_init 22 = .ok (.putfield 23, 3) := by decide +kernel
theorem dX2_init_25 : decode cX2_init 25 = .ok (.return_, 1) := by decide +kernel
theorem dX8_init_0 : decode cX8_init 0 = .ok (.aload_n 0, 1) := by decide +kernel
theorem dX8_init_1 : decode cX8_init 1 = .ok (.invokespecial 3, 3) := by decide +kernel
theorem km8_3 : inW (Cond.methodLink RX8 3 objectInit) := ⟨List.mem_of_getElem? (i := 457) (by decide +kernel), by decide +kernel⟩
theorem dX8_init_4 : decode cX8_init 4 = .ok (.aload_n 0, 1) := by decide +kernel
theorem dX8_init_5 : decode cX8_init 5 = .ok (.bipush 14, 2) := by decide +kernel
theorem dX8_init_7 : decode cX8_init 7 = .ok (.newarray .int, 2) := by decide +kernel
theorem dX8_init_9 : decode cX8_init 9 = .ok (.putfield 9, 3) := by decide +kernel
theorem dX8_init_12 : decode cX8_init 12 = .ok (.aload_n 0, 1) := by decide +kernel
theorem dX8_init_13 : decode cX8_init 13 = .ok (.bipush 14, 2) := by decide +kernel
theorem dX8_init_15 : decode cX8_init 15 = .ok (.newarray .int, 2) := by decide +kernel
theorem dX8_init_17 : decode cX8_init 17 = .ok (.putfield 15, 3) := by decide +kernel
theorem dX8_init_20 : decode cX8_init 20 = .ok (.aload_n 0, 1) := by decide +kernel
theorem dX8_init_21 : decode cX8_init 21 = .ok (.bipush 84, 2) := by decide +kernel
theorem dX8_init_23 : decode cX8_init 23 = .ok (.newarray .int, 2) := by decide +kernel
theorem dX8_init_25 : decode cX8_init 25 = .ok (.putfield 18, 3) := by decide +kernel
theorem dX8_init_28 : decode cX8_init 28 = .ok (.aload_n 0, 1) := by decide +kernel
theorem dX8_init_29 : decode cX8_init 29 = .ok (.bipush 6, 2) := by decide +kernel
theorem dX8_init_31 : decode cX8_init 31 = .ok (.newarray .int, 2) := by decide +kernel
theorem dX8_init_33 : decode cX8_init 33 = .ok (.putfield 21, 3) := by decide +kernel
theorem dX8_init_36 : decode cX8_init 36 = .ok (.aload_n 0, 1) := by decide +kernel
theorem dX8_init_37 : decode cX8_init 37 = .ok (.aload_n 1, 1) := by decide +kernel
theorem dX8_init_38 : decode cX8_init 38 = .ok (.putfield 24, 3) := by decide +kernel
theorem dX8_init_41 : decode cX8_init 41 = .ok (.aload_n 0, 1) := by decide +kernel
theorem dX8_init_42 : decode cX8_init 42 = .ok (.aload_n 2, 1) := by decide +kernel
theorem dX8_init_43 : decode cX8_init 43 = .ok (.putfield 28, 3) := by decide +kernel
theorem dX8_init_46 : decode cX8_init 46 = .ok (.aload_n 0, 1) := by decide +kernel
theorem dX8_init_47 : decode cX8_init 47 = .ok (.aload_n 3, 1) := by decide +kernel
theorem dX8_init_48 : decode cX8_init 48 = .ok (.putfield 32, 3) := by decide +kernel
theorem dX8_init_51 : decode cX8_init 51 = .ok (.return_, 1) := by decide +kernel
theorem dX0_init_0 : decode cX0_init 0 = .ok (.aload_n 0, 1) := by decide +kernel
theorem dX0_init_1 : decode cX0_init 1 = .ok (.invokespecial 3, 3) := by decide +kernel
theorem km0_3 : inW (Cond.methodLink RX0 3 objectInit) := ⟨List.mem_of_getElem? (i := 494) (by decide +kernel), by decide +kernel⟩
theorem dX0_init_4 : decode cX0_init 4 = .ok (.aload_n 0, 1) := by decide +kernel
theorem dX0_init_5 : decode cX0_init 5 = .ok (.bipush 8, 2) := by decide +kernel
theorem dX0_init_7 : decode cX0_init 7 = .ok (.newarray .int, 2) := by decide +kernel
theorem dX0_init_9 : decode cX0_init 9 = .ok (.putfield 9, 3) := by decide +kernel
theorem dX0_init_12 : decode cX0_init 12 = .ok (.aload_n 0, 1) := by decide +kernel
theorem dX0_init_13 : decode cX0_init 13 = .ok (.bipush 6, 2) := by decide +kernel
theorem dX0_init_15 : decode cX0_init 15 = .ok (.newarray .int, 2) := by decide +kernel
theorem dX0_init_17 : decode cX0_init 17 = .ok (.putfield 15, 3) := by decide +kernel
theorem dX0_init_20 : decode cX0_init 20 = .ok (.aload_n 0, 1) := by decide +kernel
theorem dX0_init_21 : decode cX0_init 21 = .ok (.aload_n 1, 1) := by decide +kernel
theorem dX0_init_22 : decode cX0_init 22 = .ok (.putfield 18, 3) := by decide +kernel
theorem dX0_init_25 : decode cX0_init 25 = .ok (.return_, 1) := by decide +kernel
set_option maxHeartbeats 4000000 in
set_option maxRecDepth 100000 in
theorem c_X4_init {l : Launch} {G : GG} {L : List Nat} {f : HF} {h : Nat}  (p_h : pt L f h (.inr (4, [.null, .null, .int 0, .int 0, .int 0, .int 0, .int 0])))  : PMv l yX4_init cX4_init 1 1 2 188 G [.ref h] L f (fun L1 f1 => ∃ a1 : Nat, ∃ a2 : Nat, kp L f L1 f1 [h] ∧ pt L1 f1 h (.inr (4, [.ref a1, .ref a2, .int 0, .int 0, .int 0, .int 0, .int 137])) ∧ pt L1 f1 a1 (.inl (G.2 0, 98, .inl (fun _ => 0))) ∧ pt L1 f1 a2 (.inl (G.2 0, 90, .inl (fun _ => 0))) ∧ a1 ∉ L ∧ a2 ∉ L) := by
  refine PMv.of (post := fun L1 f1 => ∃ a1 : Nat, ∃ a2 : Nat, kp L f L1 f1 [h] ∧ pt L1 f1 h (.inr (4, [.ref a1, .ref a2, .int 0, .int 0, .int 0, .int 0, .int 137])) ∧ pt L1 f1 a1 (.inl (G.2 0, 98, .inl (fun _ => 0))) ∧ pt L1 f1 a2 (.inl (G.2 0, 90, .inl (fun _ => 0))) ∧ a1 ∉ L ∧ a2 ∉ L) (own := RX4) (by decide) rfl (Nat.le_of_ble_eq_true rfl) (fun sz p e s m args below meth c A ls hA1 hname S Y hl => ?_)
  have hx := S.hx
  have hb := S.hb
  have hl : lv_has ls 1 [(0, .ref h)] := hl
  have hk : kp L f L f [h] := kp.rf
  refine lv_aload_n hx hb dX4_init_0 rfl (lv_at hl 0 rfl) ?_
  refine pObj S km4_3 kObj1 kObj2 hl.1 (Nat.le_of_ble_eq_true rfl) (Nat.le_of_ble_eq_true rfl) dX4_init_1 ?_
  refine lv_aload_n hx hb dX4_init_4 rfl (lv_at hl 0 rfl) ?_
  refine lv_bipush (v := 98) hx hb dX4_init_5 (by decide) ?_
  refine pg_newa S Y (ty := .int) rfl 0 rfl ka_int (N' := 98) (98, .inl (fun _ => 0)) (fun _ => rfl) (by decide) (by decide) (by decide) (by decide) (by decide) dX4_init_7 (fun q_92488 f_92489 H nq_92488 ef_92489 Y => ?_)
  have whkq_92488 := hk.notin nq_92488
  have hk := hk.push ef_92489 nq_92488
  have p_h := p_h.push ef_92489 nq_92488
  have p_q_92488 := pt.new (L := L) ef_92489
  refine pg_putF S Y hname ok_X4 0 (by decide) kf4_9 rfl rfl (fs' := [.ref q_92488, .null, .int 0, .int 0, .int 0, .int 0, .int 0]) (v := .ref q_92488) p_h rfl rfl rfl (Nat.le_of_ble_eq_true rfl) dX4_init_9 (fun f_92490 H locs ef_92490 Y => ?_)
  have p_q_92488 := p_q_92488.up ef_92490 ((p_q_92488.neB p_h))
  have p_h := p_h.me ef_92490
  have hk := hk.up ef_92490 (by simp)
  refine lv_aload_n hx hb dX4_init_12 rfl (lv_at hl 0 rfl) ?_
  refine lv_bipush (v := 90) hx hb dX4_init_13 (by decide) ?_
  refine pg_newa S Y (ty := .int) rfl 0 rfl ka_int (N' := 90) (90, .inl (fun _ => 0)) (fun _ => rfl) (by decide) (by decide) (by decide) (by decide) (by decide) dX4_init_15 (fun q_92491 f_92492 H nq_92491 ef_92492 Y => ?_)
  have whkq_92491 := hk.notin nq_92491
  have hk := hk.push ef_92492 nq_92491
  have p_h := p_h.push ef_92492 nq_92491
  have p_q_92488 := p_q_92488.push ef_92492 nq_92491
  have p_q_92491 := pt.new (L := (L ++ [q_92488])) ef_92492
  refine pg_putF S Y hname ok_X4 1 (by decide) kf4_15 rfl rfl (fs' := [.ref q_92488, .ref q_92491, .int 0, .int 0, .int 0, .int 0, .int 0]) (v := .ref q_92491) p_h rfl rfl rfl (Nat.le_of_ble_eq_true rfl) dX4_init_17 (fun f_92493 H locs ef_92493 Y => ?_)
  have p_q_92488 := p_q_92488.up ef_92493 ((p_q_92488.neB p_h))
  have p_q_92491 := p_q_92491.up ef_92493 ((p_q_92491.neB p_h))
  have p_h := p_h.me ef_92493
  have hk := hk.up ef_92493 (by simp)
  refine lv_aload_n hx hb dX4_init_20 rfl (lv_at hl 0 rfl) ?_
  refine lv_sipush (v := 137) hx hb dX4_init_21 (by decide) ?_
  refine pg_put S Y ok_X4 6 (by decide) kf4_18 rfl (fs' := [.ref q_92488, .ref q_92491, .int 0, .int 0, .int 0, .int 0, .int 137]) (v := .int 137) p_h rfl rfl rfl (Nat.le_of_ble_eq_true rfl) dX4_init_24 (fun f_92494 H locs ef_92494 Y => ?_)
  have p_q_92488 := p_q_92488.up ef_92494 ((p_q_92488.neB p_h))
  have p_q_92491 := p_q_92491.up ef_92494 ((p_q_92491.neB p_h))
  have p_h := p_h.me ef_92494
  have hk := hk.up ef_92494 (by simp)
  exact prV (post := fun L1 f1 => ∃ a1 : Nat, ∃ a2 : Nat, kp L f L1 f1 [h] ∧ pt L1 f1 h (.inr (4, [.ref a1, .ref a2, .int 0, .int 0, .int 0, .int 0, .int 137])) ∧ pt L1 f1 a1 (.inl (G.2 0, 98, .inl (fun _ => 0))) ∧ pt L1 f1 a2 (.inl (G.2 0, 90, .inl (fun _ => 0))) ∧ a1 ∉ L ∧ a2 ∉ L) S Y (by decide) (by decide) hA1 ⟨q_92488, q_92491, hk, p_h, p_q_92488, p_q_92491, whkq_92488, whkq_92491⟩ dX4_init_27
set_option maxHeartbeats 4000000 in
set_option maxRecDepth 100000 in
theorem c_told6 {l : Launch} {G : GG} {L : List Nat} {f : HF} {h : Nat}  (p_h : pt L f h (.inr (9, [.null, .int 0, .int 0])))  : PMv l yX9_init cX9_init 2 1 1 24 G [.ref h, .int 6] L f (fun L1 f1 => ∃ a1 : Nat, kp L f L1 f1 [h] ∧ pt L1 f1 h (.inr (9, [.ref a1, .int 6, .int 0])) ∧ pt L1 f1 a1 (.inl (G.2 0, 24, .inl (fun _ => 0))) ∧ a1 ∉ L) := by
  refine PMv.of (post := fun L1 f1 => ∃ a1 : Nat, kp L f L1 f1 [h] ∧ pt L1 f1 h (.inr (9, [.ref a1, .int 6, .int 0])) ∧ pt L1 f1 a1 (.inl (G.2 0, 24, .inl (fun _ => 0))) ∧ a1 ∉ L) (own := RX9) (by decide) rfl (Nat.le_of_ble_eq_true rfl) (fun sz p e s m args below meth c A ls hA1 hname S Y hl => ?_)
  have hx := S.hx
  have hb := S.hb
  have hl : lv_has ls 2 [(0, .ref h), (1, .int 6)] := hl
  have hk : kp L f L f [h] := kp.rf
  refine lv_aload_n hx hb dX9_init_0 rfl (lv_at hl 0 rfl) ?_
  refine pObj S km9_3 kObj1 kObj2 hl.1 (Nat.le_of_ble_eq_true rfl) (Nat.le_of_ble_eq_true rfl) dX9_init_1 ?_
  refine lv_aload_n hx hb dX9_init_4 rfl (lv_at hl 0 rfl) ?_
  refine lv_bipush (v := 24) hx hb dX9_init_5 (by decide) ?_
  refine pg_newa S Y (ty := .int) rfl 0 rfl ka_int (N' := 24) (24, .inl (fun _ => 0)) (fun _ => rfl) (by decide) (by decide) (by decide) (by decide) (by decide) dX9_init_7 (fun q_92495 f_92496 H nq_92495 ef_92496 Y => ?_)
  have whkq_92495 := hk.notin nq_92495
  have hk := hk.push ef_92496 nq_92495
  have p_h := p_h.push ef_92496 nq_92495
  have p_q_92495 := pt.new (L := L) ef_92496
  refine pg_putF S Y hname ok_X9 0 (by decide) kf9_9 rfl rfl (fs' := [.ref q_92495, .int 0, .int 0]) (v := .ref q_92495) p_h rfl rfl rfl (Nat.le_of_ble_eq_true rfl) dX9_init_9 (fun f_92497 H locs ef_92497 Y => ?_)
  have p_q_92495 := p_q_92495.up ef_92497 ((p_q_92495.neB p_h))
  have p_h := p_h.me ef_92497
  have hk := hk.up ef_92497 (by simp)
  refine lv_aload_n hx hb dX9_init_12 rfl (lv_at hl 0 rfl) ?_
  refine lv_iload_n hx hb dX9_init_13 rfl (lv_at hl 1 rfl) ?_
  refine lv_bipush (v := 8) hx hb dX9_init_14 (by decide) ?_
  refine va_mmin hx hb (S.ml.trans hl.1.symm) S.ow (S.w km9_15) (S.w kMs_min) (S.w kMi) (S.w kMc_min) (Nat.le_of_ble_eq_true rfl) (Nat.le_of_ble_eq_true rfl) (by decide) (by decide) dX9_init_16 ?_
  refine lv_fold (z := 6) (by decide) ?_
  refine pg_putF S Y hname ok_X9 1 (by decide) kf9_21 rfl rfl (fs' := [.ref q_92495, .int 6, .int 0]) (v := .int 6) p_h rfl rfl rfl (Nat.le_of_ble_eq_true rfl) dX9_init_19 (fun f_92498 H locs ef_92498 Y => ?_)
  have p_q_92495 := p_q_92495.up ef_92498 ((p_q_92495.neB p_h))
  have p_h := p_h.me ef_92498
  have hk := hk.up ef_92498 (by simp)
  exact prV (post := fun L1 f1 => ∃ a1 : Nat, kp L f L1 f1 [h] ∧ pt L1 f1 h (.inr (9, [.ref a1, .int 6, .int 0])) ∧ pt L1 f1 a1 (.inl (G.2 0, 24, .inl (fun _ => 0))) ∧ a1 ∉ L) S Y (by decide) (by decide) hA1 ⟨q_92495, hk, p_h, p_q_92495, whkq_92495⟩ dX9_init_22
set_option maxHeartbeats 4000000 in
set_option maxRecDepth 100000 in
theorem c_told8 {l : Launch} {G : GG} {L : List Nat} {f : HF} {h : Nat}  (p_h : pt L f h (.inr (9, [.null, .int 0, .int 0])))  : PMv l yX9_init cX9_init 2 1 1 24 G [.ref h, .int 8] L f (fun L1 f1 => ∃ a1 : Nat, kp L f L1 f1 [h] ∧ pt L1 f1 h (.inr (9, [.ref a1, .int 8, .int 0])) ∧ pt L1 f1 a1 (.inl (G.2 0, 24, .inl (fun _ => 0))) ∧ a1 ∉ L) := by
  refine PMv.of (post := fun L1 f1 => ∃ a1 : Nat, kp L f L1 f1 [h] ∧ pt L1 f1 h (.inr (9, [.ref a1, .int 8, .int 0])) ∧ pt L1 f1 a1 (.inl (G.2 0, 24, .inl (fun _ => 0))) ∧ a1 ∉ L) (own := RX9) (by decide) rfl (Nat.le_of_ble_eq_true rfl) (fun sz p e s m args below meth c A ls hA1 hname S Y hl => ?_)
  have hx := S.hx
  have hb := S.hb
  have hl : lv_has ls 2 [(0, .ref h), (1, .int 8)] := hl
  have hk : kp L f L f [h] := kp.rf
  refine lv_aload_n hx hb dX9_init_0 rfl (lv_at hl 0 rfl) ?_
  refine pObj S km9_3 kObj1 kObj2 hl.1 (Nat.le_of_ble_eq_true rfl) (Nat.le_of_ble_eq_true rfl) dX9_init_1 ?_
  refine lv_aload_n hx hb dX9_init_4 rfl (lv_at hl 0 rfl) ?_
  refine lv_bipush (v := 24) hx hb dX9_init_5 (by decide) ?_
  refine pg_newa S Y (ty := .int) rfl 0 rfl ka_int (N' := 24) (24, .inl (fun _ => 0)) (fun _ => rfl) (by decide) (by decide) (by decide) (by decide) (by decide) dX9_init_7 (fun q_92499 f_92500 H nq_92499 ef_92500 Y => ?_)
  have whkq_92499 := hk.notin nq_92499
  have hk := hk.push ef_92500 nq_92499
  have p_h := p_h.push ef_92500 nq_92499
  have p_q_92499 := pt.new (L := L) ef_92500
  refine pg_putF S Y hname ok_X9 0 (by decide) kf9_9 rfl rfl (fs' := [.ref q_92499, .int 0, .int 0]) (v := .ref q_92499) p_h rfl rfl rfl (Nat.le_of_ble_eq_true rfl) dX9_init_9 (fun f_92501 H locs ef_92501 Y => ?_)
  have p_q_92499 := p_q_92499.up ef_92501 ((p_q_92499.neB p_h))
  have p_h := p_h.me ef_92501
  have hk := hk.up ef_92501 (by simp)
  refine lv_aload_n hx hb dX9_init_12 rfl (lv_at hl 0 rfl) ?_
  refine lv_iload_n hx hb dX9_init_13 rfl (lv_at hl 1 rfl) ?_
  refine lv_bipush (v := 8) hx hb dX9_init_14 (by decide) ?_
  refine va_mmin hx hb (S.ml.trans hl.1.symm) S.ow (S.w km9_15) (S.w kMs_min) (S.w kMi) (S.w kMc_min) (Nat.le_of_ble_eq_true rfl) (Nat.le_of_ble_eq_true rfl) (by decide) (by decide) dX9_init_16 ?_
  refine lv_fold (z := 8) (by decide) ?_
  refine pg_putF S Y hname ok_X9 1 (by decide) kf9_21 rfl rfl (fs' := [.ref q_92499, .int 8, .int 0]) (v := .int 8) p_h rfl rfl rfl (Nat.le_of_ble_eq_true rfl) dX9_init_19 (fun f_92502 H locs ef_92502 Y => ?_)
  have p_q_92499 := p_q_92499.up ef_92502 ((p_q_92499.neB p_h))
  have p_h := p_h.me ef_92502
  have hk := hk.up ef_92502 (by simp)
  exact prV (post := fun L1 f1 => ∃ a1 : Nat, kp L f L1 f1 [h] ∧ pt L1 f1 h (.inr (9, [.ref a1, .int 8, .int 0])) ∧ pt L1 f1 a1 (.inl (G.2 0, 24, .inl (fun _ => 0))) ∧ a1 ∉ L) S Y (by decide) (by decide) hA1 ⟨q_92499, hk, p_h, p_q_92499, whkq_92499⟩ dX9_init_22
set_option maxHeartbeats 4000000 in
set_option maxRecDepth 100000 in
theorem c_X7_init {l : Launch} {G : GG} {L : List Nat} {f : HF} {h : Nat}  (p_h : pt L f h (.inr (7, [.null, .null, .null, .null, .null, .int 0, .int 0])))  : PMv l yX7_init cX7_init 1 1 5 726 G [.ref h] L f (fun L1 f1 => ∃ a1 : Nat, ∃ a2 : Nat, ∃ a3 : Nat, ∃ a4 : Nat, ∃ a5 : Nat, kp L f L1 f1 [h] ∧ pt L1 f1 h (.inr (7, [.ref a1, .ref a2, .ref a3, .ref a4, .ref a5, .int 0, .int 0])) ∧ pt L1 f1 a1 (.inl (G.2 0, 300, .inl (fun _ => 0))) ∧ pt L1 f1 a2 (.inl (G.2 0, 300, .inl (fun _ => 0))) ∧ pt L1 f1 a3 (.inl (G.2 0, 3, .inl (fun _ => 0))) ∧ pt L1 f1 a4 (.inl (G.2 0, 3, .inl (fun _ => 0))) ∧ pt L1 f1 a5 (.inl (G.2 0, 120, .inl (fun _ => 0))) ∧ a1 ≠ a2 ∧ a3 ≠ a4 ∧ a1 ∉ L ∧ a2 ∉ L ∧ a3 ∉ L ∧ a4 ∉ L ∧ a5 ∉ L) := by
  refine PMv.of (post := fun L1 f1 => ∃ a1 : Nat, ∃ a2 : Nat, ∃ a3 : Nat, ∃ a4 : Nat, ∃ a5 : Nat, kp L f L1 f1 [h] ∧ pt L1 f1 h (.inr (7, [.ref a1, .ref a2, .ref a3, .ref a4, .ref a5, .int 0, .int 0])) ∧ pt L1 f1 a1 (.inl (G.2 0, 300, .inl (fun _ => 0))) ∧ pt L1 f1 a2 (.inl (G.2 0, 300, .inl (fun _ => 0))) ∧ pt L1 f1 a3 (.inl (G.2 0, 3, .inl (fun _ => 0))) ∧ pt L1 f1 a4 (.inl (G.2 0, 3, .inl (fun _ => 0))) ∧ pt L1 f1 a5 (.inl (G.2 0, 120, .inl (fun _ => 0))) ∧ a1 ≠ a2 ∧ a3 ≠ a4 ∧ a1 ∉ L ∧ a2 ∉ L ∧ a3 ∉ L ∧ a4 ∉ L ∧ a5 ∉ L) (own := RX7) (by decide) rfl (Nat.le_of_ble_eq_true rfl) (fun sz p e s m args below meth c A ls hA1 hname S Y hl => ?_)
  have hx := S.hx
  have hb := S.hb
  have hl : lv_has ls 1 [(0, .ref h)] := hl
  have hk : kp L f L f [h] := kp.rf
  refine lv_aload_n hx hb dX7_init_0 rfl (lv_at hl 0 rfl) ?_
  refine pObj S km7_3 kObj1 kObj2 hl.1 (Nat.le_of_ble_eq_true rfl) (Nat.le_of_ble_eq_true rfl) dX7_init_1 ?_
  refine lv_aload_n hx hb dX7_init_4 rfl (lv_at hl 0 rfl) ?_
  refine lv_sipush (v := 300) hx hb dX7_init_5 (by decide) ?_
  refine pg_newa S Y (ty := .int) rfl 0 rfl ka_int (N' := 300) (300, .inl (fun _ => 0)) (fun _ => rfl) (by decide) (by decide) (by decide) (by decide) (by decide) dX7_init_8 (fun q_92503 f_92504 H nq_92503 ef_92504 Y => ?_)
  have whkq_92503 := hk.notin nq_92503
  have hk := hk.push ef_92504 nq_92503
  have p_h := p_h.push ef_92504 nq_92503
  have p_q_92503 := pt.new (L := L) ef_92504
  refine pg_putF S Y hname ok_X7 0 (by decide) kf7_9 rfl rfl (fs' := [.ref q_92503, .null, .null, .null, .null, .int 0, .int 0]) (v := .ref q_92503) p_h rfl rfl rfl (Nat.le_of_ble_eq_true rfl) dX7_init_10 (fun f_92505 H locs ef_92505 Y => ?_)
  have p_q_92503 := p_q_92503.up ef_92505 ((p_q_92503.neB p_h))
  have p_h := p_h.me ef_92505
  have hk := hk.up ef_92505 (by simp)
  refine lv_aload_n hx hb dX7_init_13 rfl (lv_at hl 0 rfl) ?_
  refine lv_sipush (v := 300) hx hb dX7_init_14 (by decide) ?_
  refine pg_newa S Y (ty := .int) rfl 0 rfl ka_int (N' := 300) (300, .inl (fun _ => 0)) (fun _ => rfl) (by decide) (by decide) (by decide) (by decide) (by decide) dX7_init_17 (fun q_92506 f_92507 H nq_92506 ef_92507 Y => ?_)
  have whkq_92506 := hk.notin nq_92506
  have hk := hk.push ef_92507 nq_92506
  have p_h := p_h.push ef_92507 nq_92506
  have dq_92503_q_92506 := p_q_92503.neQ nq_92506
  have p_q_92503 := p_q_92503.push ef_92507 nq_92506
  have p_q_92506 := pt.new (L := (L ++ [q_92503])) ef_92507
  refine pg_putF S Y hname ok_X7 1 (by decide) kf7_15 rfl rfl (fs' := [.ref q_92503, .ref q_92506, .null, .null, .null, .int 0, .int 0]) (v := .ref q_92506) p_h rfl rfl rfl (Nat.le_of_ble_eq_true rfl) dX7_init_19 (fun f_92508 H locs ef_92508 Y => ?_)
  have p_q_92503 := p_q_92503.up ef_92508 ((p_q_92503.neB p_h))
  have p_q_92506 := p_q_92506.up ef_92508 ((p_q_92506.neB p_h))
  have p_h := p_h.me ef_92508
  have hk := hk.up ef_92508 (by simp)
  refine lv_aload_n hx hb dX7_init_22 rfl (lv_at hl 0 rfl) ?_
  refine lv_iconst (v := 3) hx hb dX7_init_23 (by decide) ?_
  refine pg_newa S Y (ty := .int) rfl 0 rfl ka_int (N' := 3) (3, .inl (fun _ => 0)) (fun _ => rfl) (by decide) (by decide) (by decide) (by decide) (by decide) dX7_init_24 (fun q_92509 f_92510 H nq_92509 ef_92510 Y => ?_)
  have whkq_92509 := hk.notin nq_92509
  have hk := hk.push ef_92510 nq_92509
  have p_h := p_h.push ef_92510 nq_92509
  have p_q_92503 := p_q_92503.push ef_92510 nq_92509
  have p_q_92506 := p_q_92506.push ef_92510 nq_92509
  have p_q_92509 := pt.new (L := ((L ++ [q_92503]) ++ [q_92506])) ef_92510
  refine pg_putF S Y hname ok_X7 2 (by decide) kf7_18 rfl rfl (fs' := [.ref q_92503, .ref q_92506, .ref q_92509, .null, .null, .int 0, .int 0]) (v := .ref q_92509) p_h rfl rfl rfl (Nat.le_of_ble_eq_true rfl) dX7_init_26 (fun f_92511 H locs ef_92511 Y => ?_)
  have p_q_92503 := p_q_92503.up ef_92511 ((p_q_92503.neB p_h))
  have p_q_92506 := p_q_92506.up ef_92511 ((p_q_92506.neB p_h))
  have p_q_92509 := p_q_92509.up ef_92511 ((p_q_92509.neB p_h))
  have p_h := p_h.me ef_92511
  have hk := hk.up ef_92511 (by simp)
  refine lv_aload_n hx hb dX7_init_29 rfl (lv_at hl 0 rfl) ?_
  refine lv_iconst (v := 3) hx hb dX7_init_30 (by decide) ?_
  refine pg_newa S Y (ty := .int) rfl 0 rfl ka_int (N' := 3) (3, .inl (fun _ => 0)) (fun _ => rfl) (by decide) (by decide) (by decide) (by decide) (by decide) dX7_init_31 (fun q_92512 f_92513 H nq_92512 ef_92513 Y => ?_)
  have whkq_92512 := hk.notin nq_92512
  have hk := hk.push ef_92513 nq_92512
  have p_h := p_h.push ef_92513 nq_92512
  have p_q_92503 := p_q_92503.push ef_92513 nq_92512
  have p_q_92506 := p_q_92506.push ef_92513 nq_92512
  have dq_92509_q_92512 := p_q_92509.neQ nq_92512
  have p_q_92509 := p_q_92509.push ef_92513 nq_92512
  have p_q_92512 := pt.new (L := (((L ++ [q_92503]) ++ [q_92506]) ++ [q_92509])) ef_92513
  refine pg_putF S Y hname ok_X7 3 (by decide) kf7_21 rfl rfl (fs' := [.ref q_92503, .ref q_92506, .ref q_92509, .ref q_92512, .null, .int 0, .int 0]) (v := .ref q_92512) p_h rfl rfl rfl (Nat.le_of_ble_eq_true rfl) dX7_init_33 (fun f_92514 H locs ef_92514 Y => ?_)
  have p_q_92503 := p_q_92503.up ef_92514 ((p_q_92503.neB p_h))
  have p_q_92506 := p_q_92506.up ef_92514 ((p_q_92506.neB p_h))
  have p_q_92509 := p_q_92509.up ef_92514 ((p_q_92509.neB p_h))
  have p_q_92512 := p_q_92512.up ef_92514 ((p_q_92512.neB p_h))
  have p_h := p_h.me ef_92514
  have hk := hk.up ef_92514 (by simp)
  refine lv_aload_n hx hb dX7_init_36 rfl (lv_at hl 0 rfl) ?_
  refine lv_bipush (v := 120) hx hb dX7_init_37 (by decide) ?_
  refine pg_newa S Y (ty := .int) rfl 0 rfl ka_int (N' := 120) (120, .inl (fun _ => 0)) (fun _ => rfl) (by decide) (by decide) (by decide) (by decide) (by decide) dX7_init_39 (fun q_92515 f_92516 H nq_92515 ef_92516 Y => ?_)
  have whkq_92515 := hk.notin nq_92515
  have hk := hk.push ef_92516 nq_92515
  have p_h := p_h.push ef_92516 nq_92515
  have p_q_92503 := p_q_92503.push ef_92516 nq_92515
  have p_q_92506 := p_q_92506.push ef_92516 nq_92515
  have p_q_92509 := p_q_92509.push ef_92516 nq_92515
  have p_q_92512 := p_q_92512.push ef_92516 nq_92515
  have p_q_92515 := pt.new (L := ((((L ++ [q_92503]) ++ [q_92506]) ++ [q_92509]) ++ [q_92512])) ef_92516
  refine pg_putF S Y hname ok_X7 4 (by decide) kf7_24 rfl rfl (fs' := [.ref q_92503, .ref q_92506, .ref q_92509, .ref q_92512, .ref q_92515, .int 0, .int 0]) (v := .ref q_92515) p_h rfl rfl rfl (Nat.le_of_ble_eq_true rfl) dX7_init_41 (fun f_92517 H locs ef_92517 Y => ?_)
  have p_q_92503 := p_q_92503.up ef_92517 ((p_q_92503.neB p_h))
  have p_q_92506 := p_q_92506.up ef_92517 ((p_q_92506.neB p_h))
  have p_q_92509 := p_q_92509.up ef_92517 ((p_q_92509.neB p_h))
  have p_q_92512 := p_q_92512.up ef_92517 ((p_q_92512.neB p_h))
  have p_q_92515 := p_q_92515.up ef_92517 ((p_q_92515.neB p_h))
  have p_h := p_h.me ef_92517
  have hk := hk.up ef_92517 (by simp)
  exact prV (post := fun L1 f1 => ∃ a1 : Nat, ∃ a2 : Nat, ∃ a3 : Nat, ∃ a4 : Nat, ∃ a5 : Nat, kp L f L1 f1 [h] ∧ pt L1 f1 h (.inr (7, [.ref a1, .ref a2, .ref a3, .ref a4, .ref a5, .int 0, .int 0])) ∧ pt L1 f1 a1 (.inl (G.2 0, 300, .inl (fun _ => 0))) ∧ pt L1 f1 a2 (.inl (G.2 0, 300, .inl (fun _ => 0))) ∧ pt L1 f1 a3 (.inl (G.2 0, 3, .inl (fun _ => 0))) ∧ pt L1 f1 a4 (.inl (G.2 0, 3, .inl (fun _ => 0))) ∧ pt L1 f1 a5 (.inl (G.2 0, 120, .inl (fun _ => 0))) ∧ a1 ≠ a2 ∧ a3 ≠ a4 ∧ a1 ∉ L ∧ a2 ∉ L ∧ a3 ∉ L ∧ a4 ∉ L ∧ a5 ∉ L) S Y (by decide) (by decide) hA1 ⟨q_92503, q_92506, q_92509, q_92512, q_92515, hk, p_h, p_q_92503, p_q_92506, p_q_92509, p_q_92512, p_q_92515, (dq_92503_q_92506), (dq_92509_q_92512), whkq_92503, whkq_92506, whkq_92509, whkq_92512, whkq_92515⟩ dX7_init_44
set_option maxHeartbeats 4000000 in
set_option maxRecDepth 100000 in
theorem c_X5_init {l : Launch} {G : GG} {L : List Nat} {f : HF} {h : Nat}  (p_h : pt L f h (.inr (5, [.null, .null, .null, .null, .int 0, .int 0, .int 0, .int 0, .int 0, .int 0, .int 0, .null, .int 0, .int 0])))  : PMv l yX5_init cX5_init 1 1 4 1203 G [.ref h] L f (fun L1 f1 => ∃ a1 : Nat, ∃ a2 : Nat, ∃ a3 : Nat, ∃ a4 : Nat, kp L f L1 f1 [h] ∧ pt L1 f1 h (.inr (5, [.ref a1, .ref a2, .ref a3, .ref a4, .int 0, .int 0, .int 0, .int 0, .int 0, .int 0, .int 0, .null, .int (-1), .int (-1)])) ∧ pt L1 f1 a1 (.inl (G.2 0, 300, .inl (fun _ => 0))) ∧ pt L1 f1 a2 (.inl (G.2 0, 301, .inl (fun _ => 0))) ∧ pt L1 f1 a3 (.inl (G.2 0, 301, .inl (fun _ => 0))) ∧ pt L1 f1 a4 (.inl (G.2 0, 301, .inl (fun _ => 0))) ∧ a2 ≠ a3 ∧ a2 ≠ a4 ∧ a3 ≠ a4 ∧ a1 ∉ L ∧ a2 ∉ L ∧ a3 ∉ L ∧ a4 ∉ L) := by
  refine PMv.of (post := fun L1 f1 => ∃ a1 : Nat, ∃ a2 : Nat, ∃ a3 : Nat, ∃ a4 : Nat, kp L f L1 f1 [h] ∧ pt L1 f1 h (.inr (5, [.ref a1, .ref a2, .ref a3, .ref a4, .int 0, .int 0, .int 0, .int 0, .int 0, .int 0, .int 0, .null, .int (-1), .int (-1)])) ∧ pt L1 f1 a1 (.inl (G.2 0, 300, .inl (fun _ => 0))) ∧ pt L1 f1 a2 (.inl (G.2 0, 301, .inl (fun _ => 0))) ∧ pt L1 f1 a3 (.inl (G.2 0, 301, .inl (fun _ => 0))) ∧ pt L1 f1 a4 (.inl (G.2 0, 301, .inl (fun _ => 0))) ∧ a2 ≠ a3 ∧ a2 ≠ a4 ∧ a3 ≠ a4 ∧ a1 ∉ L ∧ a2 ∉ L ∧ a3 ∉ L ∧ a4 ∉ L) (own := RX5) (by decide) rfl (Nat.le_of_ble_eq_true rfl) (fun sz p e s m args below meth c A ls hA1 hname S Y hl => ?_)
  have hx := S.hx
  have hb := S.hb
  have hl : lv_has ls 1 [(0, .ref h)] := hl
  have hk : kp L f L f [h] := kp.rf
  refine lv_aload_n hx hb dX5_init_0 rfl (lv_at hl 0 rfl) ?_
  refine pObj S km5_3 kObj1 kObj2 hl.1 (Nat.le_of_ble_eq_true rfl) (Nat.le_of_ble_eq_true rfl) dX5_init_1 ?_
  refine lv_aload_n hx hb dX5_init_4 rfl (lv_at hl 0 rfl) ?_
  refine lv_sipush (v := 300) hx hb dX5_init_5 (by decide) ?_
  refine pg_newa S Y (ty := .int) rfl 0 rfl ka_int (N' := 300) (300, .inl (fun _ => 0)) (fun _ => rfl) (by decide) (by decide) (by decide) (by decide) (by decide) dX5_init_8 (fun q_92518 f_92519 H nq_92518 ef_92519 Y => ?_)
  have whkq_92518 := hk.notin nq_92518
  have hk := hk.push ef_92519 nq_92518
  have p_h := p_h.push ef_92519 nq_92518
  have p_q_92518 := pt.new (L := L) ef_92519
  refine pg_putF S Y hname ok_X5 0 (by decide) kf5_9 rfl rfl (fs' := [.ref q_92518, .null, .null, .null, .int 0, .int 0, .int 0, .int 0, .int 0, .int 0, .int 0, .null, .int 0, .int 0]) (v := .ref q_92518) p_h rfl rfl rfl (Nat.le_of_ble_eq_true rfl) dX5_init_10 (fun f_92520 H locs ef_92520 Y => ?_)
  have p_q_92518 := p_q_92518.up ef_92520 ((p_q_92518.neB p_h))
  have p_h := p_h.me ef_92520
  have hk := hk.up ef_92520 (by simp)
  refine lv_aload_n hx hb dX5_init_13 rfl (lv_at hl 0 rfl) ?_
  refine lv_sipush (v := 301) hx hb dX5_init_14 (by decide) ?_
  refine pg_newa S Y (ty := .int) rfl 0 rfl ka_int (N' := 301) (301, .inl (fun _ => 0)) (fun _ => rfl) (by decide) (by decide) (by decide) (by decide) (by decide) dX5_init_17 (fun q_92521 f_92522 H nq_92521 ef_92522 Y => ?_)
  have whkq_92521 := hk.notin nq_92521
  have hk := hk.push ef_92522 nq_92521
  have p_h := p_h.push ef_92522 nq_92521
  have p_q_92518 := p_q_92518.push ef_92522 nq_92521
  have p_q_92521 := pt.new (L := (L ++ [q_92518])) ef_92522
  refine pg_putF S Y hname ok_X5 1 (by decide) kf5_15 rfl rfl (fs' := [.ref q_92518, .ref q_92521, .null, .null, .int 0, .int 0, .int 0, .int 0, .int 0, .int 0, .int 0, .null, .int 0, .int 0]) (v := .ref q_92521) p_h rfl rfl rfl (Nat.le_of_ble_eq_true rfl) dX5_init_19 (fun f_92523 H locs ef_92523 Y => ?_)
  have p_q_92518 := p_q_92518.up ef_92523 ((p_q_92518.neB p_h))
  have p_q_92521 := p_q_92521.up ef_92523 ((p_q_92521.neB p_h))
  have p_h := p_h.me ef_92523
  have hk := hk.up ef_92523 (by simp)
  refine lv_aload_n hx hb dX5_init_22 rfl (lv_at hl 0 rfl) ?_
  refine lv_sipush (v := 301) hx hb dX5_init_23 (by decide) ?_
  refine pg_newa S Y (ty := .int) rfl 0 rfl ka_int (N' := 301) (301, .inl (fun _ => 0)) (fun _ => rfl) (by decide) (by decide) (by decide) (by decide) (by decide) dX5_init_26 (fun q_92524 f_92525 H nq_92524 ef_92525 Y => ?_)
  have whkq_92524 := hk.notin nq_92524
  have hk := hk.push ef_92525 nq_92524
  have p_h := p_h.push ef_92525 nq_92524
  have p_q_92518 := p_q_92518.push ef_92525 nq_92524
  have dq_92521_q_92524 := p_q_92521.neQ nq_92524
  have p_q_92521 := p_q_92521.push ef_92525 nq_92524
  have p_q_92524 := pt.new (L := ((L ++ [q_92518]) ++ [q_92521])) ef_92525
  refine pg_putF S Y hname ok_X5 2 (by decide) kf5_18 rfl rfl (fs' := [.ref q_92518, .ref q_92521, .ref q_92524, .null, .int 0, .int 0, .int 0, .int 0, .int 0, .int 0, .int 0, .null, .int 0, .int 0]) (v := .ref q_92524) p_h rfl rfl rfl (Nat.le_of_ble_eq_true rfl) dX5_init_28 (fun f_92526 H locs ef_92526 Y => ?_)
  have p_q_92518 := p_q_92518.up ef_92526 ((p_q_92518.neB p_h))
  have p_q_92521 := p_q_92521.up ef_92526 ((p_q_92521.neB p_h))
  have p_q_92524 := p_q_92524.up ef_92526 ((p_q_92524.neB p_h))
  have p_h := p_h.me ef_92526
  have hk := hk.up ef_92526 (by simp)
  refine lv_aload_n hx hb dX5_init_31 rfl (lv_at hl 0 rfl) ?_
  refine lv_sipush (v := 301) hx hb dX5_init_32 (by decide) ?_
  refine pg_newa S Y (ty := .int) rfl 0 rfl ka_int (N' := 301) (301, .inl (fun _ => 0)) (fun _ => rfl) (by decide) (by decide) (by decide) (by decide) (by decide) dX5_init_35 (fun q_92527 f_92528 H nq_92527 ef_92528 Y => ?_)
  have whkq_92527 := hk.notin nq_92527
  have hk := hk.push ef_92528 nq_92527
  have p_h := p_h.push ef_92528 nq_92527
  have p_q_92518 := p_q_92518.push ef_92528 nq_92527
  have dq_92521_q_92527 := p_q_92521.neQ nq_92527
  have p_q_92521 := p_q_92521.push ef_92528 nq_92527
  have dq_92524_q_92527 := p_q_92524.neQ nq_92527
  have p_q_92524 := p_q_92524.push ef_92528 nq_92527
  have p_q_92527 := pt.new (L := (((L ++ [q_92518]) ++ [q_92521]) ++ [q_92524])) ef_92528
  refine pg_putF S Y hname ok_X5 3 (by decide) kf5_21 rfl rfl (fs' := [.ref q_92518, .ref q_92521, .ref q_92524, .ref q_92527, .int 0, .int 0, .int 0, .int 0, .int 0, .int 0, .int 0, .null, .int 0, .int 0]) (v := .ref q_92527) p_h rfl rfl rfl (Nat.le_of_ble_eq_true rfl) dX5_init_37 (fun f_92529 H locs ef_92529 Y => ?_)
  have p_q_92518 := p_q_92518.up ef_92529 ((p_q_92518.neB p_h))
  have p_q_92521 := p_q_92521.up ef_92529 ((p_q_92521.neB p_h))
  have p_q_92524 := p_q_92524.up ef_92529 ((p_q_92524.neB p_h))
  have p_q_92527 := p_q_92527.up ef_92529 ((p_q_92527.neB p_h))
  have p_h := p_h.me ef_92529
  have hk := hk.up ef_92529 (by simp)
  refine lv_aload_n hx hb dX5_init_40 rfl (lv_at hl 0 rfl) ?_
  refine lv_iconst (v := (-1)) hx hb dX5_init_41 (by decide) ?_
  refine pg_put S Y ok_X5 12 (by decide) kf5_24 rfl (fs' := [.ref q_92518, .ref q_92521, .ref q_92524, .ref q_92527, .int 0, .int 0, .int 0, .int 0, .int 0, .int 0, .int 0, .null, .int (-1), .int 0]) (v := .int (-1)) p_h rfl rfl rfl (Nat.le_of_ble_eq_true rfl) dX5_init_42 (fun f_92530 H locs ef_92530 Y => ?_)
  have p_q_92518 := p_q_92518.up ef_92530 ((p_q_92518.neB p_h))
  have p_q_92521 := p_q_92521.up ef_92530 ((p_q_92521.neB p_h))
  have p_q_92524 := p_q_92524.up ef_92530 ((p_q_92524.neB p_h))
  have p_q_92527 := p_q_92527.up ef_92530 ((p_q_92527.neB p_h))
  have p_h := p_h.me ef_92530
  have hk := hk.up ef_92530 (by simp)
  refine lv_aload_n hx hb dX5_init_45 rfl (lv_at hl 0 rfl) ?_
  refine lv_iconst (v := (-1)) hx hb dX5_init_46 (by decide) ?_
  refine pg_put S Y ok_X5 13 (by decide) kf5_28 rfl (fs' := [.ref q_92518, .ref q_92521, .ref q_92524, .ref q_92527, .int 0, .int 0, .int 0, .int 0, .int 0, .int 0, .int 0, .null, .int (-1), .int (-1)]) (v := .int (-1)) p_h rfl rfl rfl (Nat.le_of_ble_eq_true rfl) dX5_init_47 (fun f_92531 H locs ef_92531 Y => ?_)
  have p_q_92518 := p_q_92518.up ef_92531 ((p_q_92518.neB p_h))
  have p_q_92521 := p_q_92521.up ef_92531 ((p_q_92521.neB p_h))
  have p_q_92524 := p_q_92524.up ef_92531 ((p_q_92524.neB p_h))
  have p_q_92527 := p_q_92527.up ef_92531 ((p_q_92527.neB p_h))
  have p_h := p_h.me ef_92531
  have hk := hk.up ef_92531 (by simp)
  exact prV (post := fun L1 f1 => ∃ a1 : Nat, ∃ a2 : Nat, ∃ a3 : Nat, ∃ a4 : Nat, kp L f L1 f1 [h] ∧ pt L1 f1 h (.inr (5, [.ref a1, .ref a2, .ref a3, .ref a4, .int 0, .int 0, .int 0, .int 0, .int 0, .int 0, .int 0, .null, .int (-1), .int (-1)])) ∧ pt L1 f1 a1 (.inl (G.2 0, 300, .inl (fun _ => 0))) ∧ pt L1 f1 a2 (.inl (G.2 0, 301, .inl (fun _ => 0))) ∧ pt L1 f1 a3 (.inl (G.2 0, 301, .inl (fun _ => 0))) ∧ pt L1 f1 a4 (.inl (G.2 0, 301, .inl (fun _ => 0))) ∧ a2 ≠ a3 ∧ a2 ≠ a4 ∧ a3 ≠ a4 ∧ a1 ∉ L ∧ a2 ∉ L ∧ a3 ∉ L ∧ a4 ∉ L) S Y (by decide) (by decide) hA1 ⟨q_92518, q_92521, q_92524, q_92527, hk, p_h, p_q_92518, p_q_92521, p_q_92524, p_q_92527, (dq_92521_q_92524), (dq_92521_q_92527), (dq_92524_q_92527), whkq_92518, whkq_92521, whkq_92524, whkq_92527⟩ dX5_init_50
set_option maxHeartbeats 4000000 in
set_option maxRecDepth 100000 in
theorem c_X3_init {l : Launch} {G : GG} {L : List Nat} {f : HF} {h w : Nat}  (p_h : pt L f h (.inr (3, [.null, .null, .int 0])))  : PMv l yX3_init cX3_init 2 1 1 300 G [.ref h, .ref w] L f (fun L1 f1 => ∃ a1 : Nat, kp L f L1 f1 [h] ∧ pt L1 f1 h (.inr (3, [.ref w, .ref a1, .int 0])) ∧ pt L1 f1 a1 (.inl (G.2 0, 300, .inl (fun _ => 0))) ∧ a1 ∉ L) := by
  refine PMv.of (post := fun L1 f1 => ∃ a1 : Nat, kp L f L1 f1 [h] ∧ pt L1 f1 h (.inr (3, [.ref w, .ref a1, .int 0])) ∧ pt L1 f1 a1 (.inl (G.2 0, 300, .inl (fun _ => 0))) ∧ a1 ∉ L) (own := RX3) (by decide) rfl (Nat.le_of_ble_eq_true rfl) (fun sz p e s m args below meth c A ls hA1 hname S Y hl => ?_)
  have hx := S.hx
  have hb := S.hb
  have hl : lv_has ls 2 [(0, .ref h), (1, .ref w)] := hl
  have hk : kp L f L f [h] := kp.rf
  refine lv_aload_n hx hb dX3_init_0 rfl (lv_at hl 0 rfl) ?_
  refine pObj S km3_3 kObj1 kObj2 hl.1 (Nat.le_of_ble_eq_true rfl) (Nat.le_of_ble_eq_true rfl) dX3_init_1 ?_
  refine lv_aload_n hx hb dX3_init_4 rfl (lv_at hl 0 rfl) ?_
  refine lv_sipush (v := 300) hx hb dX3_init_5 (by decide) ?_
  refine pg_newa S Y (ty := .int) rfl 0 rfl ka_int (N' := 300) (300, .inl (fun _ => 0)) (fun _ => rfl) (by decide) (by decide) (by decide) (by decide) (by decide) dX3_init_8 (fun q_92532 f_92533 H nq_92532 ef_92533 Y => ?_)
  have whkq_92532 := hk.notin nq_92532
  have hk := hk.push ef_92533 nq_92532
  have p_h := p_h.push ef_92533 nq_92532
  have p_q_92532 := pt.new (L := L) ef_92533
  refine pg_putF S Y hname ok_X3 1 (by decide) kf3_9 rfl rfl (fs' := [.null, .ref q_92532, .int 0]) (v := .ref q_92532) p_h rfl rfl rfl (Nat.le_of_ble_eq_true rfl) dX3_init_10 (fun f_92534 H locs ef_92534 Y => ?_)
  have p_q_92532 := p_q_92532.up ef_92534 ((p_q_92532.neB p_h))
  have p_h := p_h.me ef_92534
  have hk := hk.up ef_92534 (by simp)
  refine lv_aload_n hx hb dX3_init_13 rfl (lv_at hl 0 rfl) ?_
  refine lv_aload_n hx hb dX3_init_14 rfl (lv_at hl 1 rfl) ?_
  refine pg_putF S Y hname ok_X3 0 (by decide) kf3_15 rfl rfl (fs' := [.ref w, .ref q_92532, .int 0]) (v := .ref w) p_h rfl rfl rfl (Nat.le_of_ble_eq_true rfl) dX3_init_15 (fun f_92535 H locs ef_92535 Y => ?_)
  have p_q_92532 := p_q_92532.up ef_92535 ((p_q_92532.neB p_h))
  have p_h := p_h.me ef_92535
  have hk := hk.up ef_92535 (by simp)
  exact prV (post := fun L1 f1 => ∃ a1 : Nat, kp L f L1 f1 [h] ∧ pt L1 f1 h (.inr (3, [.ref w, .ref a1, .int 0])) ∧ pt L1 f1 a1 (.inl (G.2 0, 300, .inl (fun _ => 0))) ∧ a1 ∉ L) S Y (by decide) (by decide) hA1 ⟨q_92532, hk, p_h, p_q_92532, whkq_92532⟩ dX3_init_18
set_option maxHeartbeats 4000000 in
set_option maxRecDepth 100000 in
theorem c_X6_init {l : Launch} {G : GG} {L : List Nat} {f : HF} {h w : Nat}  (p_h : pt L f h (.inr (6, [.null, .int 0])))  : PMv l yX6_init cX6_init 2 1 0 0 G [.ref h, .ref w] L f (fun L1 f1 => kp L f L1 f1 [h] ∧ pt L1 f1 h (.inr (6, [.ref w, .int 0]))) := by
  refine PMv.of (post := fun L1 f1 => kp L f L1 f1 [h] ∧ pt L1 f1 h (.inr (6, [.ref w, .int 0]))) (own := RX6) (by decide) rfl (Nat.le_of_ble_eq_true rfl) (fun sz p e s m args below meth c A ls hA1 hname S Y hl => ?_)
  have hx := S.hx
  have hb := S.hb
  have hl : lv_has ls 2 [(0, .ref h), (1, .ref w)] := hl
  have hk : kp L f L f [h] := kp.rf
  refine lv_aload_n hx hb dX6_init_0 rfl (lv_at hl 0 rfl) ?_
  refine pObj S km6_3 kObj1 kObj2 hl.1 (Nat.le_of_ble_eq_true rfl) (Nat.le_of_ble_eq_true rfl) dX6_init_1 ?_
  refine lv_aload_n hx hb dX6_init_4 rfl (lv_at hl 0 rfl) ?_
  refine lv_aload_n hx hb dX6_init_5 rfl (lv_at hl 1 rfl) ?_
  refine pg_putF S Y hname ok_X6 0 (by decide) kf6_9 rfl rfl (fs' := [.ref w, .int 0]) (v := .ref w) p_h rfl rfl rfl (Nat.le_of_ble_eq_true rfl) dX6_init_6 (fun f_92536 H locs ef_92536 Y => ?_)
  have p_h := p_h.me ef_92536
  have hk := hk.up ef_92536 (by simp)
  exact prV (post := fun L1 f1 => kp L f L1 f1 [h] ∧ pt L1 f1 h (.inr (6, [.ref w, .int 0]))) S Y (by decide) (by decide) hA1 ⟨hk, p_h⟩ dX6_init_9
set_option maxHeartbeats 4000000 in
set_option maxRecDepth 100000 in
theorem c_X1_init {l : Launch} {G : GG} {L : List Nat} {f : HF} {h w jd rg : Nat}  (p_h : pt L f h (.inr (1, [.null, .null, .null, .null, .int 0])))  : PMv l yX1_init cX1_init 4 1 1 14 G [.ref h, .ref w, .ref jd, .ref rg] L f (fun L1 f1 => ∃ a1 : Nat, kp L f L1 f1 [h] ∧ pt L1 f1 h (.inr (1, [.ref w, .ref jd, .ref rg, .ref a1, .int 0])) ∧ pt L1 f1 a1 (.inl (G.2 0, 14, .inl (fun _ => 0))) ∧ a1 ∉ L) := by
  refine PMv.of (post := fun L1 f1 => ∃ a1 : Nat, kp L f L1 f1 [h] ∧ pt L1 f1 h (.inr (1, [.ref w, .ref jd, .ref rg, .ref a1, .int 0])) ∧ pt L1 f1 a1 (.inl (G.2 0, 14, .inl (fun _ => 0))) ∧ a1 ∉ L) (own := RX1) (by decide) rfl (Nat.le_of_ble_eq_true rfl) (fun sz p e s m args below meth c A ls hA1 hname S Y hl => ?_)
  have hx := S.hx
  have hb := S.hb
  have hl : lv_has ls 4 [(0, .ref h), (1, .ref w), (2, .ref jd), (3, .ref rg)] := hl
  have hk : kp L f L f [h] := kp.rf
  refine lv_aload_n hx hb dX1_init_0 rfl (lv_at hl 0 rfl) ?_
  refine pObj S km1_3 kObj1 kObj2 hl.1 (Nat.le_of_ble_eq_true rfl) (Nat.le_of_ble_eq_true rfl) dX1_init_1 ?_
  refine lv_aload_n hx hb dX1_init_4 rfl (lv_at hl 0 rfl) ?_
  refine lv_bipush (v := 14) hx hb dX1_init_5 (by decide) ?_
  refine pg_newa S Y (ty := .int) rfl 0 rfl ka_int (N' := 14) (14, .inl (fun _ => 0)) (fun _ => rfl) (by decide) (by decide) (by decide) (by decide) (by decide) dX1_init_7 (fun q_92537 f_92538 H nq_92537 ef_92538 Y => ?_)
  have whkq_92537 := hk.notin nq_92537
  have hk := hk.push ef_92538 nq_92537
  have p_h := p_h.push ef_92538 nq_92537
  have p_q_92537 := pt.new (L := L) ef_92538
  refine pg_putF S Y hname ok_X1 3 (by decide) kf1_9 rfl rfl (fs' := [.null, .null, .null, .ref q_92537, .int 0]) (v := .ref q_92537) p_h rfl rfl rfl (Nat.le_of_ble_eq_true rfl) dX1_init_9 (fun f_92539 H locs ef_92539 Y => ?_)
  have p_q_92537 := p_q_92537.up ef_92539 ((p_q_92537.neB p_h))
  have p_h := p_h.me ef_92539
  have hk := hk.up ef_92539 (by simp)
  refine lv_aload_n hx hb dX1_init_12 rfl (lv_at hl 0 rfl) ?_
  refine lv_aload_n hx hb dX1_init_13 rfl (lv_at hl 1 rfl) ?_
  refine pg_putF S Y hname ok_X1 0 (by decide) kf1_15 rfl rfl (fs' := [.ref w, .null, .null, .ref q_92537, .int 0]) (v := .ref w) p_h rfl rfl rfl (Nat.le_of_ble_eq_true rfl) dX1_init_14 (fun f_92540 H locs ef_92540 Y => ?_)
  have p_q_92537 := p_q_92537.up ef_92540 ((p_q_92537.neB p_h))
  have p_h := p_h.me ef_92540
  have hk := hk.up ef_92540 (by simp)
  refine lv_aload_n hx hb dX1_init_17 rfl (lv_at hl 0 rfl) ?_
  refine lv_aload_n hx hb dX1_init_18 rfl (lv_at hl 2 rfl) ?_
  refine pg_putF S Y hname ok_X1 1 (by decide) kf1_19 rfl rfl (fs' := [.ref w, .ref jd, .null, .ref q_92537, .int 0]) (v := .ref jd) p_h rfl rfl rfl (Nat.le_of_ble_eq_true rfl) dX1_init_19 (fun f_92541 H locs ef_92541 Y => ?_)
  have p_q_92537 := p_q_92537.up ef_92541 ((p_q_92537.neB p_h))
  have p_h := p_h.me ef_92541
  have hk := hk.up ef_92541 (by simp)
  refine lv_aload_n hx hb dX1_init_22 rfl (lv_at hl 0 rfl) ?_
  refine lv_aload_n hx hb dX1_init_23 rfl (lv_at hl 3 rfl) ?_
  refine pg_putF S Y hname ok_X1 2 (by decide) kf1_23 rfl rfl (fs' := [.ref w, .ref jd, .ref rg, .ref q_92537, .int 0]) (v := .ref rg) p_h rfl rfl rfl (Nat.le_of_ble_eq_true rfl) dX1_init_24 (fun f_92542 H locs ef_92542 Y => ?_)
  have p_q_92537 := p_q_92537.up ef_92542 ((p_q_92537.neB p_h))
  have p_h := p_h.me ef_92542
  have hk := hk.up ef_92542 (by simp)
  exact prV (post := fun L1 f1 => ∃ a1 : Nat, kp L f L1 f1 [h] ∧ pt L1 f1 h (.inr (1, [.ref w, .ref jd, .ref rg, .ref a1, .int 0])) ∧ pt L1 f1 a1 (.inl (G.2 0, 14, .inl (fun _ => 0))) ∧ a1 ∉ L) S Y (by decide) (by decide) hA1 ⟨q_92537, hk, p_h, p_q_92537, whkq_92537⟩ dX1_init_27
set_option maxHeartbeats 4000000 in
set_option maxRecDepth 100000 in
theorem c_X2_init {l : Launch} {G : GG} {L : List Nat} {f : HF} {h w jd dd sl : Nat}  (p_h : pt L f h (.inr (2, [.null, .null, .null, .null])))  : PMv l yX2_init cX2_init 5 1 0 0 G [.ref h, .ref w, .ref jd, .ref dd, .ref sl] L f (fun L1 f1 => kp L f L1 f1 [h] ∧ pt L1 f1 h (.inr (2, [.ref w, .ref jd, .ref dd, .ref sl]))) := by
  refine PMv.of (post := fun L1 f1 => kp L f L1 f1 [h] ∧ pt L1 f1 h (.inr (2, [.ref w, .ref jd, .ref dd, .ref sl]))) (own := RX2) (by decide) rfl (Nat.le_of_ble_eq_true rfl) (fun sz p e s m args below meth c A ls hA1 hname S Y hl => ?_)
  have hx := S.hx
  have hb := S.hb
  have hl : lv_has ls 5 [(0, .ref h), (1, .ref w), (2, .ref jd), (3, .ref dd), (4, .ref sl)] := hl
  have hk : kp L f L f [h] := kp.rf
  refine lv_aload_n hx hb dX2_init_0 rfl (lv_at hl 0 rfl) ?_
  refine pObj S km2_3 kObj1 kObj2 hl.1 (Nat.le_of_ble_eq_true rfl) (Nat.le_of_ble_eq_true rfl) dX2_init_1 ?_
  refine lv_aload_n hx hb dX2_init_4 rfl (lv_at hl 0 rfl) ?_
  refine lv_aload_n hx hb dX2_init_5 rfl (lv_at hl 1 rfl) ?_
  refine pg_putF S Y hname ok_X2 0 (by decide) kf2_9 rfl rfl (fs' := [.ref w, .null, .null, .null]) (v := .ref w) p_h rfl rfl rfl (Nat.le_of_ble_eq_true rfl) dX2_init_6 (fun f_92543 H locs ef_92543 Y => ?_)
  have p_h := p_h.me ef_92543
  have hk := hk.up ef_92543 (by simp)
  refine lv_aload_n hx hb dX2_init_9 rfl (lv_at hl 0 rfl) ?_
  refine lv_aload_n hx hb dX2_init_10 rfl (lv_at hl 2 rfl) ?_
  refine pg_putF S Y hname ok_X2 1 (by decide) kf2_15 rfl rfl (fs' := [.ref w, .ref jd, .null, .null]) (v := .ref jd) p_h rfl rfl rfl (Nat.le_of_ble_eq_true rfl) dX2_init_11 (fun f_92544 H locs ef_92544 Y => ?_)
  have p_h := p_h.me ef_92544
  have hk := hk.up ef_92544 (by simp)
  refine lv_aload_n hx hb dX2_init_14 rfl (lv_at hl 0 rfl) ?_
  refine lv_aload_n hx hb dX2_init_15 rfl (lv_at hl 3 rfl) ?_
  refine pg_putF S Y hname ok_X2 2 (by decide) kf2_19 rfl rfl (fs' := [.ref w, .ref jd, .ref dd, .null]) (v := .ref dd) p_h rfl rfl rfl (Nat.le_of_ble_eq_true rfl) dX2_init_16 (fun f_92545 H locs ef_92545 Y => ?_)
  have p_h := p_h.me ef_92545
  have hk := hk.up ef_92545 (by simp)
  refine lv_aload_n hx hb dX2_init_19 rfl (lv_at hl 0 rfl) ?_
  refine lv_aload hx hb dX2_init_20 (lv_at hl 4 rfl) ?_
  refine pg_putF S Y hname ok_X2 3 (by decide) kf2_23 rfl rfl (fs' := [.ref w, .ref jd, .ref dd, .ref sl]) (v := .ref sl) p_h rfl rfl rfl (Nat.le_of_ble_eq_true rfl) dX2_init_22 (fun f_92546 H locs ef_92546 Y => ?_)
  have p_h := p_h.me ef_92546
  have hk := hk.up ef_92546 (by simp)
  exact prV (post := fun L1 f1 => kp L f L1 f1 [h] ∧ pt L1 f1 h (.inr (2, [.ref w, .ref jd, .ref dd, .ref sl]))) S Y (by decide) (by decide) hA1 ⟨hk, p_h⟩ dX2_init_25
set_option maxHeartbeats 4000000 in
set_option maxRecDepth 100000 in
theorem c_X8_init {l : Launch} {G : GG} {L : List Nat} {f : HF} {h w jd sl : Nat}  (p_h : pt L f h (.inr (8, [.null, .null, .null, .null, .null, .null, .null, .int 0, .int 0, .int 0])))  : PMv l yX8_init cX8_init 4 1 4 118 G [.ref h, .ref w, .ref jd, .ref sl] L f (fun L1 f1 => ∃ a1 : Nat, ∃ a2 : Nat, ∃ a3 : Nat, ∃ a4 : Nat, kp L f L1 f1 [h] ∧ pt L1 f1 h (.inr (8, [.ref w, .ref jd, .ref sl, .ref a1, .ref a2, .ref a3, .ref a4, .int 0, .int 0, .int 0])) ∧ pt L1 f1 a1 (.inl (G.2 0, 14, .inl (fun _ => 0))) ∧ pt L1 f1 a2 (.inl (G.2 0, 14, .inl (fun _ => 0))) ∧ pt L1 f1 a3 (.inl (G.2 0, 84, .inl (fun _ => 0))) ∧ pt L1 f1 a4 (.inl (G.2 0, 6, .inl (fun _ => 0))) ∧ a1 ≠ a2 ∧ a1 ∉ L ∧ a2 ∉ L ∧ a3 ∉ L ∧ a4 ∉ L) := by
  refine PMv.of (post := fun L1 f1 => ∃ a1 : Nat, ∃ a2 : Nat, ∃ a3 : Nat, ∃ a4 : Nat, kp L f L1 f1 [h] ∧ pt L1 f1 h (.inr (8, [.ref w, .ref jd, .ref sl, .ref a1, .ref a2, .ref a3, .ref a4, .int 0, .int 0, .int 0])) ∧ pt L1 f1 a1 (.inl (G.2 0, 14, .inl (fun _ => 0))) ∧ pt L1 f1 a2 (.inl (G.2 0, 14, .inl (fun _ => 0))) ∧ pt L1 f1 a3 (.inl (G.2 0, 84, .inl (fun _ => 0))) ∧ pt L1 f1 a4 (.inl (G.2 0, 6, .inl (fun _ => 0))) ∧ a1 ≠ a2 ∧ a1 ∉ L ∧ a2 ∉ L ∧ a3 ∉ L ∧ a4 ∉ L) (own := RX8) (by decide) rfl (Nat.le_of_ble_eq_true rfl) (fun sz p e s m args below meth c A ls hA1 hname S Y hl => ?_)
  have hx := S.hx
  have hb := S.hb
  have hl : lv_has ls 4 [(0, .ref h), (1, .ref w), (2, .ref jd), (3, .ref sl)] := hl
  have hk : kp L f L f [h] := kp.rf
  refine lv_aload_n hx hb dX8_init_0 rfl (lv_at hl 0 rfl) ?_
  refine pObj S km8_3 kObj1 kObj2 hl.1 (Nat.le_of_ble_eq_true rfl) (Nat.le_of_ble_eq_true rfl) dX8_init_1 ?_
  refine lv_aload_n hx hb dX8_init_4 rfl (lv_at hl 0 rfl) ?_
  refine lv_bipush (v := 14) hx hb dX8_init_5 (by decide) ?_
  refine pg_newa S Y (ty := .int) rfl 0 rfl ka_int (N' := 14) (14, .inl (fun _ => 0)) (fun _ => rfl) (by decide) (by decide) (by decide) (by decide) (by decide) dX8_init_7 (fun q_92547 f_92548 H nq_92547 ef_92548 Y => ?_)
  have whkq_92547 := hk.notin nq_92547
  have hk := hk.push ef_92548 nq_92547
  have p_h := p_h.push ef_92548 nq_92547
  have p_q_92547 := pt.new (L := L) ef_92548
  refine pg_putF S Y hname ok_X8 3 (by decide) kf8_9 rfl rfl (fs' := [.null, .null, .null, .ref q_92547, .null, .null, .null, .int 0, .int 0, .int 0]) (v := .ref q_92547) p_h rfl rfl rfl (Nat.le_of_ble_eq_true rfl) dX8_init_9 (fun f_92549 H locs ef_92549 Y => ?_)
  have p_q_92547 := p_q_92547.up ef_92549 ((p_q_92547.neB p_h))
  have p_h := p_h.me ef_92549
  have hk := hk.up ef_92549 (by simp)
  refine lv_aload_n hx hb dX8_init_12 rfl (lv_at hl 0 rfl) ?_
  refine lv_bipush (v := 14) hx hb dX8_init_13 (by decide) ?_
  refine pg_newa S Y (ty := .int) rfl 0 rfl ka_int (N' := 14) (14, .inl (fun _ => 0)) (fun _ => rfl) (by decide) (by decide) (by decide) (by decide) (by decide) dX8_init_15 (fun q_92550 f_92551 H nq_92550 ef_92551 Y => ?_)
  have whkq_92550 := hk.notin nq_92550
  have hk := hk.push ef_92551 nq_92550
  have p_h := p_h.push ef_92551 nq_92550
  have dq_92547_q_92550 := p_q_92547.neQ nq_92550
  have p_q_92547 := p_q_92547.push ef_92551 nq_92550
  have p_q_92550 := pt.new (L := (L ++ [q_92547])) ef_92551
  refine pg_putF S Y hname ok_X8 4 (by decide) kf8_15 rfl rfl (fs' := [.null, .null, .null, .ref q_92547, .ref q_92550, .null, .null, .int 0, .int 0, .int 0]) (v := .ref q_92550) p_h rfl rfl rfl (Nat.le_of_ble_eq_true rfl) dX8_init_17 (fun f_92552 H locs ef_92552 Y => ?_)
  have p_q_92547 := p_q_92547.up ef_92552 ((p_q_92547.neB p_h))
  have p_q_92550 := p_q_92550.up ef_92552 ((p_q_92550.neB p_h))
  have p_h := p_h.me ef_92552
  have hk := hk.up ef_92552 (by simp)
  refine lv_aload_n hx hb dX8_init_20 rfl (lv_at hl 0 rfl) ?_
  refine lv_bipush (v := 84) hx hb dX8_init_21 (by decide) ?_
  refine pg_newa S Y (ty := .int) rfl 0 rfl ka_int (N' := 84) (84, .inl (fun _ => 0)) (fun _ => rfl) (by decide) (by decide) (by decide) (by decide) (by decide) dX8_init_23 (fun q_92553 f_92554 H nq_92553 ef_92554 Y => ?_)
  have whkq_92553 := hk.notin nq_92553
  have hk := hk.push ef_92554 nq_92553
  have p_h := p_h.push ef_92554 nq_92553
  have p_q_92547 := p_q_92547.push ef_92554 nq_92553
  have p_q_92550 := p_q_92550.push ef_92554 nq_92553
  have p_q_92553 := pt.new (L := ((L ++ [q_92547]) ++ [q_92550])) ef_92554
  refine pg_putF S Y hname ok_X8 5 (by decide) kf8_18 rfl rfl (fs' := [.null, .null, .null, .ref q_92547, .ref q_92550, .ref q_92553, .null, .int 0, .int 0, .int 0]) (v := .ref q_92553) p_h rfl rfl rfl (Nat.le_of_ble_eq_true rfl) dX8_init_25 (fun f_92555 H locs ef_92555 Y => ?_)
  have p_q_92547 := p_q_92547.up ef_92555 ((p_q_92547.neB p_h))
  have p_q_92550 := p_q_92550.up ef_92555 ((p_q_92550.neB p_h))
  have p_q_92553 := p_q_92553.up ef_92555 ((p_q_92553.neB p_h))
  have p_h := p_h.me ef_92555
  have hk := hk.up ef_92555 (by simp)
  refine lv_aload_n hx hb dX8_init_28 rfl (lv_at hl 0 rfl) ?_
  refine lv_bipush (v := 6) hx hb dX8_init_29 (by decide) ?_
  refine pg_newa S Y (ty := .int) rfl 0 rfl ka_int (N' := 6) (6, .inl (fun _ => 0)) (fun _ => rfl) (by decide) (by decide) (by decide) (by decide) (by decide) dX8_init_31 (fun q_92556 f_92557 H nq_92556 ef_92557 Y => ?_)
  have whkq_92556 := hk.notin nq_92556
  have hk := hk.push ef_92557 nq_92556
  have p_h := p_h.push ef_92557 nq_92556
  have p_q_92547 := p_q_92547.push ef_92557 nq_92556
  have p_q_92550 := p_q_92550.push ef_92557 nq_92556
  have p_q_92553 := p_q_92553.push ef_92557 nq_92556
  have p_q_92556 := pt.new (L := (((L ++ [q_92547]) ++ [q_92550]) ++ [q_92553])) ef_92557
  refine pg_putF S Y hname ok_X8 6 (by decide) kf8_21 rfl rfl (fs' := [.null, .null, .null, .ref q_92547, .ref q_92550, .ref q_92553, .ref q_92556, .int 0, .int 0, .int 0]) (v := .ref q_92556) p_h rfl rfl rfl (Nat.le_of_ble_eq_true rfl) dX8_init_33 (fun f_92558 H locs ef_92558 Y => ?_)
  have p_q_92547 := p_q_92547.up ef_92558 ((p_q_92547.neB p_h))
  have p_q_92550 := p_q_92550.up ef_92558 ((p_q_92550.neB p_h))
  have p_q_92553 := p_q_92553.up ef_92558 ((p_q_92553.neB p_h))
  have p_q_92556 := p_q_92556.up ef_92558 ((p_q_92556.neB p_h))
  have p_h := p_h.me ef_92558
  have hk := hk.up ef_92558 (by simp)
  refine lv_aload_n hx hb dX8_init_36 rfl (lv_at hl 0 rfl) ?_
  refine lv_aload_n hx hb dX8_init_37 rfl (lv_at hl 1 rfl) ?_
  refine pg_putF S Y hname ok_X8 0 (by decide) kf8_24 rfl rfl (fs' := [.ref w, .null, .null, .ref q_92547, .ref q_92550, .ref q_92553, .ref q_92556, .int 0, .int 0, .int 0]) (v := .ref w) p_h rfl rfl rfl (Nat.le_of_ble_eq_true rfl) dX8_init_38 (fun f_92559 H locs ef_92559 Y => ?_)
  have p_q_92547 := p_q_92547.up ef_92559 ((p_q_92547.neB p_h))
  have p_q_92550 := p_q_92550.up ef_92559 ((p_q_92550.neB p_h))
  have p_q_92553 := p_q_92553.up ef_92559 ((p_q_92553.neB p_h))
  have p_q_92556 := p_q_92556.up ef_92559 ((p_q_92556.neB p_h))
  have p_h := p_h.me ef_92559
  have hk := hk.up ef_92559 (by simp)
  refine lv_aload_n hx hb dX8_init_41 rfl (lv_at hl 0 rfl) ?_
  refine lv_aload_n hx hb dX8_init_42 rfl (lv_at hl 2 rfl) ?_
  refine pg_putF S Y hname ok_X8 1 (by decide) kf8_28 rfl rfl (fs' := [.ref w, .ref jd, .null, .ref q_92547, .ref q_92550, .ref q_92553, .ref q_92556, .int 0, .int 0, .int 0]) (v := .ref jd) p_h rfl rfl rfl (Nat.le_of_ble_eq_true rfl) dX8_init_43 (fun f_92560 H locs ef_92560 Y => ?_)
  have p_q_92547 := p_q_92547.up ef_92560 ((p_q_92547.neB p_h))
  have p_q_92550 := p_q_92550.up ef_92560 ((p_q_92550.neB p_h))
  have p_q_92553 := p_q_92553.up ef_92560 ((p_q_92553.neB p_h))
  have p_q_92556 := p_q_92556.up ef_92560 ((p_q_92556.neB p_h))
  have p_h := p_h.me ef_92560
  have hk := hk.up ef_92560 (by simp)
  refine lv_aload_n hx hb dX8_init_46 rfl (lv_at hl 0 rfl) ?_
  refine lv_aload_n hx hb dX8_init_47 rfl (lv_at hl 3 rfl) ?_
  refine pg_putF S Y hname ok_X8 2 (by decide) kf8_32 rfl rfl (fs' := [.ref w, .ref jd, .ref sl, .ref q_92547, .ref q_92550, .ref q_92553, .ref q_92556, .int 0, .int 0, .int 0]) (v := .ref sl) p_h rfl rfl rfl (Nat.le_of_ble_eq_true rfl) dX8_init_48 (fun f_92561 H locs ef_92561 Y => ?_)
  have p_q_92547 := p_q_92547.up ef_92561 ((p_q_92547.neB p_h))
  have p_q_92550 := p_q_92550.up ef_92561 ((p_q_92550.neB p_h))
  have p_q_92553 := p_q_92553.up ef_92561 ((p_q_92553.neB p_h))
  have p_q_92556 := p_q_92556.up ef_92561 ((p_q_92556.neB p_h))
  have p_h := p_h.me ef_92561
  have hk := hk.up ef_92561 (by simp)
  exact prV (post := fun L1 f1 => ∃ a1 : Nat, ∃ a2 : Nat, ∃ a3 : Nat, ∃ a4 : Nat, kp L f L1 f1 [h] ∧ pt L1 f1 h (.inr (8, [.ref w, .ref jd, .ref sl, .ref a1, .ref a2, .ref a3, .ref a4, .int 0, .int 0, .int 0])) ∧ pt L1 f1 a1 (.inl (G.2 0, 14, .inl (fun _ => 0))) ∧ pt L1 f1 a2 (.inl (G.2 0, 14, .inl (fun _ => 0))) ∧ pt L1 f1 a3 (.inl (G.2 0, 84, .inl (fun _ => 0))) ∧ pt L1 f1 a4 (.inl (G.2 0, 6, .inl (fun _ => 0))) ∧ a1 ≠ a2 ∧ a1 ∉ L ∧ a2 ∉ L ∧ a3 ∉ L ∧ a4 ∉ L) S Y (by decide) (by decide) hA1 ⟨q_92547, q_92550, q_92553, q_92556, hk, p_h, p_q_92547, p_q_92550, p_q_92553, p_q_92556, (dq_92547_q_92550), whkq_92547, whkq_92550, whkq_92553, whkq_92556⟩ dX8_init_51
set_option maxHeartbeats 4000000 in
set_option maxRecDepth 100000 in
theorem c_X0_init {l : Launch} {G : GG} {L : List Nat} {f : HF} {h w : Nat}  (p_h : pt L f h (.inr (0, [.null, .null, .null])))  : PMv l yX0_init cX0_init 2 1 2 14 G [.ref h, .ref w] L f (fun L1 f1 => ∃ a1 : Nat, ∃ a2 : Nat, kp L f L1 f1 [h] ∧ pt L1 f1 h (.inr (0, [.ref w, .ref a1, .ref a2])) ∧ pt L1 f1 a1 (.inl (G.2 0, 8, .inl (fun _ => 0))) ∧ pt L1 f1 a2 (.inl (G.2 0, 6, .inl (fun _ => 0))) ∧ a1 ∉ L ∧ a2 ∉ L) := by
  refine PMv.of (post := fun L1 f1 => ∃ a1 : Nat, ∃ a2 : Nat, kp L f L1 f1 [h] ∧ pt L1 f1 h (.inr (0, [.ref w, .ref a1, .ref a2])) ∧ pt L1 f1 a1 (.inl (G.2 0, 8, .inl (fun _ => 0))) ∧ pt L1 f1 a2 (.inl (G.2 0, 6, .inl (fun _ => 0))) ∧ a1 ∉ L ∧ a2 ∉ L) (own := RX0) (by decide) rfl (Nat.le_of_ble_eq_true rfl) (fun sz p e s m args below meth c A ls hA1 hname S Y hl => ?_)
  have hx := S.hx
  have hb := S.hb
  have hl : lv_has ls 2 [(0, .ref h), (1, .ref w)] := hl
  have hk : kp L f L f [h] := kp.rf
  refine lv_aload_n hx hb dX0_init_0 rfl (lv_at hl 0 rfl) ?_
  refine pObj S km0_3 kObj1 kObj2 hl.1 (Nat.le_of_ble_eq_true rfl) (Nat.le_of_ble_eq_true rfl) dX0_init_1 ?_
  refine lv_aload_n hx hb dX0_init_4 rfl (lv_at hl 0 rfl) ?_
  refine lv_bipush (v := 8) hx hb dX0_init_5 (by decide) ?_
  refine pg_newa S Y (ty := .int) rfl 0 rfl ka_int (N' := 8) (8, .inl (fun _ => 0)) (fun _ => rfl) (by decide) (by decide) (by decide) (by decide) (by decide) dX0_init_7 (fun q_92562 f_92563 H nq_92562 ef_92563 Y => ?_)
  have whkq_92562 := hk.notin nq_92562
  have hk := hk.push ef_92563 nq_92562
  have p_h := p_h.push ef_92563 nq_92562
  have p_q_92562 := pt.new (L := L) ef_92563
  refine pg_putF S Y hname ok_X0 1 (by decide) kf0_9 rfl rfl (fs' := [.null, .ref q_92562, .null]) (v := .ref q_92562) p_h rfl rfl rfl (Nat.le_of_ble_eq_true rfl) dX0_init_9 (fun f_92564 H locs ef_92564 Y => ?_)
  have p_q_92562 := p_q_92562.up ef_92564 ((p_q_92562.neB p_h))
  have p_h := p_h.me ef_92564
  have hk := hk.up ef_92564 (by simp)
  refine lv_aload_n hx hb dX0_init_12 rfl (lv_at hl 0 rfl) ?_
  refine lv_bipush (v := 6) hx hb dX0_init_13 (by decide) ?_
  refine pg_newa S Y (ty := .int) rfl 0 rfl ka_int (N' := 6) (6, .inl (fun _ => 0)) (fun _ => rfl) (by decide) (by decide) (by decide) (by decide) (by decide) dX0_init_15 (fun q_92565 f_92566 H nq_92565 ef_92566 Y => ?_)
  have whkq_92565 := hk.notin nq_92565
  have hk := hk.push ef_92566 nq_92565
  have p_h := p_h.push ef_92566 nq_92565
  have p_q_92562 := p_q_92562.push ef_92566 nq_92565
  have p_q_92565 := pt.new (L := (L ++ [q_92562])) ef_92566
  refine pg_putF S Y hname ok_X0 2 (by decide) kf0_15 rfl rfl (fs' := [.null, .ref q_92562, .ref q_92565]) (v := .ref q_92565) p_h rfl rfl rfl (Nat.le_of_ble_eq_true rfl) dX0_init_17 (fun f_92567 H locs ef_92567 Y => ?_)
  have p_q_92562 := p_q_92562.up ef_92567 ((p_q_92562.neB p_h))
  have p_q_92565 := p_q_92565.up ef_92567 ((p_q_92565.neB p_h))
  have p_h := p_h.me ef_92567
  have hk := hk.up ef_92567 (by simp)
  refine lv_aload_n hx hb dX0_init_20 rfl (lv_at hl 0 rfl) ?_
  refine lv_aload_n hx hb dX0_init_21 rfl (lv_at hl 1 rfl) ?_
  refine pg_putF S Y hname ok_X0 0 (by decide) kf0_18 rfl rfl (fs' := [.ref w, .ref q_92562, .ref q_92565]) (v := .ref w) p_h rfl rfl rfl (Nat.le_of_ble_eq_true rfl) dX0_init_22 (fun f_92568 H locs ef_92568 Y => ?_)
  have p_q_92562 := p_q_92562.up ef_92568 ((p_q_92562.neB p_h))
  have p_q_92565 := p_q_92565.up ef_92568 ((p_q_92565.neB p_h))
  have p_h := p_h.me ef_92568
  have hk := hk.up ef_92568 (by simp)
  exact prV (post := fun L1 f1 => ∃ a1 : Nat, ∃ a2 : Nat, kp L f L1 f1 [h] ∧ pt L1 f1 h (.inr (0, [.ref w, .ref a1, .ref a2])) ∧ pt L1 f1 a1 (.inl (G.2 0, 8, .inl (fun _ => 0))) ∧ pt L1 f1 a2 (.inl (G.2 0, 6, .inl (fun _ => 0))) ∧ a1 ∉ L ∧ a2 ∉ L) S Y (by decide) (by decide) hA1 ⟨q_92562, q_92565, hk, p_h, p_q_92562, p_q_92565, whkq_92562, whkq_92565⟩ dX0_init_25
