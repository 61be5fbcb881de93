theorem dX4_init_0 : decode cX4_init 0 = .ok (.aload_n 0, 1) := by decide +kernel
theorem dX4_init_1 : decode cX4_init 1 = .ok (.invokespecial 3, 3) := by decide +kernel
theorem km4_3 : inW (Cond.methodLink RX4 3 objectInit) := ⟨List.mem_of_getElem? (i := 158) (by decide +kernel), by decide +kernel⟩
theorem kObj1 : inW (Cond.instanceMethod objectInit) := ⟨List.mem_of_getElem? (i := 151) (by decide +kernel), by decide +kernel⟩
theorem kObj2 : inW (Cond.code objectInit ⟨#[0xb1]⟩ 1 none) := ⟨List.mem_of_getElem? (i := 152) (by decide +kernel), by decide +kernel⟩
theorem dX4_init_4 : decode cX4_init 4 = .ok (.aload_n 0, 1) := by decide +kernel
theorem dX4_init_5 : decode cX4_init 5 = .ok (.bipush 98, 2) := by decide +kernel
theorem dX4_init_7 : decode cX4_init 7 = .ok (.newarray .int, 2) := by decide +kernel
theorem ka_int : inW (Cond.arrayClass .int) := ⟨List.mem_of_getElem? (i := 197) (by decide +kernel), by decide +kernel⟩
theorem dX4_init_9 : decode cX4_init 9 = .ok (.putfield 9, 3) := by decide +kernel
theorem dX4_init_12 : decode cX4_init 12 = .ok (.aload_n 0, 1) := by decide +kernel
theorem dX4_init_13 : decode cX4_init 13 = .ok (.bipush 90, 2) := by decide +kernel
theorem dX4_init_15 : decode cX4_init 15 = .ok (.newarray .int, 2) := by decide +kernel
theorem dX4_init_17 : decode cX4_init 17 = .ok (.putfield 15, 3) := by decide +kernel
theorem dX4_init_20 : decode cX4_init 20 = .ok (.aload_n 0, 1) := by decide +kernel
theorem dX4_init_21 : decode cX4_init 21 = .ok (.sipush 137, 3) := by decide +kernel
theorem dX4_init_24 : decode cX4_init 24 = .ok (.putfield 18, 3) := by decide +kernel
theorem dX4_init_27 : decode cX4_init 27 = .ok (.return_, 1) := by decide +kernel
theorem dX9_init_0 : decode cX9_init 0 = .ok (.aload_n 0, 1) := by decide +kernel
theorem dX9_init_1 : decode cX9_init 1 = .ok (.invokespecial 3, 3) := by decide +kernel
theorem km9_3 : inW (Cond.methodLink RX9 3 objectInit) := ⟨List.mem_of_getElem? (i := 214) (by decide +kernel), by decide +kernel⟩
theorem dX9_init_4 : decode cX9_init 4 = .ok (.aload_n 0, 1) := by decide +kernel
theorem dX9_init_5 : decode cX9_init 5 = .ok (.bipush 24, 2) := by decide +kernel
theorem dX9_init_7 : decode cX9_init 7 = .ok (.newarray .int, 2) := by decide +kernel
theorem dX9_init_9 : decode cX9_init 9 = .ok (.putfield 9, 3) := by decide +kernel
theorem dX9_init_12 : decode cX9_init 12 = .ok (.aload_n 0, 1) := by decide +kernel
theorem dX9_init_13 : decode cX9_init 13 = .ok (.iload_n 1, 1) := by decide +kernel
theorem dX9_init_14 : decode cX9_init 14 = .ok (.bipush 8, 2) := by decide +kernel
theorem dX9_init_16 : decode cX9_init 16 = .ok (.invokestatic 15, 3) := by decide +kernel
theorem km9_15 : inW (Cond.methodLink RX9 15 Lib.Math.min.name) := ⟨List.mem_of_getElem? (i := 215) (by decide +kernel), by decide +kernel⟩
theorem dX9_init_19 : decode cX9_init 19 = .ok (.putfield 21, 3) := by decide +kernel
theorem dX9_init_22 : decode cX9_init 22 = .ok (.return_, 1) := by decide +kernel
theorem dX7_init_0 : decode cX7_init 0 = .ok (.aload_n 0, 1) := by decide +kernel
theorem dX7_init_1 : decode cX7_init 1 = .ok (.invokespecial 3, 3) := by decide +kernel
theorem km7_3 : inW (Cond.methodLink RX7 3 objectInit) := ⟨List.mem_of_getElem? (i := 236) (by decide +kernel), by decide +kernel⟩
theorem dX7_init_4 : decode cX7_init 4 = .ok (.aload_n 0, 1) := by decide +kernel
theorem dX7_init_5 : decode cX7_init 5 = .ok (.sipush 300, 3) := by decide +kernel
theorem dX7_init_8 : decode cX7_init 8 = .ok (.newarray .int, 2) := by decide +kernel
theorem dX7_init_10 : decode cX7_init 10 = .ok (.putfield 9, 3) := by decide +kernel
theorem dX7_init_13 : decode cX7_init 13 = .ok (.aload_n 0, 1) := by decide +kernel
theorem dX7_init_14 : decode cX7_init 14 = .ok (.sipush 300, 3) := by decide +kernel
theorem dX7_init_17 : decode cX7_init 17 = .ok (.newarray .int, 2) := by decide +kernel
theorem dX7_init_19 : decode cX7_init 19 = .ok (.putfield 15, 3) := by decide +kernel
theorem dX7_init_22 : decode cX7_init 22 = .ok (.aload_n 0, 1) := by decide +kernel
theorem dX7_init_23 : decode cX7_init 23 = .ok (.iconst 3, 1) := by decide +kernel
theorem dX7_init_24 : decode cX7_init 24 = .ok (.newarray .int, 2) := by decide +kernel
theorem dX7_init_26 : decode cX7_init 26 = .ok (.putfield 18, 3) := by decide +kernel
theorem dX7_init_29 : decode cX7_init 29 = .ok (.aload_n 0, 1) := by decide +kernel
theorem dX7_init_30 : decode cX7_init 30 = .ok (.iconst 3, 1) := by decide +kernel
theorem dX7_init_31 : decode cX7_init 31 = .ok (.newarray .int, 2) := by decide +kernel
theorem dX7_init_33 : decode cX7_init 33 = .ok (.putfield 21, 3) := by decide +kernel
theorem dX7_init_36 : decode cX7_init 36 = .ok (.aload_n 0, 1) := by decide +kernel
theorem dX7_init_37 : decode cX7_init 37 = .ok (.bipush 120, 2) := by decide +kernel
theorem dX7_init_39 : decode cX7_init 39 = .ok (.newarray .int, 2) := by decide +kernel
theorem dX7_init_41 : decode cX7_init 41 = .ok (.putfield 24, 3) := by decide +kernel
theorem dX7_init_44 : decode cX7_init 44 = .ok (.return_, 1) := by decide +kernel
theorem dX5_init_0 : decode cX5_init 0 = .ok (.aload_n 0, 1) := by decide +kernel
theorem dX5_init_1 : decode cX5_init 1 = .ok (.invokespecial 3, 3) := by decide +kernel
theorem km5_3 : inW (Cond.methodLink RX5 3 objectInit) := ⟨List.mem_of_getElem? (i := 338) (by decide +kernel), by decide +kernel⟩
theorem dX5_init_4 : decode cX5_init 4 = .ok (.aload_n 0, 1) := by decide +kernel
theorem dX5_init_5 : decode cX5_init 5 = .ok (.sipush 300, 3) := by decide +kernel
theorem dX5_init_8 : decode cX5_init 8 = .ok (.newarray .int, 2) := by decide +kernel
theorem dX5_init_10 : decode cX5_init 10 = .ok (.putfield 9, 3) := by decide +kernel
theorem dX5_init_13 : decode cX5_init 13 = .ok (.aload_n 0, 1) := by decide +kernel
theorem dX5_init_14 : decode cX5_init 14 = .ok (.sipush 301, 3) := by decide +kernel
theorem dX5_init_17 : decode cX5_init 17 = .ok (.newarray .int, 2) := by decide +kernel
theorem dX5_init_19 : decode cX5_init 19 = .ok (.putfield 15, 3) := by decide +kernel
theorem dX5_init_22 : decode cX5_init 22 = .ok (.aload_n 0, 1) := by decide +kernel
theorem dX5_init_23 : decode cX5_init 23 = .ok (.sipush 301, 3) := by decide +kernel
theorem dX5_init_26 : decode cX5_init 26 = .ok (.newarray .int, 2) := by decide +kernel
theorem dX5_init_28 : decode cX5_init 28 = .ok (.putfield 18, 3) := by decide +kernel
theorem dX5_init_31 : decode cX5_init 31 = .ok (.aload_n 0, 1) := by decide +kernel
theorem dX5_init_32 : decode cX5_init 32 = .ok (.sipush 301, 3) := by decide +kernel
theorem dX5_init_35 : decode cX5_init 35 = .ok (.newarray .int, 2) := by decide +kernel
theorem dX5_init_37 : decode cX5_init 37 = .ok (.putfield 21, 3) := by decide +kernel
theorem dX5_init_40 : decode cX5_init 40 = .ok (.aload_n 0, 1) := by decide +kernel
theorem dX5_init_41 : decode cX5_init 41 = .ok (.iconst (-1), 1) := by decide +kernel
theorem dX5_init_42 : decode cX5_init 42 = .ok (.putfield 24, 3) := by decide +kernel
theorem dX5_init_45 : decode cX5_init 45 = .ok (.aload_n 0, 1) := by decide +kernel
theorem dX5_init_46 : decode cX5_init 46 = .ok (.iconst (-1), 1) := by decide +kernel
theorem dX5_init_47 : decode cX5_init 47 = .ok (.putfield 28, 3) := by decide +kernel
theorem dX5_init_50 : decode cX5_init 50 = .ok (.return_, 1) := by decide +kernel
theorem dX3_init_0 : decode cX3_init 0 = .ok (.aload_n 0, 1) := by decide +kernel
theorem dX3_init_1 : decode cX3_init 1 = .ok (.invokespecial 3, 3) := by decide +kernel
theorem km3_3 : inW (Cond.methodLink RX3 3 objectInit) := ⟨List.mem_of_getElem? (i := 387) (by decide +kernel), by decide +kernel⟩
theorem dX3_init_4 : decode cX3_init 4 = .ok (.aload_n 0, 1) := by decide +kernel
theorem dX3_init_5 : decode cX3_init 5 = .ok (.sipush 300, 3) := by decide +kernel
theorem dX3_init_8 : decode cX3_init 8 = .ok (.newarray .int, 2) := by decide +kernel
theorem dX3_init_10 : decode cX3_init 10 = .ok (.putfield 9, 3) := by decide +kernel
theorem dX3_init_13 : decode cX3_init 13 = .ok (.aload_n 0, 1) := by decide +kernel
theorem dX3_init_14 : decode cX3_init 14 = .ok (.aload_n 1, 1) := by decide +kernel
theorem dX3_init_15 : decode cX3_init 15 = .ok (.putfield 15, 3) := by decide +kernel
theorem dX3_init_18 : decode cX3_init 18 = .ok (.return_, 1) := by decide +kernel
theorem dX6_init_0 : decode cX6_init 0 = .ok (.aload_n 0, 1) := by decide +kernel
theorem dX6_init_1 : decode cX6_init 1 = .ok (.invokespecial 3, 3) := by decide +kernel
theorem km6_3 : inW (Cond.methodLink RX6 3 objectInit) := ⟨List.mem_of_getElem? (i := 403) (by decide +kernel), by decide +kernel⟩
theorem dX6_init_4 : decode cX6_init 4 = .ok (.aload_n 0, 1) := by decide +kernel
theorem dX6_init_5 : decode cX6_init 5 = .ok (.aload_n 1, 1) := by decide +kernel
theorem dX6_init_6 : decode cX6_init 6 = .ok (.putfield 9, 3) := by decide +kernel
theorem dX6_init_9 : decode cX6_init 9 = .ok (.return_, 1) := by decide +kernel
theorem dX1_init_0 : decode cX1_init 0 = .ok (.aload_n 0, 1) := by decide +kernel
theorem dX1_init_1 : decode cX1_init 1 = .ok (.invokespecial 3, 3) := by decide +kernel
theorem km1_3 : inW (Cond.methodLink RX1 3 objectInit) := ⟨List.mem_of_getElem? (i := 416) (by decide +kernel), by decide +kernel⟩
theorem dX1_init_4 : decode cX1_init 4 = .ok (.aload_n 0, 1) := by decide +kernel
theorem dX1_init_5 : decode cX1_init 5 = .ok (.bipush 14, 2) := by decide +kernel
theorem dX1_init_7 : decode cX1_init 7 = .ok (.newarray .int, 2) := by decide +kernel
theorem dX1_init_9 : decode cX1_init 9 = .ok (.putfield 9, 3) := by decide +kernel
theorem dX1_init_12 : decode cX1_init 12 = .ok (.aload_n 0, 1) := by decide +kernel
theorem dX1_init_13 : decode cX1_init 13 = .ok (.aload_n 1, 1) := by decide +kernel
theorem dX1_init_14 : decode cX1_init 14 = .ok (.putfield 15, 3) := by decide +kernel
theorem dX1_init_17 : decode cX1_init 17 = .ok (.aload_n 0, 1) := by decide +kernel
theorem dX1_init_18 : decode cX1_init 18 = .ok (.aload_n 2, 1) := by decide +kernel
theorem dX1_init_19 : decode cX1_init 19 = .ok (.putfield 19, 3) := by decide +kernel
theorem dX1_init_22 : decode cX1_init 22 = .ok (.aload_n 0, 1) := by decide +kernel
theorem dX1_init_23 : decode cX1_init 23 = .ok (.aload_n 3, 1) := by decide +kernel
theorem dX1_init_24 : decode cX1_init 24 = .ok (.putfield 23, 3) := by decide +kernel
theorem dX1_init_27 : decode cX1_init 27 = .ok (.return_, 1) := by decide +kernel
theorem dX2_init_0 : decode cX2_init 0 = .ok (.aload_n 0, 1) := by decide +kernel
theorem dX2_init_1 : decode cX2_init 1 = .ok (.invokespecial 3, 3) := by decide +kernel
theorem km2_3 : inW (Cond.methodLink RX2 3 objectInit) := ⟨List.mem_of_getElem? (i := 438) (by decide +kernel), by decide +kernel⟩
theorem dX2_init_4 : decode cX2_init 4 = .ok (.aload_n 0, 1) := by decide +kernel
theorem dX2_init_5 : decode cX2_init 5 = .ok (.aload_n 1, 1) := by decide +kernel
theorem dX2_init_6 : decode cX2_init 6 = .ok (.putfield 9, 3) := by decide +kernel
theorem dX2_init_9 : decode cX2_init 9 = .ok (.aload_n 0, 1) := by decide +kernel
theorem dX2_init_10 : decode cX2_init 10 = .ok (.aload_n 2, 1) := by decide +kernel
theorem dX2_init_11 : decode cX2_init 11 = .ok (.putfield 15, 3) := by decide +kernel
theorem dX2_init_14 : decode cX2_init 14 = .ok (.aload_n 0, 1) := by decide +kernel
theorem dX2_init_15 : decode cX2_init 15 = .ok (.aload_n 3, 1) := by decide +kernel
theorem dX2_init_16 : decode cX2_init 16 = .ok (.putfield 19, 3) := by decide +kernel
theorem dX2_init_19 : decode cX2_init 19 = .ok (.aload_n 0, 1) := by decide +kernel
theorem dX2_init_20 : decode cX2_init 20 = .ok (.aload 4, 2) := by decide +kernel
theorem dX2_init_22 : decode cX2_init 22 = .ok (.putfield 23, 3) := by decide +kernel
theorem dX2_init_25 : decode cX2_init 25 = .ok (.return_, 1) := by decide +kernel
theorem dX8_init_0 : decode cX8_init 0 = .ok (.aload_n 0, 1) := by decide +kernel
theorem dX8_init_1 : decode cX8_init 1 = .ok (.invokespecial 3, 3) := by decide +kernel
theorem km8_3 : inW (Cond.methodLink RX8 3 objectInit) := ⟨List.mem_of_getElem? (i := 457) (by decide +kernel), by decide +kernel⟩
theorem dX8_init_4 : decode cX8_init 4 = .ok (.aload_n 0, 1) := by decide +kernel
theorem dX8_init_5 : decode cX8_init 5 = .ok (.bipush 14, 2) := by decide +kernel
theorem dX8_init_7 : decode cX8_init 7 = .ok (.newarray .int, 2) := by decide +kernel
theorem dX8_init_9 : decode cX8_init 9 = .ok (.putfield 9, 3) := by decide +kernel
theorem dX8_init_12 : decode cX8_init 12 = .ok (.aload_n 0, 1) := by decide +kernel
theorem dX8_init_13 : decode cX8_init 13 = .ok (.bipush 14, 2) := by decide +kernel
theorem dX8_init_15 : decode cX8_init 15 = .ok (.newarray .int, 2) := by decide +kernel
theorem dX8_init_17 : decode cX8_init 17 = .ok (.putfield 15, 3) := by decide +kernel
theorem dX8_init_20 : decode cX8_init 20 = .ok (.aload_n 0, 1) := by decide +kernel
theorem dX8_init_21 : decode cX8_init 21 = .ok (.bipush 84, 2) := by decide +kernel
theorem dX8_init_23 : decode cX8_init 23 = .ok (.newarray .int, 2) := by decide +kernel
theorem dX8_init_25 : decode cX8_init 25 = .ok (.putfield 18, 3) := by decide +kernel
theorem dX8_init_28 : decode cX8_init 28 = .ok (.aload_n 0, 1) := by decide +kernel
theorem dX8_init_29 : decode cX8_init 29 = .ok (.bipush 6, 2) := by decide +kernel
theorem dX8_init_31 : decode cX8_init 31 = .ok (.newarray .int, 2) := by decide +kernel
theorem dX8_init_33 : decode cX8_init 33 = .ok (.putfield 21, 3) := by decide +kernel
theorem dX8_init_36 : decode cX8_init 36 = .ok (.aload_n 0, 1) := by decide +kernel
theorem dX8_init_37 : decode cX8_init 37 = .ok (.aload_n 1, 1) := by decide +kernel
theorem dX8_init_38 : decode cX8_init 38 = .ok (.putfield 24, 3) := by decide +kernel
theorem dX8_init_41 : decode cX8_init 41 = .ok (.aload_n 0, 1) := by decide +kernel
theorem dX8_init_42 : decode cX8_init 42 = .ok (.aload_n 2, 1) := by decide +kernel
theorem dX8_init_43 : decode cX8_init 43 = .ok (.putfield 28, 3) := by decide +kernel
theorem dX8_init_46 : decode cX8_init 46 = .ok (.aload_n 0, 1) := by decide +kernel
theorem dX8_init_47 : decode cX8_init 47 = .ok (.aload_n 3, 1) := by decide +kernel
theorem dX8_init_48 : decode cX8_init 48 = .ok (.putfield 32, 3) := by decide +kernel
theorem dX8_init_51 : decode cX8_init 51 = .ok (.return_, 1) := by decide +kernel
theorem dX0_init_0 : decode cX0_init 0 = .ok (.aload_n 0, 1) := by decide +kernel
theorem dX0_init_1 : decode cX0_init 1 = .ok (.invokespecial 3, 3) := by decide +kernel
theorem km0_3 : inW (Cond.methodLink RX0 3 objectInit) := ⟨List.mem_of_getElem? (i := 494) (by decide +kernel), by decide +kernel⟩
theorem dX0_init_4 : decode cX0_init 4 = .ok (.aload_n 0, 1) := by decide +kernel
theorem dX0_init_5 : decode cX0_init 5 = .ok (.bipush 8, 2) := by decide +kernel
theorem dX0_init_7 : decode cX0_init 7 = .ok (.newarray .int, 2) := by decide +kernel
theorem dX0_init_9 : decode cX0_init 9 = .ok (.putfield 9, 3) := by decide +kernel
theorem dX0_init_12 : decode cX0_init 12 = .ok (.aload_n 0, 1) := by decide +kernel
theorem dX0_init_13 : decode cX0_init 13 = .ok (.bipush 6, 2) := by decide +kernel
theorem dX0_init_15 : decode cX0_init 15 = .ok (.newarray .int, 2) := by decide +kernel
theorem dX0_init_17 : decode cX0_init 17 = .ok (.putfield 15, 3) := by decide +kernel
theorem dX0_init_20 : decode cX0_init 20 = .ok (.aload_n 0, 1) := by decide +kernel
theorem dX0_init_21 : decode cX0_init 21 = .ok (.aload_n 1, 1) := by decide +kernel
theorem dX0_init_22 : decode cX0_init 22 = .ok (.putfield 18, 3) := by decide +kernel
theorem dX0_init_25 : decode cX0_init 25 = .ok (.return_, 1) := by decide +kernel
set_option maxHeartbeats 4000000 in
set_option maxRecDepth 100000 in
theorem c_X4_init {l : Launch} {G : GG} {L : List Nat} {f : HF} {h : Nat}  (p_h : pt L f h (.inr (4, [.null, .null, .int 0, .int 0, .int 0, .int 0, .int 0])))  : PMv l yX4_init cX4_init 1 1 2 188 G [.ref h] L f (fun L1 f1 => ∃ a1 : Nat, ∃ a2 : Nat, kp L f L1 f1 [h] ∧ pt L1 f1 h (.inr (4, [.ref a1, .ref a2, .int 0, .int 0, .int 0, .int 0, .int 137])) ∧ pt L1 f1 a1 (.inl (G.2 0, 98, .inl (fun _ => 0))) ∧ pt L1 f1 a2 (.inl (G.2 0, 90, .inl (fun _ => 0))) ∧ a1 ∉ L ∧ a2 ∉ L) := by
  refine PMv.of (post := fun L1 f1 => ∃ a1 : Nat, ∃ a2 : Nat, kp L f L1 f1 [h] ∧ pt L1 f1 h (.inr (4, [.ref a1, .ref a2, .int 0, .int 0, .int 0, .int 0, .int 137])) ∧ pt L1 f1 a1 (.inl (G.2 0, 98, .inl (fun _ => 0))) ∧ pt L1 f1 a2 (.inl (G.2 0, 90, .inl (fun _ => 0))) ∧ a1 ∉ L ∧ a2 ∉ L) (own := RX4) (by decide) rfl (Nat.le_of_ble_eq_true rfl) (fun sz p e s m args below meth c A ls hA1 hname S Y hl => ?_)
  have hx := S.hx
  have hb := S.hb
  have hl : lv_has ls 1 [(0, .ref h)] := hl
  have hk : kp L f L f [h] := kp.rf
  refine lv_aload_n hx hb dX4_init_0 rfl (lv_at hl 0 rfl) ?_
  refine pObj S km4_3 kObj1 kObj2 hl.1 (Nat.le_of_ble_eq_true rfl) (Nat.le_of_ble_eq_true rfl) dX4_init_1 ?_
  refine lv_aload_n hx hb dX4_init_4 rfl (lv_at hl 0 rfl) ?_
  refine lv_bipush (v := 98) hx hb dX4_init_5 (by decide) ?_
  refine pg_newa S Y (ty := .int) rfl 0 rfl ka_int (N' := 98) (98, .inl (fun _ => 0)) (fun _ => rfl) (by decide) (by decide) (by decide) (by decide) (by decide) dX4_init_7 (fun q_78986 f_78987 H nq_78986 ef_78987 Y => ?_)
  have whkq_78986 := hk.notin nq_78986
  have hk := hk.push ef_78987 nq_78986
  have p_h := p_h.push ef_78987 nq_78986
  have p_q_78986 := pt.new (L := L) ef_78987
  refine pg_putF S Y hname ok_X4 0 (by decide) kf4_9 rfl rfl (fs' := [.ref q_78986, .null, .int 0, .int 0, .int 0, .int 0, .int 0]) (v := .ref q_78986) p_h rfl rfl rfl (Nat.le_of_ble_eq_true rfl) dX4_init_9 (fun f_78988 H locs ef_78988 Y => ?_)
  have p_q_78986 := p_q_78986.up ef_78988 ((p_q_78986.neB p_h))
  have p_h := p_h.me ef_78988
  have hk := hk.up ef_78988 (by simp)
  refine lv_aload_n hx hb dX4_init_12 rfl (lv_at hl 0 rfl) ?_
  refine lv_bipush (v := 90) hx hb dX4_init_13 (by decide) ?_
  refine pg_newa S Y (ty := .int) rfl 0 rfl ka_int (N' := 90) (90, .inl (fun _ => 0)) (fun _ => rfl) (by decide) (by decide) (by decide) (by decide) (by decide) dX4_init_15 (fun q_78989 f_78990 H nq_78989 ef_78990 Y => ?_)
  have whkq_78989 := hk.notin nq_78989
  have hk := hk.push ef_78990 nq_78989
  have p_h := p_h.push ef_78990 nq_78989
  have p_q_78986 := p_q_78986.push ef_78990 nq_78989
  have p_q_78989 := pt.new (L := (L ++ [q_78986])) ef_78990
  refine pg_putF S Y hname ok_X4 1 (by decide) kf4_15 rfl rfl (fs' := [.ref q_78986, .ref q_78989, .int 0, .int 0, .int 0, .int 0, .int 0]) (v := .ref q_78989) p_h rfl rfl rfl (Nat.le_of_ble_eq_true rfl) dX4_init_17 (fun f_78991 H locs ef_78991 Y => ?_)
  have p_q_78986 := p_q_78986.up ef_78991 ((p_q_78986.neB p_h))
  have p_q_78989 := p_q_78989.up ef_78991 ((p_q_78989.neB p_h))
  have p_h := p_h.me ef_78991
  have hk := hk.up ef_78991 (by simp)
  refine lv_aload_n hx hb dX4_init_20 rfl (lv_at hl 0 rfl) ?_
  refine lv_sipush (v := 137) hx hb dX4_init_21 (by decide) ?_
  refine pg_put S Y ok_X4 6 (by decide) kf4_18 rfl (fs' := [.ref q_78986, .ref q_78989, .int 0, .int 0, .int 0, .int 0, .int 137]) (v := .int 137) p_h rfl rfl rfl (Nat.le_of_ble_eq_true rfl) dX4_init_24 (fun f_78992 H locs ef_78992 Y => ?_)
  have p_q_78986 := p_q_78986.up ef_78992 ((p_q_78986.neB p_h))
  have p_q_78989 := p_q_78989.up ef_78992 ((p_q_78989.neB p_h))
  have p_h := p_h.me ef_78992
  have hk := hk.up ef_78992 (by simp)
  exact prV (post := fun L1 f1 => ∃ a1 : Nat, ∃ a2 : Nat, kp L f L1 f1 [h] ∧ pt L1 f1 h (.inr (4, [.ref a1, .ref a2, .int 0, .int 0, .int 0, .int 0, .int 137])) ∧ pt L1 f1 a1 (.inl (G.2 0, 98, .inl (fun _ => 0))) ∧ pt L1 f1 a2 (.inl (G.2 0, 90, .inl (fun _ => 0))) ∧ a1 ∉ L ∧ a2 ∉ L) S Y (by decide) (by decide) hA1 ⟨q_78986, q_78989, hk, p_h, p_q_78986, p_q_78989, whkq_78986, whkq_78989⟩ dX4_init_27
set_option maxHeartbeats 4000000 in
set_option maxRecDepth 100000 in
theorem c_told6 {l : Launch} {G : GG} {L : List Nat} {f : HF} {h : Nat}  (p_h : pt L f h (.inr (9, [.null, .int 0, .int 0])))  : PMv l yX9_init cX9_init 2 1 1 24 G [.ref h, .int 6] L f (fun L1 f1 => ∃ a1 : Nat, kp L f L1 f1 [h] ∧ pt L1 f1 h (.inr (9, [.ref a1, .int 6, .int 0])) ∧ pt L1 f1 a1 (.inl (G.2 0, 24, .inl (fun _ => 0))) ∧ a1 ∉ L) := by
  refine PMv.of (post := fun L1 f1 => ∃ a1 : Nat, kp L f L1 f1 [h] ∧ pt L1 f1 h (.inr (9, [.ref a1, .int 6, .int 0])) ∧ pt L1 f1 a1 (.inl (G.2 0, 24, .inl (fun _ => 0))) ∧ a1 ∉ L) (own := RX9) (by decide) rfl (Nat.le_of_ble_eq_true rfl) (fun sz p e s m args below meth c A ls hA1 hname S Y hl => ?_)
  have hx := S.hx
  have hb := S.hb
  have hl : lv_has ls 2 [(0, .ref h), (1, .int 6)] := hl
  have hk : kp L f L f [h] := kp.rf
  refine lv_aload_n hx hb dX9_init_0 rfl (lv_at hl 0 rfl) ?_
  refine pObj S km9_3 kObj1 kObj2 hl.1 (Nat.le_of_ble_eq_true rfl) (Nat.le_of_ble_eq_true rfl) dX9_init_1 ?_
  refine lv_aload_n hx hb dX9_init_4 rfl (lv_at hl 0 rfl) ?_
  refine lv_bipush (v := 24) hx hb dX9_init_5 (by decide) ?_
  refine pg_newa S Y (ty := .int) rfl 0 rfl ka_int (N' := 24) (24, .inl (fun _ => 0)) (fun _ => rfl) (by decide) (by decide) (by decide) (by decide) (by decide) dX9_init_7 (fun q_78993 f_78994 H nq_78993 ef_78994 Y => ?_)
  have whkq_78993 := hk.notin nq_78993
  have hk := hk.push ef_78994 nq_78993
  have p_h := p_h.push ef_78994 nq_78993
  have p_q_78993 := pt.new (L := L) ef_78994
  refine pg_putF S Y hname ok_X9 0 (by decide) kf9_9 rfl rfl (fs' := [.ref q_78993, .int 0, .int 0]) (v := .ref q_78993) p_h rfl rfl rfl (Nat.le_of_ble_eq_true rfl) dX9_init_9 (fun f_78995 H locs ef_78995 Y => ?_)
  have p_q_78993 := p_q_78993.up ef_78995 ((p_q_78993.neB p_h))
  have p_h := p_h.me ef_78995
  have hk := hk.up ef_78995 (by simp)
  refine lv_aload_n hx hb dX9_init_12 rfl (lv_at hl 0 rfl) ?_
  refine lv_iload_n hx hb dX9_init_13 rfl (lv_at hl 1 rfl) ?_
  refine lv_bipush (v := 8) hx hb dX9_init_14 (by decide) ?_
  refine va_mmin hx hb (S.ml.trans hl.1.symm) S.ow (S.w km9_15) (S.w kMs_min) (S.w kMi) (S.w kMc_min) (Nat.le_of_ble_eq_true rfl) (Nat.le_of_ble_eq_true rfl) (by decide) (by decide) dX9_init_16 ?_
  refine lv_fold (z := 6) (by decide) ?_
  refine pg_putF S Y hname ok_X9 1 (by decide) kf9_21 rfl rfl (fs' := [.ref q_78993, .int 6, .int 0]) (v := .int 6) p_h rfl rfl rfl (Nat.le_of_ble_eq_true rfl) dX9_init_19 (fun f_78996 H locs ef_78996 Y => ?_)
  have p_q_78993 := p_q_78993.up ef_78996 ((p_q_78993.neB p_h))
  have p_h := p_h.me ef_78996
  have hk := hk.up ef_78996 (by simp)
  exact prV (post := fun L1 f1 => ∃ a1 : Nat, kp L f L1 f1 [h] ∧ pt L1 f1 h (.inr (9, [.ref a1, .int 6, .int 0])) ∧ pt L1 f1 a1 (.inl (G.2 0, 24, .inl (fun _ => 0))) ∧ a1 ∉ L) S Y (by decide) (by decide) hA1 ⟨q_78993, hk, p_h, p_q_78993, whkq_78993⟩ dX9_init_22
set_option maxHeartbeats 4000000 in
set_option maxRecDepth 100000 in
theorem c_told8 {l : Launch} {G : GG} {L : List Nat} {f : HF} {h : Nat}  (p_h : pt L f h (.inr (9, [.null, .int 0, .int 0])))  : PMv l yX9_init cX9_init 2 1 1 24 G [.ref h, .int 8] L f (fun L1 f1 => ∃ a1 : Nat, kp L f L1 f1 [h] ∧ pt L1 f1 h (.inr (9, [.ref a1, .int 8, .int 0])) ∧ pt L1 f1 a1 (.inl (G.2 0, 24, .inl (fun _ => 0))) ∧ a1 ∉ L) := by
  refine PMv.of (post := fun L1 f1 => ∃ a1 : Nat, kp L f L1 f1 [h] ∧ pt L1 f1 h (.inr (9, [.ref a1, .int 8, .int 0])) ∧ pt L1 f1 a1 (.inl (G.2 0, 24, .inl (fun _ => 0))) ∧ a1 ∉ L) (own := RX9) (by decide) rfl (Nat.le_of_ble_eq_true rfl) (fun sz p e s m args below meth c A ls hA1 hname S Y hl => ?_)
  have hx := S.hx
  have hb := S.hb
  have hl : lv_has ls 2 [(0, .ref h), (1, .int 8)] := hl
  have hk : kp L f L f [h] := kp.rf
  refine lv_aload_n hx hb dX9_init_0 rfl (lv_at hl 0 rfl) ?_
  refine pObj S km9_3 kObj1 kObj2 hl.1 (Nat.le_of_ble_eq_true rfl) (Nat.le_of_ble_eq_true rfl) dX9_init_1 ?_
  refine lv_aload_n hx hb dX9_init_4 rfl (lv_at hl 0 rfl) ?_
  refine lv_bipush (v := 24) hx hb dX9_init_5 (by decide) ?_
  refine pg_newa S Y (ty := .int) rfl 0 rfl ka_int (N' := 24) (24, .inl (fun _ => 0)) (fun _ => rfl) (by decide) (by decide) (by decide) (by decide) (by decide) dX9_init_7 (fun q_78997 f_78998 H nq_78997 ef_78998 Y => ?_)
  have whkq_78997 := hk.notin nq_78997
  have hk := hk.push ef_78998 nq_78997
  have p_h := p_h.push ef_78998 nq_78997
  have p_q_78997 := pt.new (L := L) ef_78998
  refine pg_putF S Y hname ok_X9 0 (by decide) kf9_9 rfl rfl (fs' := [.ref q_78997, .int 0, .int 0]) (v := .ref q_78997) p_h rfl rfl rfl (Nat.le_of_ble_eq_true rfl) dX9_init_9 (fun f_78999 H locs ef_78999 Y => ?_)
  have p_q_78997 := p_q_78997.up ef_78999 ((p_q_78997.neB p_h))
  have p_h := p_h.me ef_78999
  have hk := hk.up ef_78999 (by simp)
  refine lv_aload_n hx hb dX9_init_12 rfl (lv_at hl 0 rfl) ?_
  refine lv_iload_n hx hb dX9_init_13 rfl (lv_at hl 1 rfl) ?_
  refine lv_bipush (v := 8) hx hb dX9_init_14 (by decide) ?_
  refine va_mmin hx hb (S.ml.trans hl.1.symm) S.ow (S.w km9_15) (S.w kMs_min) (S.w kMi) (S.w kMc_min) (Nat.le_of_ble_eq_true rfl) (Nat.le_of_ble_eq_true rfl) (by decide) (by decide) dX9_init_16 ?_
  refine lv_fold (z := 8) (by decide) ?_
  refine pg_putF S Y hname ok_X9 1 (by decide) kf9_21 rfl rfl (fs' := [.ref q_78997, .int 8, .int 0]) (v := .int 8) p_h rfl rfl rfl (Nat.le_of_ble_eq_true rfl) dX9_init_19 (fun f_79000 H locs ef_79000 Y => ?_)
  have p_q_78997 := p_q_78997.up ef_79000 ((p_q_78997.neB p_h))
  have p_h := p_h.me ef_79000
  have hk := hk.up ef_79000 (by simp)
  exact prV (post := fun L1 f1 => ∃ a1 : Nat, kp L f L1 f1 [h] ∧ pt L1 f1 h (.inr (9, [.ref a1, .int 8, .int 0])) ∧ pt L1 f1 a1 (.inl (G.2 0, 24, .inl (fun _ => 0))) ∧ a1 ∉ L) S Y (by decide) (by decide) hA1 ⟨q_78997, hk, p_h, p_q_78997, whkq_78997⟩ dX9_init_22
set_option maxHeartbeats 4000000 in
set_option maxRecDepth 100000 in
theorem c_X7_init {l : Launch} {G : GG} {L : List Nat} {f : HF} {h : Nat}  (p_h : pt L f h (.inr (7, [.null, .null, .null, .null, .null, .int 0, .int 0])))  : PMv l yX7_init cX7_init 1 1 5 726 G [.ref h] L f (fun L1 f1 => ∃ a1 : Nat, ∃ a2 : Nat, ∃ a3 : Nat, ∃ a4 : Nat, ∃ a5 : Nat, kp L f L1 f1 [h] ∧ pt L1 f1 h (.inr (7, [.ref a1, .ref a2, .ref a3, .ref a4, .ref a5, .int 0, .int 0])) ∧ pt L1 f1 a1 (.inl (G.2 0, 300, .inl (fun _ => 0))) ∧ pt L1 f1 a2 (.inl (G.2 0, 300, .inl (fun _ => 0))) ∧ pt L1 f1 a3 (.inl (G.2 0, 3, .inl (fun _ => 0))) ∧ pt L1 f1 a4 (.inl (G.2 0, 3, .inl (fun _ => 0))) ∧ pt L1 f1 a5 (.inl (G.2 0, 120, .inl (fun _ => 0))) ∧ a1 ≠ a2 ∧ a3 ≠ a4 ∧ a1 ∉ L ∧ a2 ∉ L ∧ a3 ∉ L ∧ a4 ∉ L ∧ a5 ∉ L) := by
  refine PMv.of (post := fun L1 f1 => ∃ a1 : Nat, ∃ a2 : Nat, ∃ a3 : Nat, ∃ a4 : Nat, ∃ a5 : Nat, kp L f L1 f1 [h] ∧ pt L1 f1 h (.inr (7, [.ref a1, .ref a2, .ref a3, .ref a4, .ref a5, .int 0, .int 0])) ∧ pt L1 f1 a1 (.inl (G.2 0, 300, .inl (fun _ => 0))) ∧ pt L1 f1 a2 (.inl (G.2 0, 300, .inl (fun _ => 0))) ∧ pt L1 f1 a3 (.inl (G.2 0, 3, .inl (fun _ => 0))) ∧ pt L1 f1 a4 (.inl (G.2 0, 3, .inl (fun _ => 0))) ∧ pt L1 f1 a5 (.inl (G.2 0, 120, .inl (fun _ => 0))) ∧ a1 ≠ a2 ∧ a3 ≠ a4 ∧ a1 ∉ L ∧ a2 ∉ L ∧ a3 ∉ L ∧ a4 ∉ L ∧ a5 ∉ L) (own := RX7) (by decide) rfl (Nat.le_of_ble_eq_true rfl) (fun sz p e s m args below meth c A ls hA1 hname S Y hl => ?_)
  have hx := S.hx
  have hb := S.hb
  have hl : lv_has ls 1 [(0, .ref h)] := hl
  have hk : kp L f L f [h] := kp.rf
  refine lv_aload_n hx hb dX7_init_0 rfl (lv_at hl 0 rfl) ?_
  refine pObj S km7_3 kObj1 kObj2 hl.1 (Nat.le_of_ble_eq_true rfl) (Nat.le_of_ble_eq_true rfl) dX7_init_1 ?_
  refine lv_aload_n hx hb dX7_init_4 rfl (lv_at hl 0 rfl) ?_
  refine lv_sipush (v := 300) hx hb dX7_init_5 (by decide) ?_
  refine pg_newa S Y (ty := .int) rfl 0 rfl ka_int (N' := 300) (300, .inl (fun _ => 0)) (fun _ => rfl) (by decide) (by decide) (by decide) (by decide) (by decide) dX7_init_8 (fun q_79001 f_79002 H nq_79001 ef_79002 Y => ?_)
  have whkq_79001 := hk.notin nq_79001
  have hk := hk.push ef_79002 nq_79001
  have p_h := p_h.push ef_79002 nq_79001
  have p_q_79001 := pt.new (L := L) ef_79002
  refine pg_putF S Y hname ok_X7 0 (by decide) kf7_9 rfl rfl (fs' := [.ref q_79001, .null, .null, .null, .null, .int 0, .int 0]) (v := .ref q_79001) p_h rfl rfl rfl (Nat.le_of_ble_eq_true rfl) dX7_init_10 (fun f_79003 H locs ef_79003 Y => ?_)
  have p_q_79001 := p_q_79001.up ef_79003 ((p_q_79001.neB p_h))
  have p_h := p_h.me ef_79003
  have hk := hk.up ef_79003 (by simp)
  refine lv_aload_n hx hb dX7_init_13 rfl (lv_at hl 0 rfl) ?_
  refine lv_sipush (v := 300) hx hb dX7_init_14 (by decide) ?_
  refine pg_newa S Y (ty := .int) rfl 0 rfl ka_int (N' := 300) (300, .inl (fun _ => 0)) (fun _ => rfl) (by decide) (by decide) (by decide) (by decide) (by decide) dX7_init_17 (fun q_79004 f_79005 H nq_79004 ef_79005 Y => ?_)
  have whkq_79004 := hk.notin nq_79004
  have hk := hk.push ef_79005 nq_79004
  have p_h := p_h.push ef_79005 nq_79004
  have dq_79001_q_79004 := p_q_79001.neQ nq_79004
  have p_q_79001 := p_q_79001.push ef_79005 nq_79004
  have p_q_79004 := pt.new (L := (L ++ [q_79001])) ef_79005
  refine pg_putF S Y hname ok_X7 1 (by decide) kf7_15 rfl rfl (fs' := [.ref q_79001, .ref q_79004, .null, .null, .null, .int 0, .int 0]) (v := .ref q_79004) p_h rfl rfl rfl (Nat.le_of_ble_eq_true rfl) dX7_init_19 (fun f_79006 H locs ef_79006 Y => ?_)
  have p_q_79001 := p_q_79001.up ef_79006 ((p_q_79001.neB p_h))
  have p_q_79004 := p_q_79004.up ef_79006 ((p_q_79004.neB p_h))
  have p_h := p_h.me ef_79006
  have hk := hk.up ef_79006 (by simp)
  refine lv_aload_n hx hb dX7_init_22 rfl (lv_at hl 0 rfl) ?_
  refine lv_iconst (v := 3) hx hb dX7_init_23 (by decide) ?_
  refine pg_newa S Y (ty := .int) rfl 0 rfl ka_int (N' := 3) (3, .inl (fun _ => 0)) (fun _ => rfl) (by decide) (by decide) (by decide) (by decide) (by decide) dX7_init_24 (fun q_79007 f_79008 H nq_79007 ef_79008 Y => ?_)
  have whkq_79007 := hk.notin nq_79007
  have hk := hk.push ef_79008 nq_79007
  have p_h := p_h.push ef_79008 nq_79007
  have p_q_79001 := p_q_79001.push ef_79008 nq_79007
  have p_q_79004 := p_q_79004.push ef_79008 nq_79007
  have p_q_79007 := pt.new (L := ((L ++ [q_79001]) ++ [q_79004])) ef_79008
  refine pg_putF S Y hname ok_X7 2 (by decide) kf7_18 rfl rfl (fs' := [.ref q_79001, .ref q_79004, .ref q_79007, .null, .null, .int 0, .int 0]) (v := .ref q_79007) p_h rfl rfl rfl (Nat.le_of_ble_eq_true rfl) dX7_init_26 (fun f_79009 H locs ef_79009 Y => ?_)
  have p_q_79001 := p_q_79001.up ef_79009 ((p_q_79001.neB p_h))
  have p_q_79004 := p_q_79004.up ef_79009 ((p_q_79004.neB p_h))
  have p_q_79007 := p_q_79007.up ef_79009 ((p_q_79007.neB p_h))
  have p_h := p_h.me ef_79009
  have hk := hk.up ef_79009 (by simp)
  refine lv_aload_n hx hb dX7_init_29 rfl (lv_at hl 0 rfl) ?_
  refine lv_iconst (v := 3) hx hb dX7_init_30 (by decide) ?_
  refine pg_newa S Y (ty := .int) rfl 0 rfl ka_int (N' := 3) (3, .inl (fun _ => 0)) (fun _ => rfl) (by decide) (by decide) (by decide) (by decide) (by decide) dX7_init_31 (fun q_79010 f_79011 H nq_79010 ef_79011 Y => ?_)
  have whkq_79010 := hk.notin nq_79010
  have hk := hk.push ef_79011 nq_79010
  have p_h := p_h.push ef_79011 nq_79010
  have p_q_79001 := p_q_79001.push ef_79011 nq_79010
  have p_q_79004 := p_q_79004.push ef_79011 nq_79010
  have dq_79007_q_79010 := p_q_79007.neQ nq_79010
  have p_q_79007 := p_q_79007.push ef_79011 nq_79010
  have p_q_79010 := pt.new (L := (((L ++ [q_79001]) ++ [q_79004]) ++ [q_79007])) ef_79011
  refine pg_putF S Y hname ok_X7 3 (by decide) kf7_21 rfl rfl (fs' := [.ref q_79001, .ref q_79004, .ref q_79007, .ref q_79010, .null, .int 0, .int 0]) (v := .ref q_79010) p_h rfl rfl rfl (Nat.le_of_ble_eq_true rfl) dX7_init_33 (fun f_79012 H locs ef_79012 Y => ?_)
  have p_q_79001 := p_q_79001.up ef_79012 ((p_q_79001.neB p_h))
  have p_q_79004 := p_q_79004.up ef_79012 ((p_q_79004.neB p_h))
  have p_q_79007 := p_q_79007.up ef_79012 ((p_q_79007.neB p_h))
  have p_q_79010 := p_q_79010.up ef_79012 ((p_q_79010.neB p_h))
  have p_h := p_h.me ef_79012
  have hk := hk.up ef_79012 (by simp)
  refine lv_aload_n hx hb dX7_init_36 rfl (lv_at hl 0 rfl) ?_
  refine lv_bipush (v := 120) hx hb dX7_init_37 (by decide) ?_
  refine pg_newa S Y (ty := .int) rfl 0 rfl ka_int (N' := 120) (120, .inl (fun _ => 0)) (fun _ => rfl) (by decide) (by decide) (by decide) (by decide) (by decide) dX7_init_39 (fun q_79013 f_79014 H nq_79013 ef_79014 Y => ?_)
  have whkq_79013 := hk.notin nq_79013
  have hk := hk.push ef_79014 nq_79013
  have p_h := p_h.push ef_79014 nq_79013
  have p_q_79001 := p_q_79001.push ef_79014 nq_79013
  have p_q_79004 := p_q_79004.push ef_79014 nq_79013
  have p_q_79007 := p_q_79007.push ef_79014 nq_79013
  have p_q_79010 := p_q_79010.push ef_79014 nq_79013
  have p_q_79013 := pt.new (L := ((((L ++ [q_79001]) ++ [q_79004]) ++ [q_79007]) ++ [q_79010])) ef_79014
  refine pg_putF S Y hname ok_X7 4 (by decide) kf7_24 rfl rfl (fs' := [.ref q_79001, .ref q_79004, .ref q_79007, .ref q_79010, .ref q_79013, .int 0, .int 0]) (v := .ref q_79013) p_h rfl rfl rfl (Nat.le_of_ble_eq_true rfl) dX7_init_41 (fun f_79015 H locs ef_79015 Y => ?_)
  have p_q_79001 := p_q_79001.up ef_79015 ((p_q_79001.neB p_h))
  have p_q_79004 := p_q_79004.up ef_79015 ((p_q_79004.neB p_h))
  have p_q_79007 := p_q_79007.up ef_79015 ((p_q_79007.neB p_h))
  have p_q_79010 := p_q_79010.up ef_79015 ((p_q_79010.neB p_h))
  have p_q_79013 := p_q_79013.up ef_79015 ((p_q_79013.neB p_h))
  have p_h := p_h.me ef_79015
  have hk := hk.up ef_79015 (by simp)
  exact prV (post := fun L1 f1 => ∃ a1 : Nat, ∃ a2 : Nat, ∃ a3 : Nat, ∃ a4 : Nat, ∃ a5 : Nat, kp L f L1 f1 [h] ∧ pt L1 f1 h (.inr (7, [.ref a1, .ref a2, .ref a3, .ref a4, .ref a5, .int 0, .int 0])) ∧ pt L1 f1 a1 (.inl (G.2 0, 300, .inl (fun _ => 0))) ∧ pt L1 f1 a2 (.inl (G.2 0, 300, .inl (fun _ => 0))) ∧ pt L1 f1 a3 (.inl (G.2 0, 3, .inl (fun _ => 0))) ∧ pt L1 f1 a4 (.inl (G.2 0, 3, .inl (fun _ => 0))) ∧ pt L1 f1 a5 (.inl (G.2 0, 120, .inl (fun _ => 0))) ∧ a1 ≠ a2 ∧ a3 ≠ a4 ∧ a1 ∉ L ∧ a2 ∉ L ∧ a3 ∉ L ∧ a4 ∉ L ∧ a5 ∉ L) S Y (by decide) (by decide) hA1 ⟨q_79001, q_79004, q_79007, q_79010, q_79013, hk, p_h, p_q_79001, p_q_79004, p_q_79007, p_q_79010, p_q_79013, (dq_79001_q_79004), (dq_79007_q_79010), whkq_79001, whkq_79004, whkq_79007, whkq_79010, whkq_79013⟩ dX7_init_44
set_option maxHeartbeats 4000000 in
set_option maxRecDepth 100000 in
theorem c_X5_init {l : Launch} {G : GG} {L : List Nat} {f : HF} {h : Nat}  (p_h : pt L f h (.inr (5, [.null, .null, .null, .null, .int 0, .int 0, .int 0, .int 0, .int 0, .int 0, .int 0, .null, .int 0, .int 0])))  : PMv l yX5_init cX5_init 1 1 4 1203 G [.ref h] L f (fun L1 f1 => ∃ a1 : Nat, ∃ a2 : Nat, ∃ a3 : Nat, ∃ a4 : Nat, kp L f L1 f1 [h] ∧ pt L1 f1 h (.inr (5, [.ref a1, .ref a2, .ref a3, .ref a4, .int 0, .int 0, .int 0, .int 0, .int 0, .int 0, .int 0, .null, .int (-1), .int (-1)])) ∧ pt L1 f1 a1 (.inl (G.2 0, 300, .inl (fun _ => 0))) ∧ pt L1 f1 a2 (.inl (G.2 0, 301, .inl (fun _ => 0))) ∧ pt L1 f1 a3 (.inl (G.2 0, 301, .inl (fun _ => 0))) ∧ pt L1 f1 a4 (.inl (G.2 0, 301, .inl (fun _ => 0))) ∧ a2 ≠ a3 ∧ a2 ≠ a4 ∧ a3 ≠ a4 ∧ a1 ∉ L ∧ a2 ∉ L ∧ a3 ∉ L ∧ a4 ∉ L) := by
  refine PMv.of (post := fun L1 f1 => ∃ a1 : Nat, ∃ a2 : Nat, ∃ a3 : Nat, ∃ a4 : Nat, kp L f L1 f1 [h] ∧ pt L1 f1 h (.inr (5, [.ref a1, .ref a2, .ref a3, .ref a4, .int 0, .int 0, .int 0, .int 0, .int 0, .int 0, .int 0, .null, .int (-1), .int (-1)])) ∧ pt L1 f1 a1 (.inl (G.2 0, 300, .inl (fun _ => 0))) ∧ pt L1 f1 a2 (.inl (G.2 0, 301, .inl (fun _ => 0))) ∧ pt L1 f1 a3 (.inl (G.2 0, 301, .inl (fun _ => 0))) ∧ pt L1 f1 a4 (.inl (G.2 0, 301, .inl (fun _ => 0))) ∧ a2 ≠ a3 ∧ a2 ≠ a4 ∧ a3 ≠ a4 ∧ a1 ∉ L ∧ a2 ∉ L ∧ a3 ∉ L ∧ a4 ∉ L) (own := RX5) (by decide) rfl (Nat.le_of_ble_eq_true rfl) (fun sz p e s m args below meth c A ls hA1 hname S Y hl => ?_)
  have hx := S.hx
  have hb := S.hb
  have hl : lv_has ls 1 [(0, .ref h)] := hl
  have hk : kp L f L f [h] := kp.rf
  refine lv_aload_n hx hb dX5_init_0 rfl (lv_at hl 0 rfl) ?_
  refine pObj S km5_3 kObj1 kObj2 hl.1 (Nat.le_of_ble_eq_true rfl) (Nat.le_of_ble_eq_true rfl) dX5_init_1 ?_
  refine lv_aload_n hx hb dX5_init_4 rfl (lv_at hl 0 rfl) ?_
  refine lv_sipush (v := 300) hx hb dX5_init_5 (by decide) ?_
  refine pg_newa S Y (ty := .int) rfl 0 rfl ka_int (N' := 300) (300, .inl (fun _ => 0)) (fun _ => rfl) (by decide) (by decide) (by decide) (by decide) (by decide) dX5_init_8 (fun q_79016 f_79017 H nq_79016 ef_79017 Y => ?_)
  have whkq_79016 := hk.notin nq_79016
  have hk := hk.push ef_79017 nq_79016
  have p_h := p_h.push ef_79017 nq_79016
  have p_q_79016 := pt.new (L := L) ef_79017
  refine pg_putF S Y hname ok_X5 0 (by decide) kf5_9 rfl rfl (fs' := [.ref q_79016, .null, .null, .null, .int 0, .int 0, .int 0, .int 0, .int 0, .int 0, .int 0, .null, .int 0, .int 0]) (v := .ref q_79016) p_h rfl rfl rfl (Nat.le_of_ble_eq_true rfl) dX5_init_10 (fun f_79018 H locs ef_79018 Y => ?_)
  have p_q_79016 := p_q_79016.up ef_79018 ((p_q_79016.neB p_h))
  have p_h := p_h.me ef_79018
  have hk := hk.up ef_79018 (by simp)
  refine lv_aload_n hx hb dX5_init_13 rfl (lv_at hl 0 rfl) ?_
  refine lv_sipush (v := 301) hx hb dX5_init_14 (by decide) ?_
  refine pg_newa S Y (ty := .int) rfl 0 rfl ka_int (N' := 301) (301, .inl (fun _ => 0)) (fun _ => rfl) (by decide) (by decide) (by decide) (by decide) (by decide) dX5_init_17 (fun q_79019 f_79020 H nq_79019 ef_79020 Y => ?_)
  have whkq_79019 := hk.notin nq_79019
  have hk := hk.push ef_79020 nq_79019
  have p_h := p_h.push ef_79020 nq_79019
  have p_q_79016 := p_q_79016.push ef_79020 nq_79019
  have p_q_79019 := pt.new (L := (L ++ [q_79016])) ef_79020
  refine pg_putF S Y hname ok_X5 1 (by decide) kf5_15 rfl rfl (fs' := [.ref q_79016, .ref q_79019, .null, .null, .int 0, .int 0, .int 0, .int 0, .int 0, .int 0, .int 0, .null, .int 0, .int 0]) (v := .ref q_79019) p_h rfl rfl rfl (Nat.le_of_ble_eq_true rfl) dX5_init_19 (fun f_79021 H locs ef_79021 Y => ?_)
  have p_q_79016 := p_q_79016.up ef_79021 ((p_q_79016.neB p_h))
  have p_q_79019 := p_q_79019.up ef_79021 ((p_q_79019.neB p_h))
  have p_h := p_h.me ef_79021
  have hk := hk.up ef_79021 (by simp)
  refine lv_aload_n hx hb dX5_init_22 rfl (lv_at hl 0 rfl) ?_
  refine lv_sipush (v := 301) hx hb dX5_init_23 (by decide) ?_
  refine pg_newa S Y (ty := .int) rfl 0 rfl ka_int (N' := 301) (301, .inl (fun _ => 0)) (fun _ => rfl) (by decide) (by decide) (by decide) (by decide) (by decide) dX5_init_26 (fun q_79022 f_79023 H nq_79022 ef_79023 Y => ?_)
  have whkq_79022 := hk.notin nq_79022
  have hk := hk.push ef_79023 nq_79022
  have p_h := p_h.push ef_79023 nq_79022
  have p_q_79016 := p_q_79016.push ef_79023 nq_79022
  have dq_79019_q_79022 := p_q_79019.neQ nq_79022
  have p_q_79019 := p_q_79019.push ef_79023 nq_79022
  have p_q_79022 := pt.new (L := ((L ++ [q_79016]) ++ [q_79019])) ef_79023
  refine pg_putF S Y hname ok_X5 2 (by decide) kf5_18 rfl rfl (fs' := [.ref q_79016, .ref q_79019, .ref q_79022, .null, .int 0, .int 0, .int 0, .int 0, .int 0, .int 0, .int 0, .null, .int 0, .int 0]) (v := .ref q_79022) p_h rfl rfl rfl (Nat.le_of_ble_eq_true rfl) dX5_init_28 (fun f_79024 H locs ef_79024 Y => ?_)
  have p_q_79016 := p_q_79016.up ef_79024 ((p_q_79016.neB p_h))
  have p_q_79019 := p_q_79019.up ef_79024 ((p_q_79019.neB p_h))
  have p_q_79022 := p_q_79022.up ef_79024 ((p_q_79022.neB p_h))
  have p_h := p_h.me ef_79024
  have hk := hk.up ef_79024 (by simp)
  refine lv_aload_n hx hb dX5_init_31 rfl (lv_at hl 0 rfl) ?_
  refine lv_sipush (v := 301) hx hb dX5_init_32 (by decide) ?_
  refine pg_newa S Y (ty := .int) rfl 0 rfl ka_int (N' := 301) (301, .inl (fun _ => 0)) (fun _ => rfl) (by decide) (by decide) (by decide) (by decide) (by decide) dX5_init_35 (fun q_79025 f_79026 H nq_79025 ef_79026 Y => ?_)
  have whkq_79025 := hk.notin nq_79025
  have hk := hk.push ef_79026 nq_79025
  have p_h := p_h.push ef_79026 nq_79025
  have p_q_79016 := p_q_79016.push ef_79026 nq_79025
  have dq_79019_q_79025 := p_q_79019.neQ nq_79025
  have p_q_79019 := p_q_79019.push ef_79026 nq_79025
  have dq_79022_q_79025 := p_q_79022.neQ nq_79025
  have p_q_79022 := p_q_79022.push ef_79026 nq_79025
  have p_q_79025 := pt.new (L := (((L ++ [q_79016]) ++ [q_79019]) ++ [q_79022])) ef_79026
  refine pg_putF S Y hname ok_X5 3 (by decide) kf5_21 rfl rfl (fs' := [.ref q_79016, .ref q_79019, .ref q_79022, .ref q_79025, .int 0, .int 0, .int 0, .int 0, .int 0, .int 0, .int 0, .null, .int 0, .int 0]) (v := .ref q_79025) p_h rfl rfl rfl (Nat.le_of_ble_eq_true rfl) dX5_init_37 (fun f_79027 H locs ef_79027 Y => ?_)
  have p_q_79016 := p_q_79016.up ef_79027 ((p_q_79016.neB p_h))
  have p_q_79019 := p_q_79019.up ef_79027 ((p_q_79019.neB p_h))
  have p_q_79022 := p_q_79022.up ef_79027 ((p_q_79022.neB p_h))
  have p_q_79025 := p_q_79025.up ef_79027 ((p_q_79025.neB p_h))
  have p_h := p_h.me ef_79027
  have hk := hk.up ef_79027 (by simp)
  refine lv_aload_n hx hb dX5_init_40 rfl (lv_at hl 0 rfl) ?_
  refine lv_iconst (v := (-1)) hx hb dX5_init_41 (by decide) ?_
  refine pg_put S Y ok_X5 12 (by decide) kf5_24 rfl (fs' := [.ref q_79016, .ref q_79019, .ref q_79022, .ref q_79025, .int 0, .int 0, .int 0, .int 0, .int 0, .int 0, .int 0, .null, .int (-1), .int 0]) (v := .int (-1)) p_h rfl rfl rfl (Nat.le_of_ble_eq_true rfl) dX5_init_42 (fun f_79028 H locs ef_79028 Y => ?_)
  have p_q_79016 := p_q_79016.up ef_79028 ((p_q_79016.neB p_h))
  have p_q_79019 := p_q_79019.up ef_79028 ((p_q_79019.neB p_h))
  have p_q_79022 := p_q_79022.up ef_79028 ((p_q_79022.neB p_h))
  have p_q_79025 := p_q_79025.up ef_79028 ((p_q_79025.neB p_h))
  have p_h := p_h.me ef_79028
  have hk := hk.up ef_79028 (by simp)
  refine lv_aload_n hx hb dX5_init_45 rfl (lv_at hl 0 rfl) ?_
  refine lv_iconst (v := (-1)) hx hb dX5_init_46 (by decide) ?_
  refine pg_put S Y ok_X5 13 (by decide) kf5_28 rfl (fs' := [.ref q_79016, .ref q_79019, .ref q_79022, .ref q_79025, .int 0, .int 0, .int 0, .int 0, .int 0, .int 0, .int 0, .null, .int (-1), .int (-1)]) (v := .int (-1)) p_h rfl rfl rfl (Nat.le_of_ble_eq_true rfl) dX5_init_47 (fun f_79029 H locs ef_79029 Y => ?_)
  have p_q_79016 := p_q_79016.up ef_79029 ((p_q_79016.neB p_h))
  have p_q_79019 := p_q_79019.up ef_79029 ((p_q_79019.neB p_h))
  have p_q_79022 := p_q_79022.up ef_79029 ((p_q_79022.neB p_h))
  have p_q_79025 := p_q_79025.up ef_79029 ((p_q_79025.neB p_h))
  have p_h := p_h.me ef_79029
  have hk := hk.up ef_79029 (by simp)
  exact prV (post := fun L1 f1 => ∃ a1 : Nat, ∃ a2 : Nat, ∃ a3 : Nat, ∃ a4 : Nat, kp L f L1 f1 [h] ∧ pt L1 f1 h (.inr (5, [.ref a1, .ref a2, .ref a3, .ref a4, .int 0, .int 0, .int 0, .int 0, .int 0, .int 0, .int 0, .null, .int (-1), .int (-1)])) ∧ pt L1 f1 a1 (.inl (G.2 0, 300, .inl (fun _ => 0))) ∧ pt L1 f1 a2 (.inl (G.2 0, 301, .inl (fun _ => 0))) ∧ pt L1 f1 a3 (.inl (G.2 0, 301, .inl (fun _ => 0))) ∧ pt L1 f1 a4 (.inl (G.2 0, 301, .inl (fun _ => 0))) ∧ a2 ≠ a3 ∧ a2 ≠ a4 ∧ a3 ≠ a4 ∧ a1 ∉ L ∧ a2 ∉ L ∧ a3 ∉ L ∧ a4 ∉ L) S Y (by decide) (by decide) hA1 ⟨q_79016, q_79019, q_79022, q_79025, hk, p_h, p_q_79016, p_q_79019, p_q_79022, p_q_79025, (dq_79019_q_79022), (dq_79019_q_79025), (dq_79022_q_79025), whkq_79016, whkq_79019, whkq_79022, whkq_79025⟩ dX5_init_50
set_option maxHeartbeats 4000000 in
set_option maxRecDepth 100000 in
theorem c_X3_init {l : Launch} {G : GG} {L : List Nat} {f : HF} {h w : Nat}  (p_h : pt L f h (.inr (3, [.null, .null, .int 0])))  : PMv l yX3_init cX3_init 2 1 1 300 G [.ref h, .ref w] L f (fun L1 f1 => ∃ a1 : Nat, kp L f L1 f1 [h] ∧ pt L1 f1 h (.inr (3, [.ref w, .ref a1, .int 0])) ∧ pt L1 f1 a1 (.inl (G.2 0, 300, .inl (fun _ => 0))) ∧ a1 ∉ L) := by
  refine PMv.of (post := fun L1 f1 => ∃ a1 : Nat, kp L f L1 f1 [h] ∧ pt L1 f1 h (.inr (3, [.ref w, .ref a1, .int 0])) ∧ pt L1 f1 a1 (.inl (G.2 0, 300, .inl (fun _ => 0))) ∧ a1 ∉ L) (own := RX3) (by decide) rfl (Nat.le_of_ble_eq_true rfl) (fun sz p e s m args below meth c A ls hA1 hname S Y hl => ?_)
  have hx := S.hx
  have hb := S.hb
  have hl : lv_has ls 2 [(0, .ref h), (1, .ref w)] := hl
  have hk : kp L f L f [h] := kp.rf
  refine lv_aload_n hx hb dX3_init_0 rfl (lv_at hl 0 rfl) ?_
  refine pObj S km3_3 kObj1 kObj2 hl.1 (Nat.le_of_ble_eq_true rfl) (Nat.le_of_ble_eq_true rfl) dX3_init_1 ?_
  refine lv_aload_n hx hb dX3_init_4 rfl (lv_at hl 0 rfl) ?_
  refine lv_sipush (v := 300) hx hb dX3_init_5 (by decide) ?_
  refine pg_newa S Y (ty := .int) rfl 0 rfl ka_int (N' := 300) (300, .inl (fun _ => 0)) (fun _ => rfl) (by decide) (by decide) (by decide) (by decide) (by decide) dX3_init_8 (fun q_79030 f_79031 H nq_79030 ef_79031 Y => ?_)
  have whkq_79030 := hk.notin nq_79030
  have hk := hk.push ef_79031 nq_79030
  have p_h := p_h.push ef_79031 nq_79030
  have p_q_79030 := pt.new (L := L) ef_79031
  refine pg_putF S Y hname ok_X3 1 (by decide) kf3_9 rfl rfl (fs' := [.null, .ref q_79030, .int 0]) (v := .ref q_79030) p_h rfl rfl rfl (Nat.le_of_ble_eq_true rfl) dX3_init_10 (fun f_79032 H locs ef_79032 Y => ?_)
  have p_q_79030 := p_q_79030.up ef_79032 ((p_q_79030.neB p_h))
  have p_h := p_h.me ef_79032
  have hk := hk.up ef_79032 (by simp)
  refine lv_aload_n hx hb dX3_init_13 rfl (lv_at hl 0 rfl) ?_
  refine lv_aload_n hx hb dX3_init_14 rfl (lv_at hl 1 rfl) ?_
  refine pg_putF S Y hname ok_X3 0 (by decide) kf3_15 rfl rfl (fs' := [.ref w, .ref q_79030, .int 0]) (v := .ref w) p_h rfl rfl rfl (Nat.le_of_ble_eq_true rfl) dX3_init_15 (fun f_79033 H locs ef_79033 Y => ?_)
  have p_q_79030 := p_q_79030.up ef_79033 ((p_q_79030.neB p_h))
  have p_h := p_h.me ef_79033
  have hk := hk.up ef_79033 (by simp)
  exact prV (post := fun L1 f1 => ∃ a1 : Nat, kp L f L1 f1 [h] ∧ pt L1 f1 h (.inr (3, [.ref w, .ref a1, .int 0])) ∧ pt L1 f1 a1 (.inl (G.2 0, 300, .inl (fun _ => 0))) ∧ a1 ∉ L) S Y (by decide) (by decide) hA1 ⟨q_79030, hk, p_h, p_q_79030, whkq_79030⟩ dX3_init_18
set_option maxHeartbeats 4000000 in
set_option maxRecDepth 100000 in
theorem c_X6_init {l : Launch} {G : GG} {L : List Nat} {f : HF} {h w : Nat}  (p_h : pt L f h (.inr (6, [.null, .int 0])))  : PMv l yX6_init cX6_init 2 1 0 0 G [.ref h, .ref w] L f (fun L1 f1 => kp L f L1 f1 [h] ∧ pt L1 f1 h (.inr (6, [.ref w, .int 0]))) := by
  refine PMv.of (post := fun L1 f1 => kp L f L1 f1 [h] ∧ pt L1 f1 h (.inr (6, [.ref w, .int 0]))) (own := RX6) (by decide) rfl (Nat.le_of_ble_eq_true rfl) (fun sz p e s m args below meth c A ls hA1 hname S Y hl => ?_)
  have hx := S.hx
  have hb := S.hb
  have hl : lv_has ls 2 [(0, .ref h), (1, .ref w)] := hl
  have hk : kp L f L f [h] := kp.rf
  refine lv_aload_n hx hb dX6_init_0 rfl (lv_at hl 0 rfl) ?_
  refine pObj S km6_3 kObj1 kObj2 hl.1 (Nat.le_of_ble_eq_true rfl) (Nat.le_of_ble_eq_true rfl) dX6_init_1 ?_
  refine lv_aload_n hx hb dX6_init_4 rfl (lv_at hl 0 rfl) ?_
  refine lv_aload_n hx hb dX6_init_5 rfl (lv_at hl 1 rfl) ?_
  refine pg_putF S Y hname ok_X6 0 (by decide) kf6_9 rfl rfl (fs' := [.ref w, .int 0]) (v := .ref w) p_h rfl rfl rfl (Nat.le_of_ble_eq_true rfl) dX6_init_6 (fun f_79034 H locs ef_79034 Y => ?_)
  have p_h := p_h.me ef_79034
  have hk := hk.up ef_79034 (by simp)
  exact prV (post := fun L1 f1 => kp L f L1 f1 [h] ∧ pt L1 f1 h (.inr (6, [.ref w, .int 0]))) S Y (by decide) (by decide) hA1 ⟨hk, p_h⟩ dX6_init_9
set_option maxHeartbeats 4000000 in
set_option maxRecDepth 100000 in
theorem c_X1_init {l : Launch} {G : GG} {L : List Nat} {f : HF} {h w jd rg : Nat}  (p_h : pt L f h (.inr (1, [.null, .null, .null, .null, .int 0])))  : PMv l yX1_init cX1_init 4 1 1 14 G [.ref h, .ref w, .ref jd, .ref rg] L f (fun L1 f1 => ∃ a1 : Nat, kp L f L1 f1 [h] ∧ pt L1 f1 h (.inr (1, [.ref w, .ref jd, .ref rg, .ref a1, .int 0])) ∧ pt L1 f1 a1 (.inl (G.2 0, 14, .inl (fun _ => 0))) ∧ a1 ∉ L) := by
  refine PMv.of (post := fun L1 f1 => ∃ a1 : Nat, kp L f L1 f1 [h] ∧ pt L1 f1 h (.inr (1, [.ref w, .ref jd, .ref rg, .ref a1, .int 0])) ∧ pt L1 f1 a1 (.inl (G.2 0, 14, .inl (fun _ => 0))) ∧ a1 ∉ L) (own := RX1) (by decide) rfl (Nat.le_of_ble_eq_true rfl) (fun sz p e s m args below meth c A ls hA1 hname S Y hl => ?_)
  have hx := S.hx
  have hb := S.hb
  have hl : lv_has ls 4 [(0, .ref h), (1, .ref w), (2, .ref jd), (3, .ref rg)] := hl
  have hk : kp L f L f [h] := kp.rf
  refine lv_aload_n hx hb dX1_init_0 rfl (lv_at hl 0 rfl) ?_
  refine pObj S km1_3 kObj1 kObj2 hl.1 (Nat.le_of_ble_eq_true rfl) (Nat.le_of_ble_eq_true rfl) dX1_init_1 ?_
  refine lv_aload_n hx hb dX1_init_4 rfl (lv_at hl 0 rfl) ?_
  refine lv_bipush (v := 14) hx hb dX1_init_5 (by decide) ?_
  refine pg_newa S Y (ty := .int) rfl 0 rfl ka_int (N' := 14) (14, .inl (fun _ => 0)) (fun _ => rfl) (by decide) (by decide) (by decide) (by decide) (by decide) dX1_init_7 (fun q_79035 f_79036 H nq_79035 ef_79036 Y => ?_)
  have whkq_79035 := hk.notin nq_79035
  have hk := hk.push ef_79036 nq_79035
  have p_h := p_h.push ef_79036 nq_79035
  have p_q_79035 := pt.new (L := L) ef_79036
  refine pg_putF S Y hname ok_X1 3 (by decide) kf1_9 rfl rfl (fs' := [.null, .null, .null, .ref q_79035, .int 0]) (v := .ref q_79035) p_h rfl rfl rfl (Nat.le_of_ble_eq_true rfl) dX1_init_9 (fun f_79037 H locs ef_79037 Y => ?_)
  have p_q_79035 := p_q_79035.up ef_79037 ((p_q_79035.neB p_h))
  have p_h := p_h.me ef_79037
  have hk := hk.up ef_79037 (by simp)
  refine lv_aload_n hx hb dX1_init_12 rfl (lv_at hl 0 rfl) ?_
  refine lv_aload_n hx hb dX1_init_13 rfl (lv_at hl 1 rfl) ?_
  refine pg_putF S Y hname ok_X1 0 (by decide) kf1_15 rfl rfl (fs' := [.ref w, .null, .null, .ref q_79035, .int 0]) (v := .ref w) p_h rfl rfl rfl (Nat.le_of_ble_eq_true rfl) dX1_init_14 (fun f_79038 H locs ef_79038 Y => ?_)
  have p_q_79035 := p_q_79035.up ef_79038 ((p_q_79035.neB p_h))
  have p_h := p_h.me ef_79038
  have hk := hk.up ef_79038 (by simp)
  refine lv_aload_n hx hb dX1_init_17 rfl (lv_at hl 0 rfl) ?_
  refine lv_aload_n hx hb dX1_init_18 rfl (lv_at hl 2 rfl) ?_
  refine pg_putF S Y hname ok_X1 1 (by decide) kf1_19 rfl rfl (fs' := [.ref w, .ref jd, .null, .ref q_79035, .int 0]) (v := .ref jd) p_h rfl rfl rfl (Nat.le_of_ble_eq_true rfl) dX1_init_19 (fun f_79039 H locs ef_79039 Y => ?_)
  have p_q_79035 := p_q_79035.up ef_79039 ((p_q_79035.neB p_h))
  have p_h := p_h.me ef_79039
  have hk := hk.up ef_79039 (by simp)
  refine lv_aload_n hx hb dX1_init_22 rfl (lv_at hl 0 rfl) ?_
  refine lv_aload_n hx hb dX1_init_23 rfl (lv_at hl 3 rfl) ?_
  refine pg_putF S Y hname ok_X1 2 (by decide) kf1_23 rfl rfl (fs' := [.ref w, .ref jd, .ref rg, .ref q_79035, .int 0]) (v := .ref rg) p_h rfl rfl rfl (Nat.le_of_ble_eq_true rfl) dX1_init_24 (fun f_79040 H locs ef_79040 Y => ?_)
  have p_q_79035 := p_q_79035.up ef_79040 ((p_q_79035.neB p_h))
  have p_h := p_h.me ef_79040
  have hk := hk.up ef_79040 (by simp)
  exact prV (post := fun L1 f1 => ∃ a1 : Nat, kp L f L1 f1 [h] ∧ pt L1 f1 h (.inr (1, [.ref w, .ref jd, .ref rg, .ref a1, .int 0])) ∧ pt L1 f1 a1 (.inl (G.2 0, 14, .inl (fun _ => 0))) ∧ a1 ∉ L) S Y (by decide) (by decide) hA1 ⟨q_79035, hk, p_h, p_q_79035, whkq_79035⟩ dX1_init_27
set_option maxHeartbeats 4000000 in
set_option maxRecDepth 100000 in
theorem c_X2_init {l : Launch} {G : GG} {L : List Nat} {f : HF} {h w jd dd sl : Nat}  (p_h : pt L f h (.inr (2, [.null, .null, .null, .null])))  : PMv l yX2_init cX2_init 5 1 0 0 G [.ref h, .ref w, .ref jd, .ref dd, .ref sl] L f (fun L1 f1 => kp L f L1 f1 [h] ∧ pt L1 f1 h (.inr (2, [.ref w, .ref jd, .ref dd, .ref sl]))) := by
  refine PMv.of (post := fun L1 f1 => kp L f L1 f1 [h] ∧ pt L1 f1 h (.inr (2, [.ref w, .ref jd, .ref dd, .ref sl]))) (own := RX2) (by decide) rfl (Nat.le_of_ble_eq_true rfl) (fun sz p e s m args below meth c A ls hA1 hname S Y hl => ?_)
  have hx := S.hx
  have hb := S.hb
  have hl : lv_has ls 5 [(0, .ref h), (1, .ref w), (2, .ref jd), (3, .ref dd), (4, .ref sl)] := hl
  have hk : kp L f L f [h] := kp.rf
  refine lv_aload_n hx hb dX2_init_0 rfl (lv_at hl 0 rfl) ?_
  refine pObj S km2_3 kObj1 kObj2 hl.1 (Nat.le_of_ble_eq_true rfl) (Nat.le_of_ble_eq_true rfl) dX2_init_1 ?_
  refine lv_aload_n hx hb dX2_init_4 rfl (lv_at hl 0 rfl) ?_
  refine lv_aload_n hx hb dX2_init_5 rfl (lv_at hl 1 rfl) ?_
  refine pg_putF S Y hname ok_X2 0 (by decide) kf2_9 rfl rfl (fs' := [.ref w, .null, .null, .null]) (v := .ref w) p_h rfl rfl rfl (Nat.le_of_ble_eq_true rfl) dX2_init_6 (fun f_79041 H locs ef_79041 Y => ?_)
  have p_h := p_h.me ef_79041
  have hk := hk.up ef_79041 (by simp)
  refine lv_aload_n hx hb dX2_init_9 rfl (lv_at hl 0 rfl) ?_
  refine lv_aload_n hx hb dX2_init_10 rfl (lv_at hl 2 rfl) ?_
  refine pg_putF S Y hname ok_X2 1 (by decide) kf2_15 rfl rfl (fs' := [.ref w, .ref jd, .null, .null]) (v := .ref jd) p_h rfl rfl rfl (Nat.le_of_ble_eq_true rfl) dX2_init_11 (fun f_79042 H locs ef_79042 Y => ?_)
  have p_h := p_h.me ef_79042
  have hk := hk.up ef_79042 (by simp)
  refine lv_aload_n hx hb dX2_init_14 rfl (lv_at hl 0 rfl) ?_
  refine lv_aload_n hx hb dX2_init_15 rfl (lv_at hl 3 rfl) ?_
  refine pg_putF S Y hname ok_X2 2 (by decide) kf2_19 rfl rfl (fs' := [.ref w, .ref jd, .ref dd, .null]) (v := .ref dd) p_h rfl rfl rfl (Nat.le_of_ble_eq_true rfl) dX2_init_16 (fun f_79043 H locs ef_79043 Y => ?_)
  have p_h := p_h.me ef_79043
  have hk := hk.up ef_79043 (by simp)
  refine lv_aload_n hx hb dX2_init_19 rfl (lv_at hl 0 rfl) ?_
  refine lv_aload hx hb dX2_init_20 (lv_at hl 4 rfl) ?_
  refine pg_putF S Y hname ok_X2 3 (by decide) kf2_23 rfl rfl (fs' := [.ref w, .ref jd, .ref dd, .ref sl]) (v := .ref sl) p_h rfl rfl rfl (Nat.le_of_ble_eq_true rfl) dX2_init_22 (fun f_79044 H locs ef_79044 Y => ?_)
  have p_h := p_h.me ef_79044
  have hk := hk.up ef_79044 (by simp)
  exact prV (post := fun L1 f1 => kp L f L1 f1 [h] ∧ pt L1 f1 h (.inr (2, [.ref w, .ref jd, .ref dd, .ref sl]))) S Y (by decide) (by decide) hA1 ⟨hk, p_h⟩ dX2_init_25
set_option maxHeartbeats 4000000 in
set_option maxRecDepth 100000 in
theorem c_X8_init {l : Launch} {G : GG} {L : List Nat} {f : HF} {h w jd sl : Nat}  (p_h : pt L f h (.inr (8, [.null, .null, .null, .null, .null, .null, .null, .int 0, .int 0, .int 0])))  : PMv l yX8_init cX8_init 4 1 4 118 G [.ref h, .ref w, .ref jd, .ref sl] L f (fun L1 f1 => ∃ a1 : Nat, ∃ a2 : Nat, ∃ a3 : Nat, ∃ a4 : Nat, kp L f L1 f1 [h] ∧ pt L1 f1 h (.inr (8, [.ref w, .ref jd, .ref sl, .ref a1, .ref a2, .ref a3, .ref a4, .int 0, .int 0, .int 0])) ∧ pt L1 f1 a1 (.inl (G.2 0, 14, .inl (fun _ => 0))) ∧ pt L1 f1 a2 (.inl (G.2 0, 14, .inl (fun _ => 0))) ∧ pt L1 f1 a3 (.inl (G.2 0, 84, .inl (fun _ => 0))) ∧ pt L1 f1 a4 (.inl (G.2 0, 6, .inl (fun _ => 0))) ∧ a1 ≠ a2 ∧ a1 ∉ L ∧ a2 ∉ L ∧ a3 ∉ L ∧ a4 ∉ L) := by
  refine PMv.of (post := fun L1 f1 => ∃ a1 : Nat, ∃ a2 : Nat, ∃ a3 : Nat, ∃ a4 : Nat, kp L f L1 f1 [h] ∧ pt L1 f1 h (.inr (8, [.ref w, .ref jd, .ref sl, .ref a1, .ref a2, .ref a3, .ref a4, .int 0, .int 0, .int 0])) ∧ pt L1 f1 a1 (.inl (G.2 0, 14, .inl (fun _ => 0))) ∧ pt L1 f1 a2 (.inl (G.2 0, 14, .inl (fun _ => 0))) ∧ pt L1 f1 a3 (.inl (G.2 0, 84, .inl (fun _ => 0))) ∧ pt L1 f1 a4 (.inl (G.2 0, 6, .inl (fun _ => 0))) ∧ a1 ≠ a2 ∧ a1 ∉ L ∧ a2 ∉ L ∧ a3 ∉ L ∧ a4 ∉ L) (own := RX8) (by decide) rfl (Nat.le_of_ble_eq_true rfl) (fun sz p e s m args below meth c A ls hA1 hname S Y hl => ?_)
  have hx := S.hx
  have hb := S.hb
  have hl : lv_has ls 4 [(0, .ref h), (1, .ref w), (2, .ref jd), (3, .ref sl)] := hl
  have hk : kp L f L f [h] := kp.rf
  refine lv_aload_n hx hb dX8_init_0 rfl (lv_at hl 0 rfl) ?_
  refine pObj S km8_3 kObj1 kObj2 hl.1 (Nat.le_of_ble_eq_true rfl) (Nat.le_of_ble_eq_true rfl) dX8_init_1 ?_
  refine lv_aload_n hx hb dX8_init_4 rfl (lv_at hl 0 rfl) ?_
  refine lv_bipush (v := 14) hx hb dX8_init_5 (by decide) ?_
  refine pg_newa S Y (ty := .int) rfl 0 rfl ka_int (N' := 14) (14, .inl (fun _ => 0)) (fun _ => rfl) (by decide) (by decide) (by decide) (by decide) (by decide) dX8_init_7 (fun q_79045 f_79046 H nq_79045 ef_79046 Y => ?_)
  have whkq_79045 := hk.notin nq_79045
  have hk := hk.push ef_79046 nq_79045
  have p_h := p_h.push ef_79046 nq_79045
  have p_q_79045 := pt.new (L := L) ef_79046
  refine pg_putF S Y hname ok_X8 3 (by decide) kf8_9 rfl rfl (fs' := [.null, .null, .null, .ref q_79045, .null, .null, .null, .int 0, .int 0, .int 0]) (v := .ref q_79045) p_h rfl rfl rfl (Nat.le_of_ble_eq_true rfl) dX8_init_9 (fun f_79047 H locs ef_79047 Y => ?_)
  have p_q_79045 := p_q_79045.up ef_79047 ((p_q_79045.neB p_h))
  have p_h := p_h.me ef_79047
  have hk := hk.up ef_79047 (by simp)
  refine lv_aload_n hx hb dX8_init_12 rfl (lv_at hl 0 rfl) ?_
  refine lv_bipush (v := 14) hx hb dX8_init_13 (by decide) ?_
  refine pg_newa S Y (ty := .int) rfl 0 rfl ka_int (N' := 14) (14, .inl (fun _ => 0)) (fun _ => rfl) (by decide) (by decide) (by decide) (by decide) (by decide) dX8_init_15 (fun q_79048 f_79049 H nq_79048 ef_79049 Y => ?_)
  have whkq_79048 := hk.notin nq_79048
  have hk := hk.push ef_79049 nq_79048
  have p_h := p_h.push ef_79049 nq_79048
  have dq_79045_q_79048 := p_q_79045.neQ nq_79048
  have p_q_79045 := p_q_79045.push ef_79049 nq_79048
  have p_q_79048 := pt.new (L := (L ++ [q_79045])) ef_79049
  refine pg_putF S Y hname ok_X8 4 (by decide) kf8_15 rfl rfl (fs' := [.null, .null, .null, .ref q_79045, .ref q_79048, .null, .null, .int 0, .int 0, .int 0]) (v := .ref q_79048) p_h rfl rfl rfl (Nat.le_of_ble_eq_true rfl) dX8_init_17 (fun f_79050 H locs ef_79050 Y => ?_)
  have p_q_79045 := p_q_79045.up ef_79050 ((p_q_79045.neB p_h))
  have p_q_79048 := p_q_79048.up ef_79050 ((p_q_79048.neB p_h))
  have p_h := p_h.me ef_79050
  have hk := hk.up ef_79050 (by simp)
  refine lv_aload_n hx hb dX8_init_20 rfl (lv_at hl 0 rfl) ?_
  refine lv_bipush (v := 84) hx hb dX8_init_21 (by decide) ?_
  refine pg_newa S Y (ty := .int) rfl 0 rfl ka_int (N' := 84) (84, .inl (fun _ => 0)) (fun _ => rfl) (by decide) (by decide) (by decide) (by decide) (by decide) dX8_init_23 (fun q_79051 f_79052 H nq_79051 ef_79052 Y => ?_)
  have whkq_79051 := hk.notin nq_79051
  have hk := hk.push ef_79052 nq_79051
  have p_h := p_h.push ef_79052 nq_79051
  have p_q_79045 := p_q_79045.push ef_79052 nq_79051
  have p_q_79048 := p_q_79048.push ef_79052 nq_79051
  have p_q_79051 := pt.new (L := ((L ++ [q_79045]) ++ [q_79048])) ef_79052
  refine pg_putF S Y hname ok_X8 5 (by decide) kf8_18 rfl rfl (fs' := [.null, .null, .null, .ref q_79045, .ref q_79048, .ref q_79051, .null, .int 0, .int 0, .int 0]) (v := .ref q_79051) p_h rfl rfl rfl (Nat.le_of_ble_eq_true rfl) dX8_init_25 (fun f_79053 H locs ef_79053 Y => ?_)
  have p_q_79045 := p_q_79045.up ef_79053 ((p_q_79045.neB p_h))
  have p_q_79048 := p_q_79048.up ef_79053 ((p_q_79048.neB p_h))
  have p_q_79051 := p_q_79051.up ef_79053 ((p_q_79051.neB p_h))
  have p_h := p_h.me ef_79053
  have hk := hk.up ef_79053 (by simp)
  refine lv_aload_n hx hb dX8_init_28 rfl (lv_at hl 0 rfl) ?_
  refine lv_bipush (v := 6) hx hb dX8_init_29 (by decide) ?_
  refine pg_newa S Y (ty := .int) rfl 0 rfl ka_int (N' := 6) (6, .inl (fun _ => 0)) (fun _ => rfl) (by decide) (by decide) (by decide) (by decide) (by decide) dX8_init_31 (fun q_79054 f_79055 H nq_79054 ef_79055 Y => ?_)
  have whkq_79054 := hk.notin nq_79054
  have hk := hk.push ef_79055 nq_79054
  have p_h := p_h.push ef_79055 nq_79054
  have p_q_79045 := p_q_79045.push ef_79055 nq_79054
  have p_q_79048 := p_q_79048.push ef_79055 nq_79054
  have p_q_79051 := p_q_79051.push ef_79055 nq_79054
  have p_q_79054 := pt.new (L := (((L ++ [q_79045]) ++ [q_79048]) ++ [q_79051])) ef_79055
  refine pg_putF S Y hname ok_X8 6 (by decide) kf8_21 rfl rfl (fs' := [.null, .null, .null, .ref q_79045, .ref q_79048, .ref q_79051, .ref q_79054, .int 0, .int 0, .int 0]) (v := .ref q_79054) p_h rfl rfl rfl (Nat.le_of_ble_eq_true rfl) dX8_init_33 (fun f_79056 H locs ef_79056 Y => ?_)
  have p_q_79045 := p_q_79045.up ef_79056 ((p_q_79045.neB p_h))
  have p_q_79048 := p_q_79048.up ef_79056 ((p_q_79048.neB p_h))
  have p_q_79051 := p_q_79051.up ef_79056 ((p_q_79051.neB p_h))
  have p_q_79054 := p_q_79054.up ef_79056 ((p_q_79054.neB p_h))
  have p_h := p_h.me ef_79056
  have hk := hk.up ef_79056 (by simp)
  refine lv_aload_n hx hb dX8_init_36 rfl (lv_at hl 0 rfl) ?_
  refine lv_aload_n hx hb dX8_init_37 rfl (lv_at hl 1 rfl) ?_
  refine pg_putF S Y hname ok_X8 0 (by decide) kf8_24 rfl rfl (fs' := [.ref w, .null, .null, .ref q_79045, .ref q_79048, .ref q_79051, .ref q_79054, .int 0, .int 0, .int 0]) (v := .ref w) p_h rfl rfl rfl (Nat.le_of_ble_eq_true rfl) dX8_init_38 (fun f_79057 H locs ef_79057 Y => ?_)
  have p_q_79045 := p_q_79045.up ef_79057 ((p_q_79045.neB p_h))
  have p_q_79048 := p_q_79048.up ef_79057 ((p_q_79048.neB p_h))
  have p_q_79051 := p_q_79051.up ef_79057 ((p_q_79051.neB p_h))
  have p_q_79054 := p_q_79054.up ef_79057 ((p_q_79054.neB p_h))
  have p_h := p_h.me ef_79057
  have hk := hk.up ef_79057 (by simp)
  refine lv_aload_n hx hb dX8_init_41 rfl (lv_at hl 0 rfl) ?_
  refine lv_aload_n hx hb dX8_init_42 rfl (lv_at hl 2 rfl) ?_
  refine pg_putF S Y hname ok_X8 1 (by decide) kf8_28 rfl rfl (fs' := [.ref w, .ref jd, .null, .ref q_79045, .ref q_79048, .ref q_79051, .ref q_79054, .int 0, .int 0, .int 0]) (v := .ref jd) p_h rfl rfl rfl (Nat.le_of_ble_eq_true rfl) dX8_init_43 (fun f_79058 H locs ef_79058 Y => ?_)
  have p_q_79045 := p_q_79045.up ef_79058 ((p_q_79045.neB p_h))
  have p_q_79048 := p_q_79048.up ef_79058 ((p_q_79048.neB p_h))
  have p_q_79051 := p_q_79051.up ef_79058 ((p_q_79051.neB p_h))
  have p_q_79054 := p_q_79054.up ef_79058 ((p_q_79054.neB p_h))
  have p_h := p_h.me ef_79058
  have hk := hk.up ef_79058 (by simp)
  refine lv_aload_n hx hb dX8_init_46 rfl (lv_at hl 0 rfl) ?_
  refine lv_aload_n hx hb dX8_init_47 rfl (lv_at hl 3 rfl) ?_
  refine pg_putF S Y hname ok_X8 2 (by decide) kf8_32 rfl rfl (fs' := [.ref w, .ref jd, .ref sl, .ref q_79045, .ref q_79048, .ref q_79051, .ref q_79054, .int 0, .int 0, .int 0]) (v := .ref sl) p_h rfl rfl rfl (Nat.le_of_ble_eq_true rfl) dX8_init_48 (fun f_79059 H locs ef_79059 Y => ?_)
  have p_q_79045 := p_q_79045.up ef_79059 ((p_q_79045.neB p_h))
  have p_q_79048 := p_q_79048.up ef_79059 ((p_q_79048.neB p_h))
  have p_q_79051 := p_q_79051.up ef_79059 ((p_q_79051.neB p_h))
  have p_q_79054 := p_q_79054.up ef_79059 ((p_q_79054.neB p_h))
  have p_h := p_h.me ef_79059
  have hk := hk.up ef_79059 (by simp)
  exact prV (post := fun L1 f1 => ∃ a1 : Nat, ∃ a2 : Nat, ∃ a3 : Nat, ∃ a4 : Nat, kp L f L1 f1 [h] ∧ pt L1 f1 h (.inr (8, [.ref w, .ref jd, .ref sl, .ref a1, .ref a2, .ref a3, .ref a4, .int 0, .int 0, .int 0])) ∧ pt L1 f1 a1 (.inl (G.2 0, 14, .inl (fun _ => 0))) ∧ pt L1 f1 a2 (.inl (G.2 0, 14, .inl (fun _ => 0))) ∧ pt L1 f1 a3 (.inl (G.2 0, 84, .inl (fun _ => 0))) ∧ pt L1 f1 a4 (.inl (G.2 0, 6, .inl (fun _ => 0))) ∧ a1 ≠ a2 ∧ a1 ∉ L ∧ a2 ∉ L ∧ a3 ∉ L ∧ a4 ∉ L) S Y (by decide) (by decide) hA1 ⟨q_79045, q_79048, q_79051, q_79054, hk, p_h, p_q_79045, p_q_79048, p_q_79051, p_q_79054, (dq_79045_q_79048), whkq_79045, whkq_79048, whkq_79051, whkq_79054⟩ dX8_init_51
set_option maxHeartbeats 4000000 in
set_option maxRecDepth 100000 in
theorem c_X0_init {l : Launch} {G : GG} {L : List Nat} {f : HF} {h w : Nat}  (p_h : pt L f h (.inr (0, [.null, .null, .null])))  : PMv l yX0_init cX0_init 2 1 2 14 G [.ref h, .ref w] L f (fun L1 f1 => ∃ a1 : Nat, ∃ a2 : Nat, kp L f L1 f1 [h] ∧ pt L1 f1 h (.inr (0, [.ref w, .ref a1, .ref a2])) ∧ pt L1 f1 a1 (.inl (G.2 0, 8, .inl (fun _ => 0))) ∧ pt L1 f1 a2 (.inl (G.2 0, 6, .inl (fun _ => 0))) ∧ a1 ∉ L ∧ a2 ∉ L) := by
  refine PMv.of (post := fun L1 f1 => ∃ a1 : Nat, ∃ a2 : Nat, kp L f L1 f1 [h] ∧ pt L1 f1 h (.inr (0, [.ref w, .ref a1, .ref a2])) ∧ pt L1 f1 a1 (.inl (G.2 0, 8, .inl (fun _ => 0))) ∧ pt L1 f1 a2 (.inl (G.2 0, 6, .inl (fun _ => 0))) ∧ a1 ∉ L ∧ a2 ∉ L) (own := RX0) (by decide) rfl (Nat.le_of_ble_eq_true rfl) (fun sz p e s m args below meth c A ls hA1 hname S Y hl => ?_)
  have hx := S.hx
  have hb := S.hb
  have hl : lv_has ls 2 [(0, .ref h), (1, .ref w)] := hl
  have hk : kp L f L f [h] := kp.rf
  refine lv_aload_n hx hb dX0_init_0 rfl (lv_at hl 0 rfl) ?_
  refine pObj S km0_3 kObj1 kObj2 hl.1 (Nat.le_of_ble_eq_true rfl) (Nat.le_of_ble_eq_true rfl) dX0_init_1 ?_
  refine lv_aload_n hx hb dX0_init_4 rfl (lv_at hl 0 rfl) ?_
  refine lv_bipush (v := 8) hx hb dX0_init_5 (by decide) ?_
  refine pg_newa S Y (ty := .int) rfl 0 rfl ka_int (N' := 8) (8, .inl (fun _ => 0)) (fun _ => rfl) (by decide) (by decide) (by decide) (by decide) (by decide) dX0_init_7 (fun q_79060 f_79061 H nq_79060 ef_79061 Y => ?_)
  have whkq_79060 := hk.notin nq_79060
  have hk := hk.push ef_79061 nq_79060
  have p_h := p_h.push ef_79061 nq_79060
  have p_q_79060 := pt.new (L := L) ef_79061
  refine pg_putF S Y hname ok_X0 1 (by decide) kf0_9 rfl rfl (fs' := [.null, .ref q_79060, .null]) (v := .ref q_79060) p_h rfl rfl rfl (Nat.le_of_ble_eq_true rfl) dX0_init_9 (fun f_79062 H locs ef_79062 Y => ?_)
  have p_q_79060 := p_q_79060.up ef_79062 ((p_q_79060.neB p_h))
  have p_h := p_h.me ef_79062
  have hk := hk.up ef_79062 (by simp)
  refine lv_aload_n hx hb dX0_init_12 rfl (lv_at hl 0 rfl) ?_
  refine lv_bipush (v := 6) hx hb dX0_init_13 (by decide) ?_
  refine pg_newa S Y (ty := .int) rfl 0 rfl ka_int (N' := 6) (6, .inl (fun _ => 0)) (fun _ => rfl) (by decide) (by decide) (by decide) (by decide) (by decide) dX0_init_15 (fun q_79063 f_79064 H nq_79063 ef_79064 Y => ?_)
  have whkq_79063 := hk.notin nq_79063
  have hk := hk.push ef_79064 nq_79063
  have p_h := p_h.push ef_79064 nq_79063
  have p_q_79060 := p_q_79060.push ef_79064 nq_79063
  have p_q_79063 := pt.new (L := (L ++ [q_79060])) ef_79064
  refine pg_putF S Y hname ok_X0 2 (by decide) kf0_15 rfl rfl (fs' := [.null, .ref q_79060, .ref q_79063]) (v := .ref q_79063) p_h rfl rfl rfl (Nat.le_of_ble_eq_true rfl) dX0_init_17 (fun f_79065 H locs ef_79065 Y => ?_)
  have p_q_79060 := p_q_79060.up ef_79065 ((p_q_79060.neB p_h))
  have p_q_79063 := p_q_79063.up ef_79065 ((p_q_79063.neB p_h))
  have p_h := p_h.me ef_79065
  have hk := hk.up ef_79065 (by simp)
  refine lv_aload_n hx hb dX0_init_20 rfl (lv_at hl 0 rfl) ?_
  refine lv_aload_n hx hb dX0_init_21 rfl (lv_at hl 1 rfl) ?_
  refine pg_putF S Y hname ok_X0 0 (by decide) kf0_18 rfl rfl (fs' := [.ref w, .ref q_79060, .ref q_79063]) (v := .ref w) p_h rfl rfl rfl (Nat.le_of_ble_eq_true rfl) dX0_init_22 (fun f_79066 H locs ef_79066 Y => ?_)
  have p_q_79060 := p_q_79060.up ef_79066 ((p_q_79060.neB p_h))
  have p_q_79063 := p_q_79063.up ef_79066 ((p_q_79063.neB p_h))
  have p_h := p_h.me ef_79066
  have hk := hk.up ef_79066 (by simp)
  exact prV (post := fun L1 f1 => ∃ a1 : Nat, ∃ a2 : Nat, kp L f L1 f1 [h] ∧ pt L1 f1 h (.inr (0, [.ref w, .ref a1, .ref a2])) ∧ pt L1 f1 a1 (.inl (G.2 0, 8, .inl (fun _ => 0))) ∧ pt L1 f1 a2 (.inl (G.2 0, 6, .inl (fun _ => 0))) ∧ a1 ∉ L ∧ a2 ∉ L) S Y (by decide) (by decide) hA1 ⟨q_79060, q_79063, hk, p_h, p_q_79060, p_q_79063, whkq_79060, whkq_79063⟩ dX0_init_25
