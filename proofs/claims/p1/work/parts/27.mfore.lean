theorem dX12_setAside_0 : decode cX12_setAside 0 = .ok (.bipush 10, 2) := by decide +kernel
theorem dX12_setAside_2 : decode cX12_setAside 2 = .ok (.istore_n 1, 1) := by decide +kernel
theorem dX12_setAside_3 : decode cX12_setAside 3 = .ok (.iload_n 1, 1) := by decide +kernel
theorem dX12_setAside_4 : decode cX12_setAside 4 = .ok (.bipush 114, 2) := by decide +kernel
theorem dX12_setAside_6 : decode cX12_setAside 6 = .ok (.if_icmp .ge 21, 3) := by decide +kernel
theorem dX12_setAside_27 : decode cX12_setAside 27 = .ok (.aload_n 0, 1) := by decide +kernel
theorem dX12_setAside_28 : decode cX12_setAside 28 = .ok (.iconst 0, 1) := by decide +kernel
theorem dX12_setAside_29 : decode cX12_setAside 29 = .ok (.putfield 46, 3) := by decide +kernel
theorem dX12_setAside_32 : decode cX12_setAside 32 = .ok (.return_, 1) := by decide +kernel
theorem dX12_setAside_9 : decode cX12_setAside 9 = .ok (.aload_n 0, 1) := by decide +kernel
theorem dX12_setAside_10 : decode cX12_setAside 10 = .ok (.getfield 53, 3) := by decide +kernel
theorem dX12_setAside_13 : decode cX12_setAside 13 = .ok (.iload_n 1, 1) := by decide +kernel
theorem dX12_setAside_14 : decode cX12_setAside 14 = .ok (.aload_n 0, 1) := by decide +kernel
theorem dX12_setAside_15 : decode cX12_setAside 15 = .ok (.getfield 7, 3) := by decide +kernel
theorem dX12_setAside_18 : decode cX12_setAside 18 = .ok (.iload_n 1, 1) := by decide +kernel
theorem dX12_setAside_19 : decode cX12_setAside 19 = .ok (.iaload, 1) := by decide +kernel
theorem dX12_setAside_20 : decode cX12_setAside 20 = .ok (.iastore, 1) := by decide +kernel
theorem dX12_setAside_21 : decode cX12_setAside 21 = .ok (.iinc 1 1, 3) := by decide +kernel
theorem dX12_setAside_24 : decode cX12_setAside 24 = .ok (.goto (-21), 3) := by decide +kernel
theorem dX12_putBack_0 : decode cX12_putBack 0 = .ok (.bipush 10, 2) := by decide +kernel
theorem dX12_putBack_2 : decode cX12_putBack 2 = .ok (.istore_n 1, 1) := by decide +kernel
theorem dX12_putBack_3 : decode cX12_putBack 3 = .ok (.iload_n 1, 1) := by decide +kernel
theorem dX12_putBack_4 : decode cX12_putBack 4 = .ok (.bipush 114, 2) := by decide +kernel
theorem dX12_putBack_6 : decode cX12_putBack 6 = .ok (.if_icmp .ge 21, 3) := by decide +kernel
theorem dX12_putBack_27 : decode cX12_putBack 27 = .ok (.aload_n 0, 1) := by decide +kernel
theorem dX12_putBack_28 : decode cX12_putBack 28 = .ok (.iconst 1, 1) := by decide +kernel
theorem dX12_putBack_29 : decode cX12_putBack 29 = .ok (.putfield 46, 3) := by decide +kernel
theorem dX12_putBack_32 : decode cX12_putBack 32 = .ok (.return_, 1) := by decide +kernel
theorem dX12_putBack_9 : decode cX12_putBack 9 = .ok (.aload_n 0, 1) := by decide +kernel
theorem dX12_putBack_10 : decode cX12_putBack 10 = .ok (.getfield 7, 3) := by decide +kernel
theorem dX12_putBack_13 : decode cX12_putBack 13 = .ok (.iload_n 1, 1) := by decide +kernel
theorem dX12_putBack_14 : decode cX12_putBack 14 = .ok (.aload_n 0, 1) := by decide +kernel
theorem dX12_putBack_15 : decode cX12_putBack 15 = .ok (.getfield 53, 3) := by decide +kernel
theorem dX12_putBack_18 : decode cX12_putBack 18 = .ok (.iload_n 1, 1) := by decide +kernel
theorem dX12_putBack_19 : decode cX12_putBack 19 = .ok (.iaload, 1) := by decide +kernel
theorem dX12_putBack_20 : decode cX12_putBack 20 = .ok (.iastore, 1) := by decide +kernel
theorem dX12_putBack_21 : decode cX12_putBack 21 = .ok (.iinc 1 1, 3) := by decide +kernel
theorem dX12_putBack_24 : decode cX12_putBack 24 = .ok (.goto (-21), 3) := by decide +kernel
theorem dX12_foretold_0 : decode cX12_foretold 0 = .ok (.iload_n 1, 1) := by decide +kernel
theorem dX12_foretold_1 : decode cX12_foretold 1 = .ok (.iconst 1, 1) := by decide +kernel
theorem dX12_foretold_2 : decode cX12_foretold 2 = .ok (.bipush 60, 2) := by decide +kernel
theorem dX12_foretold_4 : decode cX12_foretold 4 = .ok (.invokestatic 69, 3) := by decide +kernel
theorem dX12_foretold_7 : decode cX12_foretold 7 = .ok (.ifCond .eq 16, 3) := by decide +kernel
theorem dX12_foretold_23 : decode cX12_foretold 23 = .ok (.iconst (-1), 1) := by decide +kernel
theorem dX12_foretold_24 : decode cX12_foretold 24 = .ok (.ireturn, 1) := by decide +kernel
theorem dX12_foretold_10 : decode cX12_foretold 10 = .ok (.iload_n 2, 1) := by decide +kernel
theorem dX12_foretold_11 : decode cX12_foretold 11 = .ok (.iconst (-1), 1) := by decide +kernel
theorem dX12_foretold_12 : decode cX12_foretold 12 = .ok (.if_icmp .eq 13, 3) := by decide +kernel
theorem dX12_foretold_25 : decode cX12_foretold 25 = .ok (.aload_n 0, 1) := by decide +kernel
theorem dX12_foretold_26 : decode cX12_foretold 26 = .ok (.invokevirtual 399, 3) := by decide +kernel
theorem cw_X12_setAside : CWv yX12_setAside cX12_setAside 2 none 0 := ⟨⟨⟨List.mem_of_getElem? (i := 137) (by decide +kernel), by decide +kernel⟩, ⟨List.mem_of_getElem? (i := 2009) (by decide +kernel), by decide +kernel⟩, by decide +kernel⟩, ⟨List.mem_of_getElem? (i := 2008) (by decide +kernel), by decide +kernel⟩, ⟨List.mem_of_getElem? (i := 110) (by decide +kernel), by decide +kernel⟩⟩
theorem km12_399 : inW (Cond.methodLink RX12 399 yX12_setAside) := ⟨List.mem_of_getElem? (i := 2006) (by decide +kernel), by decide +kernel⟩
theorem dX12_foretold_29 : decode cX12_foretold 29 = .ok (.iconst 0, 1) := by decide +kernel
theorem dX12_foretold_30 : decode cX12_foretold 30 = .ok (.istore_n 3, 1) := by decide +kernel
theorem dX12_foretold_31 : decode cX12_foretold 31 = .ok (.iconst 0, 1) := by decide +kernel
theorem dX12_foretold_32 : decode cX12_foretold 32 = .ok (.istore 4, 2) := by decide +kernel
theorem dX12_foretold_34 : decode cX12_foretold 34 = .ok (.iload 4, 2) := by decide +kernel
theorem dX12_foretold_36 : decode cX12_foretold 36 = .ok (.iload_n 1, 1) := by decide +kernel
theorem dX12_foretold_37 : decode cX12_foretold 37 = .ok (.if_icmp .ge 47, 3) := by decide +kernel
theorem dX12_foretold_84 : decode cX12_foretold 84 = .ok (.iload_n 2, 1) := by decide +kernel
theorem dX12_foretold_85 : decode cX12_foretold 85 = .ok (.iconst (-1), 1) := by decide +kernel
theorem dX12_foretold_86 : decode cX12_foretold 86 = .ok (.if_icmp .ne 13, 3) := by decide +kernel
theorem dX12_foretold_89 : decode cX12_foretold 89 = .ok (.aload_n 0, 1) := by decide +kernel
theorem dX12_foretold_90 : decode cX12_foretold 90 = .ok (.getfield 7, 3) := by decide +kernel
theorem dX12_foretold_93 : decode cX12_foretold 93 = .ok (.bipush 11, 2) := by decide +kernel
theorem dX12_foretold_95 : decode cX12_foretold 95 = .ok (.iaload, 1) := by decide +kernel
theorem dX12_foretold_96 : decode cX12_foretold 96 = .ok (.goto 4, 3) := by decide +kernel
theorem dX12_foretold_100 : decode cX12_foretold 100 = .ok (.istore 4, 2) := by decide +kernel
theorem dX12_foretold_102 : decode cX12_foretold 102 = .ok (.aload_n 0, 1) := by decide +kernel
theorem dX12_foretold_103 : decode cX12_foretold 103 = .ok (.invokevirtual 402, 3) := by decide +kernel
theorem cw_X12_putBack : CWv yX12_putBack cX12_putBack 2 none 0 := ⟨⟨⟨List.mem_of_getElem? (i := 137) (by decide +kernel), by decide +kernel⟩, ⟨List.mem_of_getElem? (i := 2013) (by decide +kernel), by decide +kernel⟩, by decide +kernel⟩, ⟨List.mem_of_getElem? (i := 2012) (by decide +kernel), by decide +kernel⟩, ⟨List.mem_of_getElem? (i := 111) (by decide +kernel), by decide +kernel⟩⟩
theorem km12_402 : inW (Cond.methodLink RX12 402 yX12_putBack) := ⟨List.mem_of_getElem? (i := 2010) (by decide +kernel), by decide +kernel⟩
theorem dX12_foretold_106 : decode cX12_foretold 106 = .ok (.iload 4, 2) := by decide +kernel
theorem dX12_foretold_108 : decode cX12_foretold 108 = .ok (.ireturn, 1) := by decide +kernel
theorem dX12_foretold_40 : decode cX12_foretold 40 = .ok (.aload_n 0, 1) := by decide +kernel
theorem dX12_foretold_41 : decode cX12_foretold 41 = .ok (.getfield 7, 3) := by decide +kernel
theorem dX12_foretold_44 : decode cX12_foretold 44 = .ok (.bipush 10, 2) := by decide +kernel
theorem dX12_foretold_46 : decode cX12_foretold 46 = .ok (.iaload, 1) := by decide +kernel
theorem dX12_foretold_47 : decode cX12_foretold 47 = .ok (.sipush 9999, 3) := by decide +kernel
theorem dX12_foretold_50 : decode cX12_foretold 50 = .ok (.if_icmp .ne 6, 3) := by decide +kernel
theorem dX12_foretold_56 : decode cX12_foretold 56 = .ok (.aload_n 0, 1) := by decide +kernel
theorem dX12_foretold_57 : decode cX12_foretold 57 = .ok (.invokevirtual 357, 3) := by decide +kernel
theorem dX12_foretold_60 : decode cX12_foretold 60 = .ok (.iload_n 3, 1) := by decide +kernel
theorem dX12_foretold_61 : decode cX12_foretold 61 = .ok (.iload_n 2, 1) := by decide +kernel
theorem dX12_foretold_62 : decode cX12_foretold 62 = .ok (.iconst (-1), 1) := by decide +kernel
theorem dX12_foretold_63 : decode cX12_foretold 63 = .ok (.if_icmp .ne 7, 3) := by decide +kernel
theorem dX12_foretold_66 : decode cX12_foretold 66 = .ok (.iconst 0, 1) := by decide +kernel
theorem dX12_foretold_67 : decode cX12_foretold 67 = .ok (.goto 9, 3) := by decide +kernel
theorem dX12_foretold_76 : decode cX12_foretold 76 = .ok (.iadd, 1) := by decide +kernel
theorem dX12_foretold_77 : decode cX12_foretold 77 = .ok (.istore_n 3, 1) := by decide +kernel
theorem dX12_foretold_78 : decode cX12_foretold 78 = .ok (.iinc 4 1, 3) := by decide +kernel
theorem dX12_foretold_81 : decode cX12_foretold 81 = .ok (.goto (-47), 3) := by decide +kernel
theorem dX12_foretold_15 : decode cX12_foretold 15 = .ok (.aload_n 0, 1) := by decide +kernel
theorem dX12_foretold_16 : decode cX12_foretold 16 = .ok (.iload_n 2, 1) := by decide +kernel
theorem dX12_foretold_17 : decode cX12_foretold 17 = .ok (.invokevirtual 323, 3) := by decide +kernel
theorem dX12_foretold_20 : decode cX12_foretold 20 = .ok (.ifCond .ne 5, 3) := by decide +kernel
set_option maxHeartbeats 4000000 in
set_option maxRecDepth 100000 in
theorem c_X12_setAside {l : Launch} {G : GG} {L : List Nat} {f : HF} {h a im te tp pi co na vl tr ac as_ su wi_ se : Nat} {g gs : Nat → Int32}  (p_h : pt L f h (.inr (12, [.ref a, .ref im, .ref te, .ref tp, .int 0, .int (-1), .int (-1), .int 0, .int 0, .int 0, .int 0, .long 0, .int 0, .int 0, .int 0, .ref pi, .ref co, .int 0, .int 0, .int 0, .int 0, .int 0, .ref na, .ref vl, .ref tr, .int 1, .ref ac, .ref as_, .ref su, .ref wi_, .int 0, .ref se]))) (p_a : pt L f a (.inl (G.2 0, 10568, .inl g))) (p_as_ : pt L f as_ (.inl (G.2 0, 114, .inl gs)))  : PMv l yX12_setAside cX12_setAside 2 0 0 0 G [.ref h] L f (fun L1 f1 => ∃ g1 : Nat → Int32, kp L f L1 f1 [h, as_] ∧ pt L1 f1 h (.inr (12, [.ref a, .ref im, .ref te, .ref tp, .int 0, .int (-1), .int (-1), .int 0, .int 0, .int 0, .int 0, .long 0, .int 0, .int 0, .int 0, .ref pi, .ref co, .int 0, .int 0, .int 0, .int 0, .int 0, .ref na, .ref vl, .ref tr, .int 0, .ref ac, .ref as_, .ref su, .ref wi_, .int 0, .ref se])) ∧ pt L1 f1 as_ (.inl (G.2 0, 114, .inl g1))) := by
  refine PMv.of (post := fun L1 f1 => ∃ g1 : Nat → Int32, kp L f L1 f1 [h, as_] ∧ pt L1 f1 h (.inr (12, [.ref a, .ref im, .ref te, .ref tp, .int 0, .int (-1), .int (-1), .int 0, .int 0, .int 0, .int 0, .long 0, .int 0, .int 0, .int 0, .ref pi, .ref co, .int 0, .int 0, .int 0, .int 0, .int 0, .ref na, .ref vl, .ref tr, .int 0, .ref ac, .ref as_, .ref su, .ref wi_, .int 0, .ref se])) ∧ pt L1 f1 as_ (.inl (G.2 0, 114, .inl g1))) (own := RX12) (by decide) rfl (Nat.le_of_ble_eq_true rfl) (fun sz p e s m args below meth c A ls hA1 hname S Y hl => ?_)
  have hx := S.hx
  have hb := S.hb
  have hl : lv_has ls 2 [(0, .ref h)] := hl
  have hk : kp L f L f [h, as_] := kp.rf
  refine lv_bipush (v := 10) hx hb dX12_setAside_0 (by decide) ?_
  refine lv_istore_n (lv' := [(1, .int 10), (0, .ref h)]) hx hb dX12_setAside_2 rfl hl (by decide) rfl (fun ls hl => ?_)
  have loop : ∀ (n0 i : Nat) (f3 : HF) (g3 : Nat → Int32) (H : Heap) (locs : List Loc) (ls : Array Slot) (x : Int32), i + n0 = 114 → x = nI i → kp L f L f3 [h, as_] → pt L f3 h (.inr (12, [.ref a, .ref im, .ref te, .ref tp, .int 0, .int (-1), .int (-1), .int 0, .int 0, .int 0, .int 0, .long 0, .int 0, .int 0, .int 0, .ref pi, .ref co, .int 0, .int 0, .int 0, .int 0, .int 0, .ref na, .ref vl, .ref tr, .int 1, .ref ac, .ref as_, .ref su, .ref wi_, .int 0, .ref se])) → pt L f3 a (.inl (G.2 0, 10568, .inl g)) → pt L f3 as_ (.inl (G.2 0, 114, .inl g3)) → DY G A s [] L f3 H locs → lv_has ls 2 [(1, .int x), (0, .ref h)] → W p l e (rmD 0 0 0) s m args below meth c H locs (0) (0) (MQ below (va_Qv (fun (u : List Nat × HF) => (fun L1 f1 => ∃ g1 : Nat → Int32, kp L f L1 f1 [h, as_] ∧ pt L1 f1 h (.inr (12, [.ref a, .ref im, .ref te, .ref tp, .int 0, .int (-1), .int (-1), .int 0, .int 0, .int 0, .int 0, .long 0, .int 0, .int 0, .int 0, .ref pi, .ref co, .int 0, .int 0, .int 0, .int 0, .int 0, .ref na, .ref vl, .ref tr, .int 0, .ref ac, .ref as_, .ref su, .ref wi_, .int 0, .ref se])) ∧ pt L1 f1 as_ (.inl (G.2 0, 114, .inl g1))) u.1 u.2) (fun u t => pOut G (va_A (va_pl L f) sz) u.1 u.2 t) (va_A (va_pl L f) sz)) args s 0 0 A) (F0 m 3 ls []) := by
    intro n0
    induction n0 with
    | zero =>
      intro i f3 g3 H locs ls x hin ex hk p_h p_a p_as_ Y hl
      obtain rfl : i = 114 := by omega
      obtain rfl : x = 114 := by rw [ex]; decide
      refine lv_iload_n hx hb dX12_setAside_3 rfl (lv_at hl 0 rfl) ?_
      refine lv_bipush (v := 114) hx hb dX12_setAside_4 (by decide) ?_
      refine lv_icmp_ge (tgt := 27) hx hb dX12_setAside_6 (by decide) (fun _ => ?_) (fun h => absurd (by decide) h)
      refine lv_aload_n hx hb dX12_setAside_27 rfl (lv_at hl 1 rfl) ?_
      refine lv_iconst (v := 0) hx hb dX12_setAside_28 (by decide) ?_
      refine pg_put S Y ok_X12 25 (by decide) kf12_46 rfl (fs' := [.ref a, .ref im, .ref te, .ref tp, .int 0, .int (-1), .int (-1), .int 0, .int 0, .int 0, .int 0, .long 0, .int 0, .int 0, .int 0, .ref pi, .ref co, .int 0, .int 0, .int 0, .int 0, .int 0, .ref na, .ref vl, .ref tr, .int 0, .ref ac, .ref as_, .ref su, .ref wi_, .int 0, .ref se]) (v := .int 0) p_h rfl rfl rfl (Nat.le_of_ble_eq_true rfl) dX12_setAside_29 (fun f_1401 H locs ef_1401 Y => ?_)
      have p_a := p_a.up ef_1401 ((p_a.neB p_h))
      have p_as_ := p_as_.up ef_1401 ((p_as_.neB p_h))
      have p_h := p_h.me ef_1401
      have hk := hk.up ef_1401 (by simp)
      exact prV (post := fun L1 f1 => ∃ g1 : Nat → Int32, kp L f L1 f1 [h, as_] ∧ pt L1 f1 h (.inr (12, [.ref a, .ref im, .ref te, .ref tp, .int 0, .int (-1), .int (-1), .int 0, .int 0, .int 0, .int 0, .long 0, .int 0, .int 0, .int 0, .ref pi, .ref co, .int 0, .int 0, .int 0, .int 0, .int 0, .ref na, .ref vl, .ref tr, .int 0, .ref ac, .ref as_, .ref su, .ref wi_, .int 0, .ref se])) ∧ pt L1 f1 as_ (.inl (G.2 0, 114, .inl g1))) S Y (by decide) (by decide) hA1 ⟨g3, hk, p_h, p_as_⟩ dX12_setAside_32
    | succ n0 ih =>
      intro i f3 g3 H locs ls x hin ex hk p_h p_a p_as_ Y hl
      have hiN : i < 114 := by omega
      have hi31 : i < 2 ^ 31 := by omega
      have hin2 : i + 1 + n0 = 114 := by omega
      refine lv_iload_n hx hb dX12_setAside_3 rfl (lv_at hl 0 rfl) ?_
      refine lv_bipush (v := 114) hx hb dX12_setAside_4 (by decide) ?_
      refine lv_icmp_ge (tgt := 27) hx hb dX12_setAside_6 (by decide) (fun h => absurd h (by rw [ex]; exact nI_ge hiN (by decide))) (fun _ => ?_)
      refine lv_aload_n hx hb dX12_setAside_9 rfl (lv_at hl 1 rfl) ?_
      refine pg_get S Y ok_X12 27 (by decide) kf12_53 (v := .ref as_) p_h rfl dX12_setAside_10 ?_
      refine lv_iload_n hx hb dX12_setAside_13 rfl (lv_at hl 0 rfl) ?_
      refine lv_aload_n hx hb dX12_setAside_14 rfl (lv_at hl 1 rfl) ?_
      refine pg_get S Y ok_X12 0 (by decide) kf12_7 (v := .ref a) p_h rfl dX12_setAside_15 ?_
      refine lv_iload_n hx hb dX12_setAside_18 rfl (lv_at hl 0 rfl) ?_
      refine pg_iald S Y (v := (g (x : Int32).toNatClampNeg)) p_a (by rw [ex]; exact vp_in_nI (by omega) (by decide)) rfl dX12_setAside_19 ?_
      refine pg_iast S Y p_as_ (by rw [ex]; exact vp_in_nI (by omega) (by decide)) dX12_setAside_20 (fun f_1403 H locs ef_1403 Y => ?_)
      obtain ⟨g_1402, eg_1402⟩ : ∃ z, z = upd (g3) (x : Int32).toNatClampNeg (g (x : Int32).toNatClampNeg) := ⟨_, rfl⟩
      rw [← eg_1402] at ef_1403
      have p_h := p_h.up ef_1403 ((p_h.neA p_as_))
      have p_a := p_a.up ef_1403 ((p_a.neN p_as_ (by decide)))
      have p_as_ := p_as_.me ef_1403
      have hk := hk.up ef_1403 (by simp)
      obtain ⟨x_1404, ex_1404⟩ : ∃ z : Int32, z = x + 1 := ⟨_, rfl⟩
      refine lv_iinc (v := x_1404) (lv' := [(1, .int x_1404), (0, .ref h)]) hx hb dX12_setAside_21 hl (k := 0) rfl (by rw [ex_1404]; rfl) (by decide) rfl (fun ls hl => ?_)
      refine lv_goto (tgt := 3) hx hb dX12_setAside_24 (by decide) ?_
      have ex2 : x_1404 = nI (i + 1) := by rw [ex_1404, ex]; exact nI_1 i
      exact ih (i + 1) _ _ _ _ _ _ hin2 ex2 hk p_h p_a p_as_ Y hl
  exact loop 104 10 _ _ _ _ _ 10 rfl rfl hk p_h p_a p_as_ Y hl
set_option maxHeartbeats 4000000 in
set_option maxRecDepth 100000 in
theorem c_X12_putBack {l : Launch} {G : GG} {L : List Nat} {f : HF} {h a im te tp pi co na vl tr ac as_ su wi_ se : Nat} {g gs : Nat → Int32}  (p_h : pt L f h (.inr (12, [.ref a, .ref im, .ref te, .ref tp, .int 0, .int (-1), .int (-1), .int 0, .int 0, .int 0, .int 0, .long 0, .int 0, .int 0, .int 0, .ref pi, .ref co, .int 0, .int 0, .int 0, .int 0, .int 0, .ref na, .ref vl, .ref tr, .int 0, .ref ac, .ref as_, .ref su, .ref wi_, .int 0, .ref se]))) (p_a : pt L f a (.inl (G.2 0, 10568, .inl g))) (p_as_ : pt L f as_ (.inl (G.2 0, 114, .inl gs)))  : PMv l yX12_putBack cX12_putBack 2 0 0 0 G [.ref h] L f (fun L1 f1 => ∃ g1 : Nat → Int32, kp L f L1 f1 [h, a] ∧ pt L1 f1 h (.inr (12, [.ref a, .ref im, .ref te, .ref tp, .int 0, .int (-1), .int (-1), .int 0, .int 0, .int 0, .int 0, .long 0, .int 0, .int 0, .int 0, .ref pi, .ref co, .int 0, .int 0, .int 0, .int 0, .int 0, .ref na, .ref vl, .ref tr, .int 1, .ref ac, .ref as_, .ref su, .ref wi_, .int 0, .ref se])) ∧ pt L1 f1 a (.inl (G.2 0, 10568, .inl g1))) := by
  refine PMv.of (post := fun L1 f1 => ∃ g1 : Nat → Int32, kp L f L1 f1 [h, a] ∧ pt L1 f1 h (.inr (12, [.ref a, .ref im, .ref te, .ref tp, .int 0, .int (-1), .int (-1), .int 0, .int 0, .int 0, .int 0, .long 0, .int 0, .int 0, .int 0, .ref pi, .ref co, .int 0, .int 0, .int 0, .int 0, .int 0, .ref na, .ref vl, .ref tr, .int 1, .ref ac, .ref as_, .ref su, .ref wi_, .int 0, .ref se])) ∧ pt L1 f1 a (.inl (G.2 0, 10568, .inl g1))) (own := RX12) (by decide) rfl (Nat.le_of_ble_eq_true rfl) (fun sz p e s m args below meth c A ls hA1 hname S Y hl => ?_)
  have hx := S.hx
  have hb := S.hb
  have hl : lv_has ls 2 [(0, .ref h)] := hl
  have hk : kp L f L f [h, a] := kp.rf
  refine lv_bipush (v := 10) hx hb dX12_putBack_0 (by decide) ?_
  refine lv_istore_n (lv' := [(1, .int 10), (0, .ref h)]) hx hb dX12_putBack_2 rfl hl (by decide) rfl (fun ls hl => ?_)
  have loop : ∀ (n0 i : Nat) (f3 : HF) (g3 : Nat → Int32) (H : Heap) (locs : List Loc) (ls : Array Slot) (x : Int32), i + n0 = 114 → x = nI i → kp L f L f3 [h, a] → pt L f3 h (.inr (12, [.ref a, .ref im, .ref te, .ref tp, .int 0, .int (-1), .int (-1), .int 0, .int 0, .int 0, .int 0, .long 0, .int 0, .int 0, .int 0, .ref pi, .ref co, .int 0, .int 0, .int 0, .int 0, .int 0, .ref na, .ref vl, .ref tr, .int 0, .ref ac, .ref as_, .ref su, .ref wi_, .int 0, .ref se])) → pt L f3 a (.inl (G.2 0, 10568, .inl g3)) → pt L f3 as_ (.inl (G.2 0, 114, .inl gs)) → DY G A s [] L f3 H locs → lv_has ls 2 [(1, .int x), (0, .ref h)] → W p l e (rmD 0 0 0) s m args below meth c H locs (0) (0) (MQ below (va_Qv (fun (u : List Nat × HF) => (fun L1 f1 => ∃ g1 : Nat → Int32, kp L f L1 f1 [h, a] ∧ pt L1 f1 h (.inr (12, [.ref a, .ref im, .ref te, .ref tp, .int 0, .int (-1), .int (-1), .int 0, .int 0, .int 0, .int 0, .long 0, .int 0, .int 0, .int 0, .ref pi, .ref co, .int 0, .int 0, .int 0, .int 0, .int 0, .ref na, .ref vl, .ref tr, .int 1, .ref ac, .ref as_, .ref su, .ref wi_, .int 0, .ref se])) ∧ pt L1 f1 a (.inl (G.2 0, 10568, .inl g1))) u.1 u.2) (fun u t => pOut G (va_A (va_pl L f) sz) u.1 u.2 t) (va_A (va_pl L f) sz)) args s 0 0 A) (F0 m 3 ls []) := by
    intro n0
    induction n0 with
    | zero =>
      intro i f3 g3 H locs ls x hin ex hk p_h p_a p_as_ Y hl
      obtain rfl : i = 114 := by omega
      obtain rfl : x = 114 := by rw [ex]; decide
      refine lv_iload_n hx hb dX12_putBack_3 rfl (lv_at hl 0 rfl) ?_
      refine lv_bipush (v := 114) hx hb dX12_putBack_4 (by decide) ?_
      refine lv_icmp_ge (tgt := 27) hx hb dX12_putBack_6 (by decide) (fun _ => ?_) (fun h => absurd (by decide) h)
      refine lv_aload_n hx hb dX12_putBack_27 rfl (lv_at hl 1 rfl) ?_
      refine lv_iconst (v := 1) hx hb dX12_putBack_28 (by decide) ?_
      refine pg_put S Y ok_X12 25 (by decide) kf12_46 rfl (fs' := [.ref a, .ref im, .ref te, .ref tp, .int 0, .int (-1), .int (-1), .int 0, .int 0, .int 0, .int 0, .long 0, .int 0, .int 0, .int 0, .ref pi, .ref co, .int 0, .int 0, .int 0, .int 0, .int 0, .ref na, .ref vl, .ref tr, .int 1, .ref ac, .ref as_, .ref su, .ref wi_, .int 0, .ref se]) (v := .int 1) p_h rfl rfl rfl (Nat.le_of_ble_eq_true rfl) dX12_putBack_29 (fun f_1405 H locs ef_1405 Y => ?_)
      have p_a := p_a.up ef_1405 ((p_a.neB p_h))
      have p_as_ := p_as_.up ef_1405 ((p_as_.neB p_h))
      have p_h := p_h.me ef_1405
      have hk := hk.up ef_1405 (by simp)
      exact prV (post := fun L1 f1 => ∃ g1 : Nat → Int32, kp L f L1 f1 [h, a] ∧ pt L1 f1 h (.inr (12, [.ref a, .ref im, .ref te, .ref tp, .int 0, .int (-1), .int (-1), .int 0, .int 0, .int 0, .int 0, .long 0, .int 0, .int 0, .int 0, .ref pi, .ref co, .int 0, .int 0, .int 0, .int 0, .int 0, .ref na, .ref vl, .ref tr, .int 1, .ref ac, .ref as_, .ref su, .ref wi_, .int 0, .ref se])) ∧ pt L1 f1 a (.inl (G.2 0, 10568, .inl g1))) S Y (by decide) (by decide) hA1 ⟨g3, hk, p_h, p_a⟩ dX12_putBack_32
    | succ n0 ih =>
      intro i f3 g3 H locs ls x hin ex hk p_h p_a p_as_ Y hl
      have hiN : i < 114 := by omega
      have hi31 : i < 2 ^ 31 := by omega
      have hin2 : i + 1 + n0 = 114 := by omega
      refine lv_iload_n hx hb dX12_putBack_3 rfl (lv_at hl 0 rfl) ?_
      refine lv_bipush (v := 114) hx hb dX12_putBack_4 (by decide) ?_
      refine lv_icmp_ge (tgt := 27) hx hb dX12_putBack_6 (by decide) (fun h => absurd h (by rw [ex]; exact nI_ge hiN (by decide))) (fun _ => ?_)
      refine lv_aload_n hx hb dX12_putBack_9 rfl (lv_at hl 1 rfl) ?_
      refine pg_get S Y ok_X12 0 (by decide) kf12_7 (v := .ref a) p_h rfl dX12_putBack_10 ?_
      refine lv_iload_n hx hb dX12_putBack_13 rfl (lv_at hl 0 rfl) ?_
      refine lv_aload_n hx hb dX12_putBack_14 rfl (lv_at hl 1 rfl) ?_
      refine pg_get S Y ok_X12 27 (by decide) kf12_53 (v := .ref as_) p_h rfl dX12_putBack_15 ?_
      refine lv_iload_n hx hb dX12_putBack_18 rfl (lv_at hl 0 rfl) ?_
      refine pg_iald S Y (v := (gs (x : Int32).toNatClampNeg)) p_as_ (by rw [ex]; exact vp_in_nI (by omega) (by decide)) rfl dX12_putBack_19 ?_
      refine pg_iast S Y p_a (by rw [ex]; exact vp_in_nI (by omega) (by decide)) dX12_putBack_20 (fun f_1407 H locs ef_1407 Y => ?_)
      obtain ⟨g_1406, eg_1406⟩ : ∃ z, z = upd (g3) (x : Int32).toNatClampNeg (gs (x : Int32).toNatClampNeg) := ⟨_, rfl⟩
      rw [← eg_1406] at ef_1407
      have p_h := p_h.up ef_1407 ((p_h.neA p_a))
      have p_as_ := p_as_.up ef_1407 ((p_as_.neN p_a (by decide)))
      have p_a := p_a.me ef_1407
      have hk := hk.up ef_1407 (by simp)
      obtain ⟨x_1408, ex_1408⟩ : ∃ z : Int32, z = x + 1 := ⟨_, rfl⟩
      refine lv_iinc (v := x_1408) (lv' := [(1, .int x_1408), (0, .ref h)]) hx hb dX12_putBack_21 hl (k := 0) rfl (by rw [ex_1408]; rfl) (by decide) rfl (fun ls hl => ?_)
      refine lv_goto (tgt := 3) hx hb dX12_putBack_24 (by decide) ?_
      have ex2 : x_1408 = nI (i + 1) := by rw [ex_1408, ex]; exact nI_1 i
      exact ih (i + 1) _ _ _ _ _ _ hin2 ex2 hk p_h p_a p_as_ Y hl
  exact loop 104 10 _ _ _ _ _ 10 rfl rfl hk p_h p_a p_as_ Y hl
set_option maxHeartbeats 4000000 in
set_option maxRecDepth 100000 in
theorem c_X12_foretold {l : Launch} {G : GG} {L : List Nat} {f : HF} {h a im te tp pi co na vl tr ac as_ su wi_ se : Nat} {n o : Int32} {g : Nat → Int32}  (p_h : pt L f h (.inr (12, [.ref a, .ref im, .ref te, .ref tp, .int 0, .int (-1), .int (-1), .int 0, .int 0, .int 0, .int 0, .long 0, .int 0, .int 0, .int 0, .ref pi, .ref co, .int 0, .int 0, .int 0, .int 0, .int 0, .ref na, .ref vl, .ref tr, .int 1, .ref ac, .ref as_, .ref su, .ref wi_, .int 0, .ref se]))) (p_a : pt L f a (.inl (G.2 0, 10568, .inl a0))) (p_as_ : pt L f as_ (.inl (G.2 0, 114, .inl g)))  : PMi l yX12_foretold cX12_foretold 5 .int 2 0 0 G [.ref h, .int n, .int o] L f (fun r L1 f1 => r = foreF n o) := by
  refine PMi.of (post := fun r L1 f1 => r = foreF n o) (own := RX12) (by decide) rfl (Nat.le_of_ble_eq_true rfl) (fun sz p e s m args below meth c A ls hA1 hname S Y hl => ?_)
  have hx := S.hx
  have hb := S.hb
  have hl : lv_has ls 5 [(0, .ref h), (1, .int n), (2, .int o)] := hl
  refine lv_iload_n hx hb dX12_foretold_0 rfl (lv_at hl 1 rfl) ?_
  refine lv_iconst (v := 1) hx hb dX12_foretold_1 (by decide) ?_
  refine lv_bipush (v := 60) hx hb dX12_foretold_2 (by decide) ?_
  refine cSp (As := [.int n, .int 1, .int 60]) (rest := []) S Y (c_X12_isIn (l := l)) cw_X12_isIn km12_69 rfl ⟨Nat.le_of_ble_eq_true rfl, Nat.le_of_ble_eq_true rfl⟩ hl.1 rfl (Nat.le_of_ble_eq_true rfl) ⟨Nat.le_of_ble_eq_true rfl, Nat.le_of_ble_eq_true rfl⟩ dX12_foretold_4 (fun r_1409 H locs er_1409 Y => ?_)
  refine lv_fold (z := (wi n 1 60)) er_1409 ?_
  refine lv_if_eq (tgt := 23) hx hb dX12_foretold_7 (by decide) (fun c_1410 => ?_) (fun c_1410 => ?_)
  · refine lv_iconst (v := (-1)) hx hb dX12_foretold_23 (by decide) ?_
    exact prI (post := fun r L1 f1 => r = foreF n o) S Y rfl (by decide) (by decide) hA1 (by rw [foreF, if_pos c_1410]) dX12_foretold_24
  · obtain ⟨j, hj, hn⟩ := wi_60 c_1410
    refine lv_iload_n hx hb dX12_foretold_10 rfl (lv_at hl 2 rfl) ?_
    refine lv_iconst (v := (-1)) hx hb dX12_foretold_11 (by decide) ?_
    refine lv_icmp_eq (tgt := 25) hx hb dX12_foretold_12 (by decide) (fun c_1411 => ?_) (fun c_1411 => ?_)
    · refine lv_aload_n hx hb dX12_foretold_25 rfl (lv_at hl 0 rfl) ?_
      refine cVv (As := []) (rest := []) S Y (c_X12_setAside (l := l) p_h p_a p_as_) cw_X12_setAside km12_399 p_h ok_X12.1 rfl rfl ⟨Nat.le_of_ble_eq_true rfl, Nat.le_of_ble_eq_true rfl⟩ hl.1 rfl (Nat.le_of_ble_eq_true rfl) ⟨Nat.le_of_ble_eq_true rfl, Nat.le_of_ble_eq_true rfl⟩ dX12_foretold_26 (fun L_1412 f_1413 H locs hf_1413 Y => ?_)
      obtain ⟨g__1414, kf_1413, z_z_1415, z_z_1416⟩ := hf_1413
      have p_a := kf_1413.1 a _ (nmc (p_a.neB p_h) (nmc (p_a.neN p_as_ (by decide)) nm0)) p_a
      have p_h := z_z_1415
      have p_as_ := z_z_1416
      refine lv_iconst (v := 0) hx hb dX12_foretold_29 (by decide) ?_
      refine lv_istore_n (lv' := [(3, .int 0), (0, .ref h), (1, .int n), (2, .int o)]) hx hb dX12_foretold_30 rfl hl (by decide) rfl (fun ls hl => ?_)
      refine lv_iconst (v := 0) hx hb dX12_foretold_31 (by decide) ?_
      refine lv_istore (lv' := [(4, .int 0), (3, .int 0), (0, .ref h), (1, .int n), (2, .int o)]) hx hb dX12_foretold_32 hl (by decide) rfl (fun ls hl => ?_)
      have loop : ∀ (n0 i : Nat) (L3 : List Nat) (f3 : HF) (g3 : Nat → Int32) (y : Int32) (H : Heap) (locs : List Loc) (ls : Array Slot) (x : Int32), i + n0 = j → x = nI i → pt L3 f3 h (.inr (12, [.ref a, .ref im, .ref te, .ref tp, .int 0, .int (-1), .int (-1), .int 0, .int 0, .int 0, .int 0, .long 0, .int 0, .int 0, .int 0, .ref pi, .ref co, .int 0, .int 0, .int 0, .int 0, .int 0, .ref na, .ref vl, .ref tr, .int 0, .ref ac, .ref as_, .ref su, .ref wi_, .int 0, .ref se])) → pt L3 f3 a (.inl (G.2 0, 10568, .inl g3)) → pt L3 f3 as_ (.inl (G.2 0, 114, .inl g__1414)) → g3 0 = 0 → g3 10 = nI i → g3 11 = nI (RN_ i) → g3 12 = nI (XN i) → DY G A s [] L3 f3 H locs → lv_has ls 5 [(4, .int x), (0, .ref h), (1, .int n), (2, .int o), (3, .int y)] → W p l e (rmD 2 0 0) s m args below meth c H locs (0) (0) (MQ below (va_Qi (fun r (u : List Nat × HF) => (fun r L1 f1 => r = foreF n o) r u.1 u.2) (fun u t => pOut G (va_A (va_pl L f) sz) u.1 u.2 t) (va_A (va_pl L f) sz)) args s 0 0 A) (F0 m 34 ls []) := by
        intro n0
        induction n0 with
        | zero =>
          intro i L3 f3 g3 y H locs ls x hin ex p_h p_a p_as_ h0 h10 h11 h12 Y hl
          obtain rfl : j = i := by omega
          refine lv_iload hx hb dX12_foretold_34 (lv_at hl 0 rfl) ?_
          refine lv_iload_n hx hb dX12_foretold_36 rfl (lv_at hl 2 rfl) ?_
          refine lv_icmp_ge (tgt := 84) hx hb dX12_foretold_37 (by decide) (fun _ => ?_) (fun h => absurd (by rw [ex, hn]; exact nI_le (Nat.le_refl _) (by omega)) h)
          refine lv_iload_n hx hb dX12_foretold_84 rfl (lv_at hl 3 rfl) ?_
          refine lv_iconst (v := (-1)) hx hb dX12_foretold_85 (by decide) ?_
          refine lv_icmp_ne (tgt := 99) hx hb dX12_foretold_86 (by decide) (fun h => absurd c_1411 h) (fun _ => ?_)
          refine lv_aload_n hx hb dX12_foretold_89 rfl (lv_at hl 1 rfl) ?_
          refine pg_get S Y ok_X12 0 (by decide) kf12_7 (v := .ref a) p_h rfl dX12_foretold_90 ?_
          refine lv_bipush (v := 11) hx hb dX12_foretold_93 (by decide) ?_
          refine pg_iald S Y (v := (nI (RN_ j))) p_a (by unfold vp_in; decide) h11 dX12_foretold_95 ?_
          refine lv_goto (tgt := 100) hx hb dX12_foretold_96 (by decide) ?_
          refine lv_istore (lv' := [(4, .int (nI (RN_ j))), (0, .ref h), (1, .int n), (2, .int o), (3, .int y)]) hx hb dX12_foretold_100 hl (by decide) rfl (fun ls hl => ?_)
          refine lv_aload_n hx hb dX12_foretold_102 rfl (lv_at hl 1 rfl) ?_
          refine cVv (As := []) (rest := []) S Y (c_X12_putBack (l := l) p_h p_a p_as_) cw_X12_putBack km12_402 p_h ok_X12.1 rfl rfl ⟨Nat.le_of_ble_eq_true rfl, Nat.le_of_ble_eq_true rfl⟩ hl.1 rfl (Nat.le_of_ble_eq_true rfl) ⟨Nat.le_of_ble_eq_true rfl, Nat.le_of_ble_eq_true rfl⟩ dX12_foretold_103 (fun L_1417 f_1418 H locs hf_1418 Y => ?_)
          obtain ⟨g__1419, kf_1418, z_z_1420, z_z_1421⟩ := hf_1418
          have p_as_ := kf_1418.1 as_ _ (nmc (p_as_.neB p_h) (nmc (p_as_.neN p_a (by decide)) nm0)) p_as_
          have p_h := z_z_1420
          have p_a := z_z_1421
          refine lv_iload hx hb dX12_foretold_106 (lv_at hl 0 rfl) ?_
          exact prI (post := fun r L1 f1 => r = foreF n o) S Y rfl (by decide) (by decide) hA1 (by rw [foreF, if_neg c_1410, if_pos c_1411, hn, nI_clamp (by omega)]) dX12_foretold_108
        | succ n0 ih =>
          intro i L3 f3 g3 y H locs ls x hin ex p_h p_a p_as_ h0 h10 h11 h12 Y hl
          have hij : i < j := by omega
          have hin2 : i + 1 + n0 = j := by omega
          refine lv_iload hx hb dX12_foretold_34 (lv_at hl 0 rfl) ?_
          refine lv_iload_n hx hb dX12_foretold_36 rfl (lv_at hl 2 rfl) ?_
          refine lv_icmp_ge (tgt := 84) hx hb dX12_foretold_37 (by decide) (fun h => absurd h (by rw [ex, hn]; exact nI_ge hij (by omega))) (fun _ => ?_)
          refine lv_aload_n hx hb dX12_foretold_40 rfl (lv_at hl 1 rfl) ?_
          refine pg_get S Y ok_X12 0 (by decide) kf12_7 (v := .ref a) p_h rfl dX12_foretold_41 ?_
          refine lv_bipush (v := 10) hx hb dX12_foretold_44 (by decide) ?_
          refine pg_iald S Y (v := (nI i)) p_a (by unfold vp_in; decide) h10 dX12_foretold_46 ?_
          refine lv_sipush (v := 9999) hx hb dX12_foretold_47 (by decide) ?_
          refine lv_icmp_ne (tgt := 56) hx hb dX12_foretold_50 (by decide) (fun _ => ?_) (fun h => absurd h (fun q => absurd ((nI_eq (a := i) (b := 9999) (by omega) (by decide)).mp q) (by omega)))
          refine lv_aload_n hx hb dX12_foretold_56 rfl (lv_at hl 1 rfl) ?_
          refine cVv (As := []) (rest := []) S Y (c_X12_pass (l := l) p_h p_a h0 h12) cw_X12_pass km12_357 p_h ok_X12.1 rfl rfl ⟨Nat.le_of_ble_eq_true rfl, Nat.le_of_ble_eq_true rfl⟩ hl.1 rfl (Nat.le_of_ble_eq_true rfl) ⟨Nat.le_of_ble_eq_true rfl, Nat.le_of_ble_eq_true rfl⟩ dX12_foretold_57 (fun L_1422 f_1423 H locs hf_1423 Y => ?_)
          obtain ⟨g__1424, kf_1423, z_z_1425, hp10_1426, hp11_1427, hp12_1428, hpo_1429⟩ := hf_1423
          have p_h := kf_1423.1 h _ (nmc (p_h.neA p_a) nm0) p_h
          have p_as_ := kf_1423.1 as_ _ (nmc (p_as_.neN p_a (by decide)) nm0) p_as_
          have p_a := z_z_1425
          refine lv_iload_n hx hb dX12_foretold_60 rfl (lv_at hl 4 rfl) ?_
          refine lv_iload_n hx hb dX12_foretold_61 rfl (lv_at hl 3 rfl) ?_
          refine lv_iconst (v := (-1)) hx hb dX12_foretold_62 (by decide) ?_
          refine lv_icmp_ne (tgt := 70) hx hb dX12_foretold_63 (by decide) (fun h => absurd c_1411 h) (fun _ => ?_)
          refine lv_iconst (v := 0) hx hb dX12_foretold_66 (by decide) ?_
          refine lv_goto (tgt := 76) hx hb dX12_foretold_67 (by decide) ?_
          refine lv_iadd hx hb dX12_foretold_76 ?_
          refine lv_topi (fun x_1430 ex_1430 => ?_)
          refine lv_istore_n (lv' := [(3, .int x_1430), (4, .int x), (0, .ref h), (1, .int n), (2, .int o)]) hx hb dX12_foretold_77 rfl hl (by decide) rfl (fun ls hl => ?_)
          obtain ⟨x_1431, ex_1431⟩ : ∃ z : Int32, z = x + 1 := ⟨_, rfl⟩
          refine lv_iinc (v := x_1431) (lv' := [(4, .int x_1431), (3, .int x_1430), (0, .ref h), (1, .int n), (2, .int o)]) hx hb dX12_foretold_78 hl (k := 1) rfl (by rw [ex_1431]; rfl) (by decide) rfl (fun ls hl => ?_)
          refine lv_goto (tgt := 34) hx hb dX12_foretold_81 (by decide) ?_
          have ex2 : x_1431 = nI (i + 1) := by rw [ex_1431, ex]; exact nI_1 i
          exact ih (i + 1) _ _ _ _ _ _ _ _ hin2 ex2 p_h p_a p_as_ ((hpo_1429 0 (by decide) (by decide) (by decide)).trans h0) (hp10_1426.trans (by rw [h10]; exact nI_1 i)) hp11_1427 hp12_1428 Y (lv_sub hl [0, 2, 3, 4, 1] rfl)
      exact loop j 0 _ _ _ _ _ _ _ 0 (Nat.zero_add j) rfl p_h p_a p_as_ (by decide) (by decide) (by decide) (by decide) Y (lv_sub hl [0, 2, 3, 4, 1] rfl)
    · refine lv_aload_n hx hb dX12_foretold_15 rfl (lv_at hl 0 rfl) ?_
      refine lv_iload_n hx hb dX12_foretold_16 rfl (lv_at hl 2 rfl) ?_
      refine cVp (As := [.int o]) (rest := []) S Y (c_X12_isOne (l := l) p_h p_a) cw_X12_isOne km12_323 p_h ok_X12.1 rfl rfl ⟨Nat.le_of_ble_eq_true rfl, Nat.le_of_ble_eq_true rfl⟩ hl.1 rfl (Nat.le_of_ble_eq_true rfl) ⟨Nat.le_of_ble_eq_true rfl, Nat.le_of_ble_eq_true rfl⟩ dX12_foretold_17 (fun r_1432 H locs er_1432 Y => ?_)
      refine lv_fold (z := 0) er_1432 ?_
      refine lv_if_ne (tgt := 25) hx hb dX12_foretold_20 (by decide) (fun h => absurd (by decide) h) (fun _ => ?_)
      refine lv_iconst (v := (-1)) hx hb dX12_foretold_23 (by decide) ?_
      exact prI (post := fun r L1 f1 => r = foreF n o) S Y rfl (by decide) (by decide) hA1 (by rw [foreF, if_neg c_1410, if_neg c_1411]) dX12_foretold_24
