theorem dX12_anew_0 : decode cX12_anew 0 = .ok (.aload_n 0, 1) := by decide +kernel
theorem dX12_anew_1 : decode cX12_anew 1 = .ok (.getfield 7, 3) := by decide +kernel
theorem dX12_anew_4 : decode cX12_anew 4 = .ok (.bipush 12, 2) := by decide +kernel
theorem dX12_anew_6 : decode cX12_anew 6 = .ok (.aload_n 0, 1) := by decide +kernel
theorem dX12_anew_7 : decode cX12_anew 7 = .ok (.getfield 7, 3) := by decide +kernel
theorem dX12_anew_10 : decode cX12_anew 10 = .ok (.bipush 12, 2) := by decide +kernel
theorem dX12_anew_12 : decode cX12_anew 12 = .ok (.iaload, 1) := by decide +kernel
theorem dX12_anew_13 : decode cX12_anew 13 = .ok (.i2l, 1) := by decide +kernel
theorem dX12_anew_14 : decode cX12_anew 14 = .ok (.ldc2_w 311, 3) := by decide +kernel
theorem kl12_311 : inW (Cond.constantLong RX12 311 (367)) := ⟨List.mem_of_getElem? (i := 1929) (by decide +kernel), by decide +kernel⟩
theorem dX12_anew_17 : decode cX12_anew 17 = .ok (.lmul, 1) := by decide +kernel
theorem dX12_anew_18 : decode cX12_anew 18 = .ok (.ldc2_w 313, 3) := by decide +kernel
theorem kl12_313 : inW (Cond.constantLong RX12 313 (241)) := ⟨List.mem_of_getElem? (i := 1930) (by decide +kernel), by decide +kernel⟩
theorem dX12_anew_21 : decode cX12_anew 21 = .ok (.ladd, 1) := by decide +kernel
theorem dX12_anew_22 : decode cX12_anew 22 = .ok (.ldc2_w 315, 3) := by decide +kernel
theorem kl12_315 : inW (Cond.constantLong RX12 315 (30449)) := ⟨List.mem_of_getElem? (i := 1931) (by decide +kernel), by decide +kernel⟩
theorem dX12_anew_25 : decode cX12_anew 25 = .ok (.lrem, 1) := by decide +kernel
theorem dX12_anew_26 : decode cX12_anew 26 = .ok (.l2i, 1) := by decide +kernel
theorem dX12_anew_27 : decode cX12_anew 27 = .ok (.iastore, 1) := by decide +kernel
theorem dX12_anew_28 : decode cX12_anew 28 = .ok (.return_, 1) := by decide +kernel
theorem dX12_pass_0 : decode cX12_pass 0 = .ok (.iconst 0, 1) := by decide +kernel
theorem dX12_pass_1 : decode cX12_pass 1 = .ok (.istore_n 1, 1) := by decide +kernel
theorem dX12_pass_2 : decode cX12_pass 2 = .ok (.iload_n 1, 1) := by decide +kernel
theorem dX12_pass_3 : decode cX12_pass 3 = .ok (.aload_n 0, 1) := by decide +kernel
theorem dX12_pass_4 : decode cX12_pass 4 = .ok (.getfield 7, 3) := by decide +kernel
theorem dX12_pass_7 : decode cX12_pass 7 = .ok (.iconst 0, 1) := by decide +kernel
theorem dX12_pass_8 : decode cX12_pass 8 = .ok (.iaload, 1) := by decide +kernel
theorem dX12_pass_9 : decode cX12_pass 9 = .ok (.if_icmp .ge 93, 3) := by decide +kernel
theorem dX12_pass_102 : decode cX12_pass 102 = .ok (.aload_n 0, 1) := by decide +kernel
theorem dX12_pass_103 : decode cX12_pass 103 = .ok (.getfield 7, 3) := by decide +kernel
theorem dX12_pass_106 : decode cX12_pass 106 = .ok (.bipush 10, 2) := by decide +kernel
theorem dX12_pass_108 : decode cX12_pass 108 = .ok (.dup2, 1) := by decide +kernel
theorem dX12_pass_109 : decode cX12_pass 109 = .ok (.iaload, 1) := by decide +kernel
theorem dX12_pass_110 : decode cX12_pass 110 = .ok (.iconst 1, 1) := by decide +kernel
theorem dX12_pass_111 : decode cX12_pass 111 = .ok (.iadd, 1) := by decide +kernel
theorem dX12_pass_112 : decode cX12_pass 112 = .ok (.iastore, 1) := by decide +kernel
theorem dX12_pass_113 : decode cX12_pass 113 = .ok (.aload_n 0, 1) := by decide +kernel
theorem dX12_pass_114 : decode cX12_pass 114 = .ok (.getfield 7, 3) := by decide +kernel
theorem dX12_pass_117 : decode cX12_pass 117 = .ok (.bipush 11, 2) := by decide +kernel
theorem dX12_pass_119 : decode cX12_pass 119 = .ok (.aload_n 0, 1) := by decide +kernel
theorem dX12_pass_120 : decode cX12_pass 120 = .ok (.getfield 7, 3) := by decide +kernel
theorem dX12_pass_123 : decode cX12_pass 123 = .ok (.bipush 12, 2) := by decide +kernel
theorem dX12_pass_125 : decode cX12_pass 125 = .ok (.iaload, 1) := by decide +kernel
theorem dX12_pass_126 : decode cX12_pass 126 = .ok (.bipush 10, 2) := by decide +kernel
theorem dX12_pass_128 : decode cX12_pass 128 = .ok (.irem, 1) := by decide +kernel
theorem dX12_pass_129 : decode cX12_pass 129 = .ok (.iastore, 1) := by decide +kernel
theorem dX12_pass_130 : decode cX12_pass 130 = .ok (.aload_n 0, 1) := by decide +kernel
theorem dX12_pass_131 : decode cX12_pass 131 = .ok (.invokevirtual 320, 3) := by decide +kernel
theorem cw_X12_anew : CWv yX12_anew cX12_anew 1 none 0 := ⟨⟨⟨List.mem_of_getElem? (i := 137) (by decide +kernel), by decide +kernel⟩, ⟨List.mem_of_getElem? (i := 1928) (by decide +kernel), by decide +kernel⟩, by decide +kernel⟩, ⟨List.mem_of_getElem? (i := 1927) (by decide +kernel), by decide +kernel⟩, ⟨List.mem_of_getElem? (i := 103) (by decide +kernel), by decide +kernel⟩⟩
theorem km12_320 : inW (Cond.methodLink RX12 320 yX12_anew) := ⟨List.mem_of_getElem? (i := 1925) (by decide +kernel), by decide +kernel⟩
theorem dX12_pass_134 : decode cX12_pass 134 = .ok (.return_, 1) := by decide +kernel
theorem dX12_keep_56 : decode cX12_keep 56 = .ok (.sipush 208, 3) := by decide +kernel
theorem dX12_keep_59 : decode cX12_keep 59 = .ok (.bipush 104, 2) := by decide +kernel
theorem dX12_keep_61 : decode cX12_keep 61 = .ok (.aload_n 0, 1) := by decide +kernel
theorem dX12_keep_62 : decode cX12_keep 62 = .ok (.getfield 7, 3) := by decide +kernel
theorem dX12_keep_65 : decode cX12_keep 65 = .ok (.iconst 3, 1) := by decide +kernel
theorem dX12_keep_66 : decode cX12_keep 66 = .ok (.iaload, 1) := by decide +kernel
theorem dX12_keep_67 : decode cX12_keep 67 = .ok (.imul, 1) := by decide +kernel
theorem dX12_keep_68 : decode cX12_keep 68 = .ok (.iadd, 1) := by decide +kernel
theorem dX12_keep_69 : decode cX12_keep 69 = .ok (.istore_n 1, 1) := by decide +kernel
theorem dX12_keep_70 : decode cX12_keep 70 = .ok (.iconst 0, 1) := by decide +kernel
theorem dX12_keep_71 : decode cX12_keep 71 = .ok (.istore_n 2, 1) := by decide +kernel
theorem dX12_keep_72 : decode cX12_keep 72 = .ok (.iload_n 2, 1) := by decide +kernel
theorem dX12_keep_73 : decode cX12_keep 73 = .ok (.bipush 104, 2) := by decide +kernel
theorem dX12_keep_75 : decode cX12_keep 75 = .ok (.if_icmp .ge 26, 3) := by decide +kernel
theorem dX12_keep_101 : decode cX12_keep 101 = .ok (.aload_n 0, 1) := by decide +kernel
theorem dX12_keep_102 : decode cX12_keep 102 = .ok (.getfield 7, 3) := by decide +kernel
theorem dX12_keep_105 : decode cX12_keep 105 = .ok (.iconst 3, 1) := by decide +kernel
theorem dX12_keep_106 : decode cX12_keep 106 = .ok (.dup2, 1) := by decide +kernel
theorem dX12_keep_107 : decode cX12_keep 107 = .ok (.iaload, 1) := by decide +kernel
theorem dX12_keep_108 : decode cX12_keep 108 = .ok (.iconst 1, 1) := by decide +kernel
theorem dX12_keep_109 : decode cX12_keep 109 = .ok (.iadd, 1) := by decide +kernel
theorem dX12_keep_110 : decode cX12_keep 110 = .ok (.iastore, 1) := by decide +kernel
theorem dX12_keep_111 : decode cX12_keep 111 = .ok (.return_, 1) := by decide +kernel
theorem dX12_keep_78 : decode cX12_keep 78 = .ok (.aload_n 0, 1) := by decide +kernel
theorem dX12_keep_79 : decode cX12_keep 79 = .ok (.getfield 7, 3) := by decide +kernel
theorem dX12_keep_82 : decode cX12_keep 82 = .ok (.iload_n 1, 1) := by decide +kernel
theorem dX12_keep_83 : decode cX12_keep 83 = .ok (.iload_n 2, 1) := by decide +kernel
theorem dX12_keep_84 : decode cX12_keep 84 = .ok (.iadd, 1) := by decide +kernel
theorem dX12_keep_85 : decode cX12_keep 85 = .ok (.aload_n 0, 1) := by decide +kernel
theorem dX12_keep_86 : decode cX12_keep 86 = .ok (.getfield 7, 3) := by decide +kernel
theorem dX12_keep_89 : decode cX12_keep 89 = .ok (.bipush 10, 2) := by decide +kernel
theorem dX12_keep_91 : decode cX12_keep 91 = .ok (.iload_n 2, 1) := by decide +kernel
theorem dX12_keep_92 : decode cX12_keep 92 = .ok (.iadd, 1) := by decide +kernel
theorem dX12_keep_93 : decode cX12_keep 93 = .ok (.iaload, 1) := by decide +kernel
theorem dX12_keep_94 : decode cX12_keep 94 = .ok (.iastore, 1) := by decide +kernel
theorem dX12_keep_95 : decode cX12_keep 95 = .ok (.iinc 2 1, 3) := by decide +kernel
theorem dX12_keep_98 : decode cX12_keep 98 = .ok (.goto (-26), 3) := by decide +kernel
theorem dX12_keep_0 : decode cX12_keep 0 = .ok (.aload_n 0, 1) := by decide +kernel
theorem dX12_keep_1 : decode cX12_keep 1 = .ok (.getfield 7, 3) := by decide +kernel
theorem dX12_keep_4 : decode cX12_keep 4 = .ok (.iconst 3, 1) := by decide +kernel
theorem dX12_keep_5 : decode cX12_keep 5 = .ok (.iaload, 1) := by decide +kernel
theorem dX12_keep_6 : decode cX12_keep 6 = .ok (.bipush 30, 2) := by decide +kernel
theorem dX12_keep_8 : decode cX12_keep 8 = .ok (.if_icmp .ne 48, 3) := by decide +kernel
theorem dX12_keep_11 : decode cX12_keep 11 = .ok (.iconst 0, 1) := by decide +kernel
theorem dX12_keep_12 : decode cX12_keep 12 = .ok (.istore_n 1, 1) := by decide +kernel
theorem dX12_keep_13 : decode cX12_keep 13 = .ok (.iload_n 1, 1) := by decide +kernel
theorem dX12_keep_14 : decode cX12_keep 14 = .ok (.sipush 3016, 3) := by decide +kernel
theorem dX12_keep_17 : decode cX12_keep 17 = .ok (.if_icmp .ge 29, 3) := by decide +kernel
theorem dX12_keep_46 : decode cX12_keep 46 = .ok (.aload_n 0, 1) := by decide +kernel
theorem dX12_keep_47 : decode cX12_keep 47 = .ok (.getfield 7, 3) := by decide +kernel
theorem dX12_keep_50 : decode cX12_keep 50 = .ok (.iconst 3, 1) := by decide +kernel
theorem dX12_keep_51 : decode cX12_keep 51 = .ok (.dup2, 1) := by decide +kernel
theorem dX12_keep_52 : decode cX12_keep 52 = .ok (.iaload, 1) := by decide +kernel
theorem dX12_keep_53 : decode cX12_keep 53 = .ok (.iconst 1, 1) := by decide +kernel
theorem dX12_keep_54 : decode cX12_keep 54 = .ok (.isub, 1) := by decide +kernel
theorem dX12_keep_55 : decode cX12_keep 55 = .ok (.iastore, 1) := by decide +kernel
theorem dX12_keep_20 : decode cX12_keep 20 = .ok (.aload_n 0, 1) := by decide +kernel
theorem dX12_keep_21 : decode cX12_keep 21 = .ok (.getfield 7, 3) := by decide +kernel
theorem dX12_keep_24 : decode cX12_keep 24 = .ok (.sipush 208, 3) := by decide +kernel
theorem dX12_keep_27 : decode cX12_keep 27 = .ok (.iload_n 1, 1) := by decide +kernel
theorem dX12_keep_28 : decode cX12_keep 28 = .ok (.iadd, 1) := by decide +kernel
theorem dX12_keep_29 : decode cX12_keep 29 = .ok (.aload_n 0, 1) := by decide +kernel
theorem dX12_keep_30 : decode cX12_keep 30 = .ok (.getfield 7, 3) := by decide +kernel
theorem dX12_keep_33 : decode cX12_keep 33 = .ok (.sipush 312, 3) := by decide +kernel
theorem dX12_keep_36 : decode cX12_keep 36 = .ok (.iload_n 1, 1) := by decide +kernel
theorem dX12_keep_37 : decode cX12_keep 37 = .ok (.iadd, 1) := by decide +kernel
theorem dX12_keep_38 : decode cX12_keep 38 = .ok (.iaload, 1) := by decide +kernel
theorem dX12_keep_39 : decode cX12_keep 39 = .ok (.iastore, 1) := by decide +kernel
theorem dX12_keep_40 : decode cX12_keep 40 = .ok (.iinc 1 1, 3) := by decide +kernel
theorem dX12_keep_43 : decode cX12_keep 43 = .ok (.goto (-30), 3) := by decide +kernel
theorem dX12_arePassed_0 : decode cX12_arePassed 0 = .ok (.iconst 0, 1) := by decide +kernel
theorem dX12_arePassed_1 : decode cX12_arePassed 1 = .ok (.istore_n 2, 1) := by decide +kernel
theorem dX12_arePassed_2 : decode cX12_arePassed 2 = .ok (.iload_n 2, 1) := by decide +kernel
theorem dX12_arePassed_3 : decode cX12_arePassed 3 = .ok (.iload_n 1, 1) := by decide +kernel
theorem dX12_arePassed_4 : decode cX12_arePassed 4 = .ok (.if_icmp .ge 32, 3) := by decide +kernel
theorem dX12_arePassed_36 : decode cX12_arePassed 36 = .ok (.iconst 1, 1) := by decide +kernel
theorem dX12_arePassed_37 : decode cX12_arePassed 37 = .ok (.ireturn, 1) := by decide +kernel
theorem dX12_arePassed_7 : decode cX12_arePassed 7 = .ok (.aload_n 0, 1) := by decide +kernel
theorem dX12_arePassed_8 : decode cX12_arePassed 8 = .ok (.getfield 7, 3) := by decide +kernel
theorem dX12_arePassed_11 : decode cX12_arePassed 11 = .ok (.bipush 10, 2) := by decide +kernel
theorem dX12_arePassed_13 : decode cX12_arePassed 13 = .ok (.iaload, 1) := by decide +kernel
theorem dX12_arePassed_14 : decode cX12_arePassed 14 = .ok (.sipush 9999, 3) := by decide +kernel
theorem dX12_arePassed_17 : decode cX12_arePassed 17 = .ok (.if_icmp .ne 5, 3) := by decide +kernel
theorem dX12_arePassed_22 : decode cX12_arePassed 22 = .ok (.aload_n 0, 1) := by decide +kernel
theorem dX12_arePassed_23 : decode cX12_arePassed 23 = .ok (.invokevirtual 333, 3) := by decide +kernel
theorem cw_X12_keep : CWv yX12_keep cX12_keep 3 none 0 := ⟨⟨⟨List.mem_of_getElem? (i := 137) (by decide +kernel), by decide +kernel⟩, ⟨List.mem_of_getElem? (i := 1792) (by decide +kernel), by decide +kernel⟩, by decide +kernel⟩, ⟨List.mem_of_getElem? (i := 1791) (by decide +kernel), by decide +kernel⟩, ⟨List.mem_of_getElem? (i := 80) (by decide +kernel), by decide +kernel⟩⟩
theorem km12_333 : inW (Cond.methodLink RX12 333 yX12_keep) := ⟨List.mem_of_getElem? (i := 1789) (by decide +kernel), by decide +kernel⟩
theorem dX12_arePassed_26 : decode cX12_arePassed 26 = .ok (.aload_n 0, 1) := by decide +kernel
theorem dX12_arePassed_27 : decode cX12_arePassed 27 = .ok (.invokevirtual 357, 3) := by decide +kernel
theorem cw_X12_pass : CWv yX12_pass cX12_pass 2 none 0 := ⟨⟨⟨List.mem_of_getElem? (i := 137) (by decide +kernel), by decide +kernel⟩, ⟨List.mem_of_getElem? (i := 1916) (by decide +kernel), by decide +kernel⟩, by decide +kernel⟩, ⟨List.mem_of_getElem? (i := 1915) (by decide +kernel), by decide +kernel⟩, ⟨List.mem_of_getElem? (i := 100) (by decide +kernel), by decide +kernel⟩⟩
theorem km12_357 : inW (Cond.methodLink RX12 357 yX12_pass) := ⟨List.mem_of_getElem? (i := 1913) (by decide +kernel), by decide +kernel⟩
theorem dX12_arePassed_30 : decode cX12_arePassed 30 = .ok (.iinc 2 1, 3) := by decide +kernel
theorem dX12_arePassed_33 : decode cX12_arePassed 33 = .ok (.goto (-31), 3) := by decide +kernel
theorem dX12_day_0 : decode cX12_day 0 = .ok (.iload_n 1, 1) := by decide +kernel
theorem dX12_day_1 : decode cX12_day 1 = .ok (.iconst 1, 1) := by decide +kernel
theorem dX12_day_2 : decode cX12_day 2 = .ok (.bipush 60, 2) := by decide +kernel
theorem dX12_day_4 : decode cX12_day 4 = .ok (.invokestatic 69, 3) := by decide +kernel
theorem dX12_day_7 : decode cX12_day 7 = .ok (.ifCond .eq 36, 3) := by decide +kernel
theorem dX12_day_43 : decode cX12_day 43 = .ok (.iconst (-1), 1) := by decide +kernel
theorem dX12_day_44 : decode cX12_day 44 = .ok (.ireturn, 1) := by decide +kernel
theorem dX12_day_10 : decode cX12_day 10 = .ok (.aload_n 0, 1) := by decide +kernel
theorem dX12_day_11 : decode cX12_day 11 = .ok (.getfield 7, 3) := by decide +kernel
theorem dX12_day_14 : decode cX12_day 14 = .ok (.bipush 10, 2) := by decide +kernel
theorem dX12_day_16 : decode cX12_day 16 = .ok (.iaload, 1) := by decide +kernel
theorem dX12_day_17 : decode cX12_day 17 = .ok (.iload_n 1, 1) := by decide +kernel
theorem dX12_day_18 : decode cX12_day 18 = .ok (.iadd, 1) := by decide +kernel
theorem dX12_day_19 : decode cX12_day 19 = .ok (.sipush 9999, 3) := by decide +kernel
theorem dX12_day_22 : decode cX12_day 22 = .ok (.if_icmp .gt 21, 3) := by decide +kernel
theorem dX12_day_25 : decode cX12_day 25 = .ok (.aload_n 0, 1) := by decide +kernel
theorem dX12_day_26 : decode cX12_day 26 = .ok (.iload_n 1, 1) := by decide +kernel
theorem dX12_day_27 : decode cX12_day 27 = .ok (.invokevirtual 360, 3) := by decide +kernel
theorem cw_X12_arePassed : CWv yX12_arePassed cX12_arePassed 3 (some .boolean) 1 := ⟨⟨⟨List.mem_of_getElem? (i := 137) (by decide +kernel), by decide +kernel⟩, ⟨List.mem_of_getElem? (i := 1912) (by decide +kernel), by decide +kernel⟩, by decide +kernel⟩, ⟨List.mem_of_getElem? (i := 1911) (by decide +kernel), by decide +kernel⟩, ⟨List.mem_of_getElem? (i := 99) (by decide +kernel), by decide +kernel⟩⟩
theorem km12_360 : inW (Cond.methodLink RX12 360 yX12_arePassed) := ⟨List.mem_of_getElem? (i := 1909) (by decide +kernel), by decide +kernel⟩
theorem dX12_day_30 : decode cX12_day 30 = .ok (.ifCond .eq 13, 3) := by decide +kernel
theorem dX12_day_33 : decode cX12_day 33 = .ok (.aload_n 0, 1) := by decide +kernel
theorem dX12_day_34 : decode cX12_day 34 = .ok (.getfield 7, 3) := by decide +kernel
theorem dX12_day_37 : decode cX12_day 37 = .ok (.bipush 11, 2) := by decide +kernel
theorem dX12_day_39 : decode cX12_day 39 = .ok (.iaload, 1) := by decide +kernel
theorem dX12_day_40 : decode cX12_day 40 = .ok (.goto 4, 3) := by decide +kernel
set_option maxHeartbeats 4000000 in
set_option maxRecDepth 100000 in
theorem c_X12_anew {l : Launch} {G : GG} {L : List Nat} {f : HF} {h a im te tp pi co na vl tr ac as_ su wi_ se : Nat} {iw : Int32} {g : Nat → Int32} {k : Nat} (p_h : pt L f h (.inr (12, [.ref a, .ref im, .ref te, .ref tp, .int 0, .int (-1), .int (-1), .int 0, .int 0, .int 0, .int 0, .long 0, .int 0, .int 0, .int 0, .ref pi, .ref co, .int 0, .int 0, .int 0, .int 0, .int 0, .ref na, .ref vl, .ref tr, .int iw, .ref ac, .ref as_, .ref su, .ref wi_, .int 0, .ref se]))) (p_a : pt L f a (.inl (G.2 0, 10568, .inl g))) (hxx : g 12 = nI (XN k)) : PMv l yX12_anew cX12_anew 1 0 0 0 G [.ref h] L f (fun L1 f1 => ∃ g1 : Nat → Int32, kp L f L1 f1 [a] ∧ pt L1 f1 a (.inl (G.2 0, 10568, .inl g1)) ∧ g1 12 = nI (XN (k + 1)) ∧ ∀ j, j ≠ 12 → g1 j = g j) := by
  refine PMv.of (post := fun L1 f1 => ∃ g1 : Nat → Int32, kp L f L1 f1 [a] ∧ pt L1 f1 a (.inl (G.2 0, 10568, .inl g1)) ∧ g1 12 = nI (XN (k + 1)) ∧ ∀ j, j ≠ 12 → g1 j = g j) (own := RX12) (by decide) rfl (Nat.le_of_ble_eq_true rfl) (fun sz p e s m args below meth c A ls hA1 hname S Y hl => ?_)
  have hx := S.hx
  have hb := S.hb
  have hl : lv_has ls 1 [(0, .ref h)] := hl
  have hk : kp L f L f [a] := kp.rf
  refine lv_aload_n hx hb dX12_anew_0 rfl (lv_at hl 0 rfl) ?_
  refine pg_get S Y ok_X12 0 (by decide) kf12_7 (v := .ref a) p_h rfl dX12_anew_1 ?_
  refine lv_bipush (v := 12) hx hb dX12_anew_4 (by decide) ?_
  refine lv_aload_n hx hb dX12_anew_6 rfl (lv_at hl 0 rfl) ?_
  refine pg_get S Y ok_X12 0 (by decide) kf12_7 (v := .ref a) p_h rfl dX12_anew_7 ?_
  refine lv_bipush (v := 12) hx hb dX12_anew_10 (by decide) ?_
  refine pg_iald S Y (v := (g 12)) p_a (by unfold vp_in; decide) rfl dX12_anew_12 ?_
  refine lv_i2l hx hb dX12_anew_13 rfl ?_
  refine lv_topl (fun x_1277 ex_1277 => ?_)
  refine lv_ldc2 (v := 367) hx hb S.ow (S.w kl12_311) dX12_anew_14 ?_
  refine lv_lmul hx hb dX12_anew_17 ?_
  refine lv_topl (fun x_1278 ex_1278 => ?_)
  refine lv_ldc2 (v := 241) hx hb S.ow (S.w kl12_313) dX12_anew_18 ?_
  refine lv_ladd hx hb dX12_anew_21 ?_
  refine lv_topl (fun x_1279 ex_1279 => ?_)
  refine lv_ldc2 (v := 30449) hx hb S.ow (S.w kl12_315) dX12_anew_22 ?_
  refine lv_lrem hx hb dX12_anew_25 (by decide) ?_
  refine lv_topl (fun x_1280 ex_1280 => ?_)
  refine lv_l2i hx hb dX12_anew_26 rfl ?_
  refine lv_topi (fun x_1281 ex_1281 => ?_)
  refine pg_iast S Y p_a (by unfold vp_in; decide) dX12_anew_27 (fun f_1283 H locs ef_1283 Y => ?_)
  obtain ⟨g_1282, eg_1282⟩ : ∃ z, z = upd (g) (12 : Int32).toNatClampNeg x_1281 := ⟨_, rfl⟩
  rw [← eg_1282] at ef_1283
  have p_h := p_h.up ef_1283 ((p_h.neA p_a))
  have p_a := p_a.me ef_1283
  have hk := hk.up ef_1283 (by simp)
  exact prV (post := fun L1 f1 => ∃ g1 : Nat → Int32, kp L f L1 f1 [a] ∧ pt L1 f1 a (.inl (G.2 0, 10568, .inl g1)) ∧ g1 12 = nI (XN (k + 1)) ∧ ∀ j, j ≠ 12 → g1 j = g j) S Y (by decide) (by decide) hA1 ⟨g_1282, hk, p_a, (((congrFun eg_1282 12).trans pk_us).trans (by rw [ex_1281, ex_1280, ex_1279, ex_1278, ex_1277, hxx]; exact stepXl k)), (fun j hj => (congrFun eg_1282 j).trans (pk_un hj))⟩ dX12_anew_28
set_option maxHeartbeats 4000000 in
set_option maxRecDepth 100000 in
theorem c_X12_pass {l : Launch} {G : GG} {L : List Nat} {f : HF} {h a im te tp pi co na vl tr ac as_ su wi_ se : Nat} {iw : Int32} {g : Nat → Int32} {k : Nat} (p_h : pt L f h (.inr (12, [.ref a, .ref im, .ref te, .ref tp, .int 0, .int (-1), .int (-1), .int 0, .int 0, .int 0, .int 0, .long 0, .int 0, .int 0, .int 0, .ref pi, .ref co, .int 0, .int 0, .int 0, .int 0, .int 0, .ref na, .ref vl, .ref tr, .int iw, .ref ac, .ref as_, .ref su, .ref wi_, .int 0, .ref se]))) (p_a : pt L f a (.inl (G.2 0, 10568, .inl g))) (h0 : g 0 = 0) (hxx : g 12 = nI (XN k)) : PMv l yX12_pass cX12_pass 2 1 0 0 G [.ref h] L f (fun L1 f1 => ∃ g1 : Nat → Int32, kp L f L1 f1 [a] ∧ pt L1 f1 a (.inl (G.2 0, 10568, .inl g1)) ∧ g1 10 = g 10 + 1 ∧ g1 11 = nI (RN_ (k + 1)) ∧ g1 12 = nI (XN (k + 1)) ∧ ∀ j, j ≠ 10 → j ≠ 11 → j ≠ 12 → g1 j = g j) := by
  refine PMv.of (post := fun L1 f1 => ∃ g1 : Nat → Int32, kp L f L1 f1 [a] ∧ pt L1 f1 a (.inl (G.2 0, 10568, .inl g1)) ∧ g1 10 = g 10 + 1 ∧ g1 11 = nI (RN_ (k + 1)) ∧ g1 12 = nI (XN (k + 1)) ∧ ∀ j, j ≠ 10 → j ≠ 11 → j ≠ 12 → g1 j = g j) (own := RX12) (by decide) rfl (Nat.le_of_ble_eq_true rfl) (fun sz p e s m args below meth c A ls hA1 hname S Y hl => ?_)
  have hx := S.hx
  have hb := S.hb
  have hl : lv_has ls 2 [(0, .ref h)] := hl
  have hk : kp L f L f [a] := kp.rf
  refine lv_iconst (v := 0) hx hb dX12_pass_0 (by decide) ?_
  refine lv_istore_n (lv' := [(1, .int 0), (0, .ref h)]) hx hb dX12_pass_1 rfl hl (by decide) rfl (fun ls hl => ?_)
  refine lv_iload_n hx hb dX12_pass_2 rfl (lv_at hl 0 rfl) ?_
  refine lv_aload_n hx hb dX12_pass_3 rfl (lv_at hl 1 rfl) ?_
  refine pg_get S Y ok_X12 0 (by decide) kf12_7 (v := .ref a) p_h rfl dX12_pass_4 ?_
  refine lv_iconst (v := 0) hx hb dX12_pass_7 (by decide) ?_
  refine pg_iald S Y (v := 0) p_a (by unfold vp_in; decide) h0 dX12_pass_8 ?_
  refine lv_icmp_ge (tgt := 102) hx hb dX12_pass_9 (by decide) (fun _ => ?_) (fun h => absurd (by decide) h)
  refine lv_aload_n hx hb dX12_pass_102 rfl (lv_at hl 1 rfl) ?_
  refine pg_get S Y ok_X12 0 (by decide) kf12_7 (v := .ref a) p_h rfl dX12_pass_103 ?_
  refine lv_bipush (v := 10) hx hb dX12_pass_106 (by decide) ?_
  refine lv_dup2_11 hx hb dX12_pass_108 rfl rfl ?_
  refine pg_iald S Y (v := (g 10)) p_a (by unfold vp_in; decide) rfl dX12_pass_109 ?_
  refine lv_iconst (v := 1) hx hb dX12_pass_110 (by decide) ?_
  refine lv_iadd hx hb dX12_pass_111 ?_
  refine lv_topi (fun x_1284 ex_1284 => ?_)
  refine pg_iast S Y p_a (by unfold vp_in; decide) dX12_pass_112 (fun f_1286 H locs ef_1286 Y => ?_)
  obtain ⟨g_1285, eg_1285⟩ : ∃ z, z = upd (g) (10 : Int32).toNatClampNeg x_1284 := ⟨_, rfl⟩
  rw [← eg_1285] at ef_1286
  have p_h := p_h.up ef_1286 ((p_h.neA p_a))
  have p_a := p_a.me ef_1286
  have hk := hk.up ef_1286 (by simp)
  refine lv_aload_n hx hb dX12_pass_113 rfl (lv_at hl 1 rfl) ?_
  refine pg_get S Y ok_X12 0 (by decide) kf12_7 (v := .ref a) p_h rfl dX12_pass_114 ?_
  refine lv_bipush (v := 11) hx hb dX12_pass_117 (by decide) ?_
  refine lv_aload_n hx hb dX12_pass_119 rfl (lv_at hl 1 rfl) ?_
  refine pg_get S Y ok_X12 0 (by decide) kf12_7 (v := .ref a) p_h rfl dX12_pass_120 ?_
  refine lv_bipush (v := 12) hx hb dX12_pass_123 (by decide) ?_
  refine pg_iald S Y (v := (g 12)) p_a (by unfold vp_in; decide) ((congrFun eg_1285 _).trans ((pk_un (by decide)).trans rfl)) dX12_pass_125 ?_
  refine lv_bipush (v := 10) hx hb dX12_pass_126 (by decide) ?_
  refine lv_irem hx hb dX12_pass_128 (by decide) ?_
  refine lv_topi (fun x_1287 ex_1287 => ?_)
  refine pg_iast S Y p_a (by unfold vp_in; decide) dX12_pass_129 (fun f_1289 H locs ef_1289 Y => ?_)
  obtain ⟨g_1288, eg_1288⟩ : ∃ z, z = upd (g_1285) (11 : Int32).toNatClampNeg x_1287 := ⟨_, rfl⟩
  rw [← eg_1288] at ef_1289
  have p_h := p_h.up ef_1289 ((p_h.neA p_a))
  have p_a := p_a.me ef_1289
  have hk := hk.up ef_1289 (by simp)
  refine lv_aload_n hx hb dX12_pass_130 rfl (lv_at hl 1 rfl) ?_
  refine cVv (As := []) (rest := []) S Y (c_X12_anew (l := l) p_h p_a (((congrFun eg_1288 _).trans ((pk_un (by decide)).trans ((congrFun eg_1285 _).trans ((pk_un (by decide)).trans rfl)))).trans hxx)) cw_X12_anew km12_320 p_h ok_X12.1 rfl rfl ⟨Nat.le_of_ble_eq_true rfl, Nat.le_of_ble_eq_true rfl⟩ hl.1 rfl (Nat.le_of_ble_eq_true rfl) ⟨Nat.le_of_ble_eq_true rfl, Nat.le_of_ble_eq_true rfl⟩ dX12_pass_131 (fun L_1290 f_1291 H locs hf_1291 Y => ?_)
  obtain ⟨g__1292, kf_1291, z_z_1293, ha12_1294, hao_1295⟩ := hf_1291
  have p_h := kf_1291.1 h _ (nmc (p_h.neA p_a) nm0) p_h
  have p_a := z_z_1293
  have hk := hk.call kf_1291 (fun b hb hp => (nmc (fun q => hb (by simp [q])) nm0))
  exact prV (post := fun L1 f1 => ∃ g1 : Nat → Int32, kp L f L1 f1 [a] ∧ pt L1 f1 a (.inl (G.2 0, 10568, .inl g1)) ∧ g1 10 = g 10 + 1 ∧ g1 11 = nI (RN_ (k + 1)) ∧ g1 12 = nI (XN (k + 1)) ∧ ∀ j, j ≠ 10 → j ≠ 11 → j ≠ 12 → g1 j = g j) S Y (by decide) (by decide) hA1 ⟨g__1292, hk, p_a, (((hao_1295 10 (by decide)).trans ((congrFun eg_1288 _).trans ((pk_un (by decide)).trans ((congrFun eg_1285 _).trans pk_us)))).trans ex_1284), (((hao_1295 11 (by decide)).trans ((congrFun eg_1288 _).trans pk_us)).trans (by rw [ex_1287, hxx]; exact rainI k)), ha12_1294, (fun j a1 a2 a3 => (hao_1295 j a3).trans ((congrFun eg_1288 j).trans ((pk_un a2).trans ((congrFun eg_1285 j).trans (pk_un a1)))))⟩ dX12_pass_134
set_option maxHeartbeats 4000000 in
set_option maxRecDepth 100000 in
theorem c_X12_keep {l : Launch} {G : GG} {L : List Nat} {f : HF} {h a im te tp pi co na vl tr ac as_ su wi_ se : Nat} {g : Nat → Int32} {c0 : Nat} (p_h : pt L f h (.inr (12, [.ref a, .ref im, .ref te, .ref tp, .int 0, .int (-1), .int (-1), .int 0, .int 0, .int 0, .int 0, .long 0, .int 0, .int 0, .int 0, .ref pi, .ref co, .int 0, .int 0, .int 0, .int 0, .int 0, .ref na, .ref vl, .ref tr, .int 1, .ref ac, .ref as_, .ref su, .ref wi_, .int 0, .ref se]))) (p_a : pt L f a (.inl (G.2 0, 10568, .inl g))) (h3 : g 3 = nI c0) (hc : c0 ≤ 30) : PMv l yX12_keep cX12_keep 3 0 0 0 G [.ref h] L f (fun L1 f1 => ∃ g1 : Nat → Int32, kp L f L1 f1 [a] ∧ pt L1 f1 a (.inl (G.2 0, 10568, .inl g1)) ∧ (∀ k, k < 208 → k ≠ 3 → g1 k = g k) ∧ ∃ d : Nat, d ≤ 30 ∧ g1 3 = nI d) := by
  refine PMv.of (post := fun L1 f1 => ∃ g1 : Nat → Int32, kp L f L1 f1 [a] ∧ pt L1 f1 a (.inl (G.2 0, 10568, .inl g1)) ∧ (∀ k, k < 208 → k ≠ 3 → g1 k = g k) ∧ ∃ d : Nat, d ≤ 30 ∧ g1 3 = nI d) (own := RX12) (by decide) rfl (Nat.le_of_ble_eq_true rfl) (fun sz p e s m args below meth c A ls hA1 hname S Y hl => ?_)
  have hx := S.hx
  have hb := S.hb
  have hl : lv_has ls 3 [(0, .ref h)] := hl
  have hk : kp L f L f [a] := kp.rf
  have tail : ∀ (f2 : HF) (g2 : Nat → Int32) (d : Nat) (H : Heap) (locs : List Loc) (ls : Array Slot), d ≤ 29 → kp L f L f2 [a] → pt L f2 h (.inr (12, [.ref a, .ref im, .ref te, .ref tp, .int 0, .int (-1), .int (-1), .int 0, .int 0, .int 0, .int 0, .long 0, .int 0, .int 0, .int 0, .ref pi, .ref co, .int 0, .int 0, .int 0, .int 0, .int 0, .ref na, .ref vl, .ref tr, .int 1, .ref ac, .ref as_, .ref su, .ref wi_, .int 0, .ref se])) → pt L f2 a (.inl (G.2 0, 10568, .inl g2)) → g2 3 = nI d → (∀ k, k < 208 → k ≠ 3 → g2 k = g k) → DY G A s [] L f2 H locs → lv_has ls 3 [(0, .ref h)] → W p l e (rmD 0 0 0) s m args below meth c H locs (0) (0) (MQ below (va_Qv (fun (u : List Nat × HF) => (fun L1 f1 => ∃ g1 : Nat → Int32, kp L f L1 f1 [a] ∧ pt L1 f1 a (.inl (G.2 0, 10568, .inl g1)) ∧ (∀ k, k < 208 → k ≠ 3 → g1 k = g k) ∧ ∃ d : Nat, d ≤ 30 ∧ g1 3 = nI d) u.1 u.2) (fun u t => pOut G (va_A (va_pl L f) sz) u.1 u.2 t) (va_A (va_pl L f) sz)) args s 0 0 A) (F0 m 56 ls []) := by
    intro f2 g2 d H locs ls hd hk p_h p_a h23 hg2 Y hl
    refine lv_sipush (v := 208) hx hb dX12_keep_56 (by decide) ?_
    refine lv_bipush (v := 104) hx hb dX12_keep_59 (by decide) ?_
    refine lv_aload_n hx hb dX12_keep_61 rfl (lv_at hl 0 rfl) ?_
    refine pg_get S Y ok_X12 0 (by decide) kf12_7 (v := .ref a) p_h rfl dX12_keep_62 ?_
    refine lv_iconst (v := 3) hx hb dX12_keep_65 (by decide) ?_
    refine pg_iald S Y (v := (nI d)) p_a (by unfold vp_in; decide) h23 dX12_keep_66 ?_
    refine lv_imul hx hb dX12_keep_67 ?_
    refine lv_topi (fun x_1296 ex_1296 => ?_)
    refine lv_iadd hx hb dX12_keep_68 ?_
    refine lv_topi (fun x_1297 ex_1297 => ?_)
    refine lv_istore_n (lv' := [(1, .int x_1297), (0, .ref h)]) hx hb dX12_keep_69 rfl hl (by decide) rfl (fun ls hl => ?_)
    refine lv_iconst (v := 0) hx hb dX12_keep_70 (by decide) ?_
    refine lv_istore_n (lv' := [(2, .int 0), (1, .int x_1297), (0, .ref h)]) hx hb dX12_keep_71 rfl hl (by decide) rfl (fun ls hl => ?_)
    have hbase : x_1297 = nI (208 + 104 * d) := by rw [ex_1297, ex_1296, show (104 : Int32) = nI 104 from rfl, show (208 : Int32) = nI 208 from rfl, pk_mul, nI_add]
    have loop2 : ∀ (n0 i : Nat) (f3 : HF) (g3 : Nat → Int32) (H : Heap) (locs : List Loc) (ls : Array Slot) (x : Int32), i + n0 = 104 → x = nI i → kp L f L f3 [a] → pt L f3 h (.inr (12, [.ref a, .ref im, .ref te, .ref tp, .int 0, .int (-1), .int (-1), .int 0, .int 0, .int 0, .int 0, .long 0, .int 0, .int 0, .int 0, .ref pi, .ref co, .int 0, .int 0, .int 0, .int 0, .int 0, .ref na, .ref vl, .ref tr, .int 1, .ref ac, .ref as_, .ref su, .ref wi_, .int 0, .ref se])) → pt L f3 a (.inl (G.2 0, 10568, .inl g3)) → (∀ k, k < 208 → g3 k = g2 k) → DY G A s [] L f3 H locs → lv_has ls 3 [(2, .int x), (1, .int x_1297), (0, .ref h)] → W p l e (rmD 0 0 0) s m args below meth c H locs (0) (0) (MQ below (va_Qv (fun (u : List Nat × HF) => (fun L1 f1 => ∃ g1 : Nat → Int32, kp L f L1 f1 [a] ∧ pt L1 f1 a (.inl (G.2 0, 10568, .inl g1)) ∧ (∀ k, k < 208 → k ≠ 3 → g1 k = g k) ∧ ∃ d : Nat, d ≤ 30 ∧ g1 3 = nI d) u.1 u.2) (fun u t => pOut G (va_A (va_pl L f) sz) u.1 u.2 t) (va_A (va_pl L f) sz)) args s 0 0 A) (F0 m 72 ls []) := by
      intro n0
      induction n0 with
      | zero =>
        intro i f3 g3 H locs ls x hin ex hk p_h p_a hg3 Y hl
        obtain rfl : i = 104 := by omega
        obtain rfl : x = 104 := by rw [ex]; decide
        refine lv_iload_n hx hb dX12_keep_72 rfl (lv_at hl 0 rfl) ?_
        refine lv_bipush (v := 104) hx hb dX12_keep_73 (by decide) ?_
        refine lv_icmp_ge (tgt := 101) hx hb dX12_keep_75 (by decide) (fun _ => ?_) (fun h => absurd (by decide) h)
        refine lv_aload_n hx hb dX12_keep_101 rfl (lv_at hl 2 rfl) ?_
        refine pg_get S Y ok_X12 0 (by decide) kf12_7 (v := .ref a) p_h rfl dX12_keep_102 ?_
        refine lv_iconst (v := 3) hx hb dX12_keep_105 (by decide) ?_
        refine lv_dup2_11 hx hb dX12_keep_106 rfl rfl ?_
        refine pg_iald S Y (v := (nI d)) p_a (by unfold vp_in; decide) ((hg3 3 (by decide)).trans h23) dX12_keep_107 ?_
        refine lv_iconst (v := 1) hx hb dX12_keep_108 (by decide) ?_
        refine lv_iadd hx hb dX12_keep_109 ?_
        refine lv_topi (fun x_1298 ex_1298 => ?_)
        refine pg_iast S Y p_a (by unfold vp_in; decide) dX12_keep_110 (fun f_1300 H locs ef_1300 Y => ?_)
        obtain ⟨g_1299, eg_1299⟩ : ∃ z, z = upd (g3) (3 : Int32).toNatClampNeg x_1298 := ⟨_, rfl⟩
        rw [← eg_1299] at ef_1300
        have p_h := p_h.up ef_1300 ((p_h.neA p_a))
        have p_a := p_a.me ef_1300
        have hk := hk.up ef_1300 (by simp)
        exact prV (post := fun L1 f1 => ∃ g1 : Nat → Int32, kp L f L1 f1 [a] ∧ pt L1 f1 a (.inl (G.2 0, 10568, .inl g1)) ∧ (∀ k, k < 208 → k ≠ 3 → g1 k = g k) ∧ ∃ d : Nat, d ≤ 30 ∧ g1 3 = nI d) S Y (by decide) (by decide) hA1 ⟨g_1299, hk, p_a, (fun k hk h3 => ((congrFun eg_1299 k).trans (pk_un h3)).trans ((hg3 k hk).trans (hg2 k hk h3))), ⟨d + 1, by omega, ((congrFun eg_1299 3).trans pk_us).trans (by rw [ex_1298]; exact nI_1 d)⟩⟩ dX12_keep_111
      | succ n0 ih =>
        intro i f3 g3 H locs ls x hin ex hk p_h p_a hg3 Y hl
        have hiN : i < 104 := by omega
        have hi31 : i < 2 ^ 31 := by omega
        have hin2 : i + 1 + n0 = 104 := by omega
        refine lv_iload_n hx hb dX12_keep_72 rfl (lv_at hl 0 rfl) ?_
        refine lv_bipush (v := 104) hx hb dX12_keep_73 (by decide) ?_
        refine lv_icmp_ge (tgt := 101) hx hb dX12_keep_75 (by decide) (fun h => absurd h (by rw [ex]; exact nI_ge hiN (by decide))) (fun _ => ?_)
        refine lv_aload_n hx hb dX12_keep_78 rfl (lv_at hl 2 rfl) ?_
        refine pg_get S Y ok_X12 0 (by decide) kf12_7 (v := .ref a) p_h rfl dX12_keep_79 ?_
        refine lv_iload_n hx hb dX12_keep_82 rfl (lv_at hl 1 rfl) ?_
        refine lv_iload_n hx hb dX12_keep_83 rfl (lv_at hl 0 rfl) ?_
        refine lv_iadd hx hb dX12_keep_84 ?_
        refine lv_topi (fun x_1301 ex_1301 => ?_)
        refine lv_aload_n hx hb dX12_keep_85 rfl (lv_at hl 2 rfl) ?_
        refine pg_get S Y ok_X12 0 (by decide) kf12_7 (v := .ref a) p_h rfl dX12_keep_86 ?_
        refine lv_bipush (v := 10) hx hb dX12_keep_89 (by decide) ?_
        refine lv_iload_n hx hb dX12_keep_91 rfl (lv_at hl 0 rfl) ?_
        refine lv_iadd hx hb dX12_keep_92 ?_
        refine lv_topi (fun x_1302 ex_1302 => ?_)
        refine pg_iald S Y (v := (g3 (x_1302 : Int32).toNatClampNeg)) p_a (by rw [ex_1302, ex, show (10 : Int32) = nI 10 from rfl, nI_add]; exact vp_in_nI (by omega) (by decide)) rfl dX12_keep_93 ?_
        refine pg_iast S Y p_a (by rw [ex_1301, hbase, ex, nI_add]; exact vp_in_nI (by omega) (by decide)) dX12_keep_94 (fun f_1304 H locs ef_1304 Y => ?_)
        obtain ⟨g_1303, eg_1303⟩ : ∃ z, z = upd (g3) (x_1301 : Int32).toNatClampNeg (g3 (x_1302 : Int32).toNatClampNeg) := ⟨_, rfl⟩
        rw [← eg_1303] at ef_1304
        have p_h := p_h.up ef_1304 ((p_h.neA p_a))
        have p_a := p_a.me ef_1304
        have hk := hk.up ef_1304 (by simp)
        obtain ⟨x_1305, ex_1305⟩ : ∃ z : Int32, z = x + 1 := ⟨_, rfl⟩
        refine lv_iinc (v := x_1305) (lv' := [(2, .int x_1305), (1, .int x_1297), (0, .ref h)]) hx hb dX12_keep_95 hl (k := 0) rfl (by rw [ex_1305]; rfl) (by decide) rfl (fun ls hl => ?_)
        refine lv_goto (tgt := 72) hx hb dX12_keep_98 (by decide) ?_
        have hg4 : ∀ k, k < 208 → g_1303 k = g2 k := fun k hk => ((congrFun eg_1303 k).trans (pk_un (by rw [ex_1301, hbase, ex, nI_add, nI_clamp (by omega)]; omega))).trans (hg3 k hk)
        have ex2 : x_1305 = nI (i + 1) := by rw [ex_1305, ex]; exact nI_1 i
        exact ih (i + 1) _ _ _ _ _ _ hin2 ex2 hk p_h p_a hg4 Y hl
    exact loop2 104 0 _ _ _ _ _ 0 rfl rfl hk p_h p_a (fun _ _ => rfl) Y (lv_sub hl [0, 1, 2] rfl)
  refine lv_aload_n hx hb dX12_keep_0 rfl (lv_at hl 0 rfl) ?_
  refine pg_get S Y ok_X12 0 (by decide) kf12_7 (v := .ref a) p_h rfl dX12_keep_1 ?_
  refine lv_iconst (v := 3) hx hb dX12_keep_4 (by decide) ?_
  refine pg_iald S Y (v := (nI c0)) p_a (by unfold vp_in; decide) h3 dX12_keep_5 ?_
  refine lv_bipush (v := 30) hx hb dX12_keep_6 (by decide) ?_
  refine lv_icmp_ne (tgt := 56) hx hb dX12_keep_8 (by decide) (fun c_1306 => ?_) (fun c_1306 => ?_)
  · have hne30 : c0 ≠ 30 := fun q => c_1306 (by rw [q]; rfl)
    have hc29 : c0 ≤ 29 := by omega
    exact tail _ _ c0 _ _ _ hc29 hk p_h p_a h3 (fun _ _ _ => rfl) Y (lv_sub hl [0] rfl)
  · refine lv_iconst (v := 0) hx hb dX12_keep_11 (by decide) ?_
    refine lv_istore_n (lv' := [(1, .int 0), (0, .ref h)]) hx hb dX12_keep_12 rfl hl (by decide) rfl (fun ls hl => ?_)
    have loop1 : ∀ (n0 i : Nat) (f3 : HF) (g3 : Nat → Int32) (H : Heap) (locs : List Loc) (ls : Array Slot) (x : Int32), i + n0 = 3016 → x = nI i → kp L f L f3 [a] → pt L f3 h (.inr (12, [.ref a, .ref im, .ref te, .ref tp, .int 0, .int (-1), .int (-1), .int 0, .int 0, .int 0, .int 0, .long 0, .int 0, .int 0, .int 0, .ref pi, .ref co, .int 0, .int 0, .int 0, .int 0, .int 0, .ref na, .ref vl, .ref tr, .int 1, .ref ac, .ref as_, .ref su, .ref wi_, .int 0, .ref se])) → pt L f3 a (.inl (G.2 0, 10568, .inl g3)) → (∀ k, k < 208 → g3 k = g k) → DY G A s [] L f3 H locs → lv_has ls 3 [(1, .int x), (0, .ref h)] → W p l e (rmD 0 0 0) s m args below meth c H locs (0) (0) (MQ below (va_Qv (fun (u : List Nat × HF) => (fun L1 f1 => ∃ g1 : Nat → Int32, kp L f L1 f1 [a] ∧ pt L1 f1 a (.inl (G.2 0, 10568, .inl g1)) ∧ (∀ k, k < 208 → k ≠ 3 → g1 k = g k) ∧ ∃ d : Nat, d ≤ 30 ∧ g1 3 = nI d) u.1 u.2) (fun u t => pOut G (va_A (va_pl L f) sz) u.1 u.2 t) (va_A (va_pl L f) sz)) args s 0 0 A) (F0 m 13 ls []) := by
      intro n0
      induction n0 with
      | zero =>
        intro i f3 g3 H locs ls x hin ex hk p_h p_a hg3 Y hl
        obtain rfl : i = 3016 := by omega
        obtain rfl : x = 3016 := by rw [ex]; decide
        refine lv_iload_n hx hb dX12_keep_13 rfl (lv_at hl 0 rfl) ?_
        refine lv_sipush (v := 3016) hx hb dX12_keep_14 (by decide) ?_
        refine lv_icmp_ge (tgt := 46) hx hb dX12_keep_17 (by decide) (fun _ => ?_) (fun h => absurd (by decide) h)
        refine lv_aload_n hx hb dX12_keep_46 rfl (lv_at hl 1 rfl) ?_
        refine pg_get S Y ok_X12 0 (by decide) kf12_7 (v := .ref a) p_h rfl dX12_keep_47 ?_
        refine lv_iconst (v := 3) hx hb dX12_keep_50 (by decide) ?_
        refine lv_dup2_11 hx hb dX12_keep_51 rfl rfl ?_
        refine pg_iald S Y (v := 30) p_a (by unfold vp_in; decide) ((hg3 3 (by decide)).trans (h3.trans c_1306)) dX12_keep_52 ?_
        refine lv_iconst (v := 1) hx hb dX12_keep_53 (by decide) ?_
        refine lv_isub hx hb dX12_keep_54 ?_
        refine lv_fold (z := 29) (by decide) ?_
        refine pg_iast S Y p_a (by unfold vp_in; decide) dX12_keep_55 (fun f_1308 H locs ef_1308 Y => ?_)
        obtain ⟨g_1307, eg_1307⟩ : ∃ z, z = upd (g3) (3 : Int32).toNatClampNeg 29 := ⟨_, rfl⟩
        rw [← eg_1307] at ef_1308
        have p_h := p_h.up ef_1308 ((p_h.neA p_a))
        have p_a := p_a.me ef_1308
        have hk := hk.up ef_1308 (by simp)
        exact tail _ _ 29 _ _ _ (Nat.le_refl _) hk p_h p_a ((congrFun eg_1307 3).trans pk_us) (fun k hk h3 => ((congrFun eg_1307 k).trans (pk_un h3)).trans (hg3 k hk)) Y (lv_sub hl [1] rfl)
      | succ n0 ih =>
        intro i f3 g3 H locs ls x hin ex hk p_h p_a hg3 Y hl
        have hiN : i < 3016 := by omega
        have hi31 : i < 2 ^ 31 := by omega
        have hin2 : i + 1 + n0 = 3016 := by omega
        refine lv_iload_n hx hb dX12_keep_13 rfl (lv_at hl 0 rfl) ?_
        refine lv_sipush (v := 3016) hx hb dX12_keep_14 (by decide) ?_
        refine lv_icmp_ge (tgt := 46) hx hb dX12_keep_17 (by decide) (fun h => absurd h (by rw [ex]; exact nI_ge hiN (by decide))) (fun _ => ?_)
        refine lv_aload_n hx hb dX12_keep_20 rfl (lv_at hl 1 rfl) ?_
        refine pg_get S Y ok_X12 0 (by decide) kf12_7 (v := .ref a) p_h rfl dX12_keep_21 ?_
        refine lv_sipush (v := 208) hx hb dX12_keep_24 (by decide) ?_
        refine lv_iload_n hx hb dX12_keep_27 rfl (lv_at hl 0 rfl) ?_
        refine lv_iadd hx hb dX12_keep_28 ?_
        refine lv_topi (fun x_1309 ex_1309 => ?_)
        refine lv_aload_n hx hb dX12_keep_29 rfl (lv_at hl 1 rfl) ?_
        refine pg_get S Y ok_X12 0 (by decide) kf12_7 (v := .ref a) p_h rfl dX12_keep_30 ?_
        refine lv_sipush (v := 312) hx hb dX12_keep_33 (by decide) ?_
        refine lv_iload_n hx hb dX12_keep_36 rfl (lv_at hl 0 rfl) ?_
        refine lv_iadd hx hb dX12_keep_37 ?_
        refine lv_topi (fun x_1310 ex_1310 => ?_)
        refine pg_iald S Y (v := (g3 (x_1310 : Int32).toNatClampNeg)) p_a (by rw [ex_1310, ex, show (312 : Int32) = nI 312 from rfl, nI_add]; exact vp_in_nI (by omega) (by decide)) rfl dX12_keep_38 ?_
        refine pg_iast S Y p_a (by rw [ex_1309, ex, show (208 : Int32) = nI 208 from rfl, nI_add]; exact vp_in_nI (by omega) (by decide)) dX12_keep_39 (fun f_1312 H locs ef_1312 Y => ?_)
        obtain ⟨g_1311, eg_1311⟩ : ∃ z, z = upd (g3) (x_1309 : Int32).toNatClampNeg (g3 (x_1310 : Int32).toNatClampNeg) := ⟨_, rfl⟩
        rw [← eg_1311] at ef_1312
        have p_h := p_h.up ef_1312 ((p_h.neA p_a))
        have p_a := p_a.me ef_1312
        have hk := hk.up ef_1312 (by simp)
        obtain ⟨x_1313, ex_1313⟩ : ∃ z : Int32, z = x + 1 := ⟨_, rfl⟩
        refine lv_iinc (v := x_1313) (lv' := [(1, .int x_1313), (0, .ref h)]) hx hb dX12_keep_40 hl (k := 0) rfl (by rw [ex_1313]; rfl) (by decide) rfl (fun ls hl => ?_)
        refine lv_goto (tgt := 13) hx hb dX12_keep_43 (by decide) ?_
        have hg4 : ∀ k, k < 208 → g_1311 k = g k := fun k hk => ((congrFun eg_1311 k).trans (pk_un (by rw [ex_1309, ex, show (208 : Int32) = nI 208 from rfl, nI_add, nI_clamp (by omega)]; omega))).trans (hg3 k hk)
        have ex2 : x_1313 = nI (i + 1) := by rw [ex_1313, ex]; exact nI_1 i
        exact ih (i + 1) _ _ _ _ _ _ hin2 ex2 hk p_h p_a hg4 Y hl
    exact loop1 3016 0 _ _ _ _ _ 0 rfl rfl hk p_h p_a (fun _ _ => rfl) Y hl
set_option maxHeartbeats 4000000 in
set_option maxRecDepth 100000 in
theorem c_X12_arePassed {l : Launch} {G : GG} {L : List Nat} {f : HF} {h a im te tp pi co na vl tr ac as_ su wi_ se : Nat} {n : Int32} {j : Nat} (p_h : pt L f h (.inr (12, [.ref a, .ref im, .ref te, .ref tp, .int 0, .int (-1), .int (-1), .int 0, .int 0, .int 0, .int 0, .long 0, .int 0, .int 0, .int 0, .ref pi, .ref co, .int 0, .int 0, .int 0, .int 0, .int 0, .ref na, .ref vl, .ref tr, .int 1, .ref ac, .ref as_, .ref su, .ref wi_, .int 0, .ref se]))) (p_a : pt L f a (.inl (G.2 0, 10568, .inl a0))) (hn : n = nI j) (hj : j ≤ 60) : PMi l yX12_arePassed cX12_arePassed 3 .boolean 2 0 0 G [.ref h, .int n] L f (fun r L1 f1 => ∃ g1 : Nat → Int32, r = 1 ∧ kp L f L1 f1 [a] ∧ pt L1 f1 a (.inl (G.2 0, 10568, .inl g1)) ∧ g1 11 = nI (RN_ j)) := by
  refine PMi.of (post := fun r L1 f1 => ∃ g1 : Nat → Int32, r = 1 ∧ kp L f L1 f1 [a] ∧ pt L1 f1 a (.inl (G.2 0, 10568, .inl g1)) ∧ g1 11 = nI (RN_ j)) (own := RX12) (by decide) rfl (Nat.le_of_ble_eq_true rfl) (fun sz p e s m args below meth c A ls hA1 hname S Y hl => ?_)
  have hx := S.hx
  have hb := S.hb
  have hl : lv_has ls 3 [(0, .ref h), (1, .int n)] := hl
  have hk : kp L f L f [a] := kp.rf
  refine lv_iconst (v := 0) hx hb dX12_arePassed_0 (by decide) ?_
  refine lv_istore_n (lv' := [(2, .int 0), (0, .ref h), (1, .int n)]) hx hb dX12_arePassed_1 rfl hl (by decide) rfl (fun ls hl => ?_)
  have loop : ∀ (n0 i : Nat) (L3 : List Nat) (f3 : HF) (g3 : Nat → Int32) (H : Heap) (locs : List Loc) (ls : Array Slot) (x : Int32), i + n0 = j → x = nI i → kp L f L3 f3 [a] → pt L3 f3 h (.inr (12, [.ref a, .ref im, .ref te, .ref tp, .int 0, .int (-1), .int (-1), .int 0, .int 0, .int 0, .int 0, .long 0, .int 0, .int 0, .int 0, .ref pi, .ref co, .int 0, .int 0, .int 0, .int 0, .int 0, .ref na, .ref vl, .ref tr, .int 1, .ref ac, .ref as_, .ref su, .ref wi_, .int 0, .ref se])) → pt L3 f3 a (.inl (G.2 0, 10568, .inl g3)) → g3 0 = 0 → g3 10 = nI i → g3 11 = nI (RN_ i) → g3 12 = nI (XN i) → (∃ d : Nat, d ≤ 30 ∧ g3 3 = nI d) → DY G A s [] L3 f3 H locs → lv_has ls 3 [(2, .int x), (0, .ref h), (1, .int n)] → W p l e (rmD 2 0 0) s m args below meth c H locs (0) (0) (MQ below (va_Qi (fun r (u : List Nat × HF) => (fun r L1 f1 => ∃ g1 : Nat → Int32, r = 1 ∧ kp L f L1 f1 [a] ∧ pt L1 f1 a (.inl (G.2 0, 10568, .inl g1)) ∧ g1 11 = nI (RN_ j)) r u.1 u.2) (fun u t => pOut G (va_A (va_pl L f) sz) u.1 u.2 t) (va_A (va_pl L f) sz)) args s 0 0 A) (F0 m 2 ls []) := by
    intro n0
    induction n0 with
    | zero =>
      intro i L3 f3 g3 H locs ls x hin ex hk p_h p_a h0 h10 h11 h12 h3e Y hl
      obtain rfl : j = i := by omega
      refine lv_iload_n hx hb dX12_arePassed_2 rfl (lv_at hl 0 rfl) ?_
      refine lv_iload_n hx hb dX12_arePassed_3 rfl (lv_at hl 2 rfl) ?_
      refine lv_icmp_ge (tgt := 36) hx hb dX12_arePassed_4 (by decide) (fun _ => ?_) (fun h => absurd (by rw [ex, hn]; exact nI_le (Nat.le_refl _) (by omega)) h)
      refine lv_iconst (v := 1) hx hb dX12_arePassed_36 (by decide) ?_
      exact prI (post := fun r L1 f1 => ∃ g1 : Nat → Int32, r = 1 ∧ kp L f L1 f1 [a] ∧ pt L1 f1 a (.inl (G.2 0, 10568, .inl g1)) ∧ g1 11 = nI (RN_ j)) S Y rfl (by decide) (by decide) hA1 ⟨g3, rfl, hk, p_a, h11⟩ dX12_arePassed_37
    | succ n0 ih =>
      intro i L3 f3 g3 H locs ls x hin ex hk p_h p_a h0 h10 h11 h12 h3e Y hl
      have hij : i < j := by omega
      have hin2 : i + 1 + n0 = j := by omega
      obtain ⟨c0, hc, h3c⟩ := h3e
      refine lv_iload_n hx hb dX12_arePassed_2 rfl (lv_at hl 0 rfl) ?_
      refine lv_iload_n hx hb dX12_arePassed_3 rfl (lv_at hl 2 rfl) ?_
      refine lv_icmp_ge (tgt := 36) hx hb dX12_arePassed_4 (by decide) (fun h => absurd h (by rw [ex, hn]; exact nI_ge hij (by omega))) (fun _ => ?_)
      refine lv_aload_n hx hb dX12_arePassed_7 rfl (lv_at hl 1 rfl) ?_
      refine pg_get S Y ok_X12 0 (by decide) kf12_7 (v := .ref a) p_h rfl dX12_arePassed_8 ?_
      refine lv_bipush (v := 10) hx hb dX12_arePassed_11 (by decide) ?_
      refine pg_iald S Y (v := (nI i)) p_a (by unfold vp_in; decide) h10 dX12_arePassed_13 ?_
      refine lv_sipush (v := 9999) hx hb dX12_arePassed_14 (by decide) ?_
      refine lv_icmp_ne (tgt := 22) hx hb dX12_arePassed_17 (by decide) (fun _ => ?_) (fun h => absurd h (fun q => absurd ((nI_eq (a := i) (b := 9999) (by omega) (by decide)).mp q) (by omega)))
      refine lv_aload_n hx hb dX12_arePassed_22 rfl (lv_at hl 1 rfl) ?_
      refine cVv (As := []) (rest := []) S Y (c_X12_keep (l := l) p_h p_a h3c hc) cw_X12_keep km12_333 p_h ok_X12.1 rfl rfl ⟨Nat.le_of_ble_eq_true rfl, Nat.le_of_ble_eq_true rfl⟩ hl.1 rfl (Nat.le_of_ble_eq_true rfl) ⟨Nat.le_of_ble_eq_true rfl, Nat.le_of_ble_eq_true rfl⟩ dX12_arePassed_23 (fun L_1314 f_1315 H locs hf_1315 Y => ?_)
      obtain ⟨g__1316, kf_1315, z_z_1317, hk1_1318, hk3_1319⟩ := hf_1315
      have p_h := kf_1315.1 h _ (nmc (p_h.neA p_a) nm0) p_h
      have p_a := z_z_1317
      have hk := hk.call kf_1315 (fun b hb hp => (nmc (fun q => hb (by simp [q])) nm0))
      refine lv_aload_n hx hb dX12_arePassed_26 rfl (lv_at hl 1 rfl) ?_
      refine cVv (As := []) (rest := []) S Y (c_X12_pass (l := l) p_h p_a ((hk1_1318 0 (by decide) (by decide)).trans h0) ((hk1_1318 12 (by decide) (by decide)).trans h12)) cw_X12_pass km12_357 p_h ok_X12.1 rfl rfl ⟨Nat.le_of_ble_eq_true rfl, Nat.le_of_ble_eq_true rfl⟩ hl.1 rfl (Nat.le_of_ble_eq_true rfl) ⟨Nat.le_of_ble_eq_true rfl, Nat.le_of_ble_eq_true rfl⟩ dX12_arePassed_27 (fun L_1320 f_1321 H locs hf_1321 Y => ?_)
      obtain ⟨g__1322, kf_1321, z_z_1323, hp10_1324, hp11_1325, hp12_1326, hpo_1327⟩ := hf_1321
      have p_h := kf_1321.1 h _ (nmc (p_h.neA p_a) nm0) p_h
      have p_a := z_z_1323
      have hk := hk.call kf_1321 (fun b hb hp => (nmc (fun q => hb (by simp [q])) nm0))
      obtain ⟨x_1328, ex_1328⟩ : ∃ z : Int32, z = x + 1 := ⟨_, rfl⟩
      refine lv_iinc (v := x_1328) (lv' := [(2, .int x_1328), (0, .ref h), (1, .int n)]) hx hb dX12_arePassed_30 hl (k := 0) rfl (by rw [ex_1328]; rfl) (by decide) rfl (fun ls hl => ?_)
      refine lv_goto (tgt := 2) hx hb dX12_arePassed_33 (by decide) ?_
      obtain ⟨d2, hd2, e32⟩ := hk3_1319
      have ex2 : x_1328 = nI (i + 1) := by rw [ex_1328, ex]; exact nI_1 i
      exact ih (i + 1) _ _ _ _ _ _ _ hin2 ex2 hk p_h p_a ((hpo_1327 0 (by decide) (by decide) (by decide)).trans ((hk1_1318 0 (by decide) (by decide)).trans h0)) (hp10_1324.trans (by rw [hk1_1318 10 (by decide) (by decide), h10]; exact nI_1 i)) hp11_1325 hp12_1326 ⟨d2, hd2, (hpo_1327 3 (by decide) (by decide) (by decide)).trans e32⟩ Y hl
  exact loop j 0 _ _ _ _ _ _ 0 (Nat.zero_add j) rfl hk p_h p_a (by decide) (by decide) (by decide) (by decide) ⟨0, by decide, by decide⟩ Y hl
set_option maxHeartbeats 4000000 in
set_option maxRecDepth 100000 in
theorem c_X12_day {l : Launch} {G : GG} {L : List Nat} {f : HF} {h a im te tp pi co na vl tr ac as_ su wi_ se : Nat} {n : Int32}  (p_h : pt L f h (.inr (12, [.ref a, .ref im, .ref te, .ref tp, .int 0, .int (-1), .int (-1), .int 0, .int 0, .int 0, .int 0, .long 0, .int 0, .int 0, .int 0, .ref pi, .ref co, .int 0, .int 0, .int 0, .int 0, .int 0, .ref na, .ref vl, .ref tr, .int 1, .ref ac, .ref as_, .ref su, .ref wi_, .int 0, .ref se]))) (p_a : pt L f a (.inl (G.2 0, 10568, .inl a0)))  : PMi l yX12_day cX12_day 2 .int 3 0 0 G [.ref h, .int n] L f (fun r L1 f1 => r = dayF n) := by
  refine PMi.of (post := fun r L1 f1 => r = dayF n) (own := RX12) (by decide) rfl (Nat.le_of_ble_eq_true rfl) (fun sz p e s m args below meth c A ls hA1 hname S Y hl => ?_)
  have hx := S.hx
  have hb := S.hb
  have hl : lv_has ls 2 [(0, .ref h), (1, .int n)] := hl
  refine lv_iload_n hx hb dX12_day_0 rfl (lv_at hl 1 rfl) ?_
  refine lv_iconst (v := 1) hx hb dX12_day_1 (by decide) ?_
  refine lv_bipush (v := 60) hx hb dX12_day_2 (by decide) ?_
  refine cSp (As := [.int n, .int 1, .int 60]) (rest := []) S Y (c_X12_isIn (l := l)) cw_X12_isIn km12_69 rfl ⟨Nat.le_of_ble_eq_true rfl, Nat.le_of_ble_eq_true rfl⟩ hl.1 rfl (Nat.le_of_ble_eq_true rfl) ⟨Nat.le_of_ble_eq_true rfl, Nat.le_of_ble_eq_true rfl⟩ dX12_day_4 (fun r_1329 H locs er_1329 Y => ?_)
  refine lv_fold (z := (wi n 1 60)) er_1329 ?_
  refine lv_if_eq (tgt := 43) hx hb dX12_day_7 (by decide) (fun c_1330 => ?_) (fun c_1330 => ?_)
  · refine lv_iconst (v := (-1)) hx hb dX12_day_43 (by decide) ?_
    exact prI (post := fun r L1 f1 => r = dayF n) S Y rfl (by decide) (by decide) hA1 (by rw [dayF, if_pos c_1330]) dX12_day_44
  · obtain ⟨j, hj, hn⟩ := wi_60 c_1330
    refine lv_aload_n hx hb dX12_day_10 rfl (lv_at hl 0 rfl) ?_
    refine pg_get S Y ok_X12 0 (by decide) kf12_7 (v := .ref a) p_h rfl dX12_day_11 ?_
    refine lv_bipush (v := 10) hx hb dX12_day_14 (by decide) ?_
    refine pg_iald S Y (v := 0) p_a (by unfold vp_in; decide) (by decide) dX12_day_16 ?_
    refine lv_iload_n hx hb dX12_day_17 rfl (lv_at hl 1 rfl) ?_
    refine lv_iadd hx hb dX12_day_18 ?_
    refine lv_topi (fun x_1331 ex_1331 => ?_)
    refine lv_sipush (v := 9999) hx hb dX12_day_19 (by decide) ?_
    refine lv_icmp_gt (tgt := 43) hx hb dX12_day_22 (by decide) (fun h => absurd h (by rw [ex_1331, hn, show (0 : Int32) = nI 0 from rfl, nI_add, show (9999 : Int32) = nI 9999 from rfl]; exact nI_nlt (by omega) (by omega))) (fun _ => ?_)
    refine lv_aload_n hx hb dX12_day_25 rfl (lv_at hl 0 rfl) ?_
    refine lv_iload_n hx hb dX12_day_26 rfl (lv_at hl 1 rfl) ?_
    refine cVi (As := [.int n]) (rest := []) S Y (c_X12_arePassed (l := l) p_h p_a hn hj) cw_X12_arePassed km12_360 p_h ok_X12.1 rfl rfl ⟨Nat.le_of_ble_eq_true rfl, Nat.le_of_ble_eq_true rfl⟩ hl.1 rfl (Nat.le_of_ble_eq_true rfl) ⟨Nat.le_of_ble_eq_true rfl, Nat.le_of_ble_eq_true rfl⟩ dX12_day_27 (fun r_1332 L_1333 f_1334 H locs hf_1334 Y => ?_)
    obtain ⟨g__1335, er_1332, kf_1334, z_z_1336, hr_1337⟩ := hf_1334
    have p_h := kf_1334.1 h _ (nmc (p_h.neA p_a) nm0) p_h
    have p_a := z_z_1336
    refine lv_fold (z := 1) er_1332 ?_
    refine lv_if_eq (tgt := 43) hx hb dX12_day_30 (by decide) (fun h => absurd h (by decide)) (fun _ => ?_)
    refine lv_aload_n hx hb dX12_day_33 rfl (lv_at hl 0 rfl) ?_
    refine pg_get S Y ok_X12 0 (by decide) kf12_7 (v := .ref a) p_h rfl dX12_day_34 ?_
    refine lv_bipush (v := 11) hx hb dX12_day_37 (by decide) ?_
    refine pg_iald S Y (v := (nI (RN_ j))) p_a (by unfold vp_in; decide) hr_1337 dX12_day_39 ?_
    refine lv_goto (tgt := 44) hx hb dX12_day_40 (by decide) ?_
    exact prI (post := fun r L1 f1 => r = dayF n) S Y rfl (by decide) (by decide) hA1 (by rw [dayF, if_neg c_1330, hn, nI_clamp (by omega)]) dX12_day_44
