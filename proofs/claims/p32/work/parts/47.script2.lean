theorem dX7_setClause_0 : decode cX7_setClause 0 = .ok (.aload_n 0, 1) := by decide +kernel
theorem dX7_setClause_1 : decode cX7_setClause 1 = .ok (.getfield 31, 3) := by decide +kernel
theorem dX7_setClause_4 : decode cX7_setClause 4 = .ok (.ifCond .le 28, 3) := by decide +kernel
theorem dX7_setClause_32 : decode cX7_setClause 32 = .ok (.return_, 1) := by decide +kernel
theorem dX7_setClause_7 : decode cX7_setClause 7 = .ok (.iload_n 1, 1) := by decide +kernel
theorem dX7_setClause_8 : decode cX7_setClause 8 = .ok (.ifCond .lt 24, 3) := by decide +kernel
theorem dX7_setClause_11 : decode cX7_setClause 11 = .ok (.iload_n 1, 1) := by decide +kernel
theorem dX7_setClause_12 : decode cX7_setClause 12 = .ok (.iconst 5, 1) := by decide +kernel
theorem dX7_setClause_13 : decode cX7_setClause 13 = .ok (.if_icmp .ge 19, 3) := by decide +kernel
theorem dX7_setClause_16 : decode cX7_setClause 16 = .ok (.aload_n 0, 1) := by decide +kernel
theorem dX7_setClause_17 : decode cX7_setClause 17 = .ok (.getfield 24, 3) := by decide +kernel
theorem dX7_setClause_20 : decode cX7_setClause 20 = .ok (.aload_n 0, 1) := by decide +kernel
theorem dX7_setClause_21 : decode cX7_setClause 21 = .ok (.getfield 31, 3) := by decide +kernel
theorem dX7_setClause_24 : decode cX7_setClause 24 = .ok (.iconst 1, 1) := by decide +kernel
theorem dX7_setClause_25 : decode cX7_setClause 25 = .ok (.isub, 1) := by decide +kernel
theorem dX7_setClause_26 : decode cX7_setClause 26 = .ok (.iconst 5, 1) := by decide +kernel
theorem dX7_setClause_27 : decode cX7_setClause 27 = .ok (.imul, 1) := by decide +kernel
theorem dX7_setClause_28 : decode cX7_setClause 28 = .ok (.iload_n 1, 1) := by decide +kernel
theorem dX7_setClause_29 : decode cX7_setClause 29 = .ok (.iadd, 1) := by decide +kernel
theorem dX7_setClause_30 : decode cX7_setClause 30 = .ok (.iload_n 2, 1) := by decide +kernel
theorem dX7_setClause_31 : decode cX7_setClause 31 = .ok (.iastore, 1) := by decide +kernel
theorem dX7_addClause_0 : decode cX7_addClause 0 = .ok (.aload_n 0, 1) := by decide +kernel
theorem dX7_addClause_1 : decode cX7_addClause 1 = .ok (.getfield 31, 3) := by decide +kernel
theorem dX7_addClause_4 : decode cX7_addClause 4 = .ok (.bipush 24, 2) := by decide +kernel
theorem dX7_addClause_6 : decode cX7_addClause 6 = .ok (.if_icmp .ge 19, 3) := by decide +kernel
theorem dX7_addClause_25 : decode cX7_addClause 25 = .ok (.return_, 1) := by decide +kernel
theorem dX7_addClause_9 : decode cX7_addClause 9 = .ok (.aload_n 0, 1) := by decide +kernel
theorem dX7_addClause_10 : decode cX7_addClause 10 = .ok (.dup, 1) := by decide +kernel
theorem dX7_addClause_11 : decode cX7_addClause 11 = .ok (.getfield 31, 3) := by decide +kernel
theorem dX7_addClause_14 : decode cX7_addClause 14 = .ok (.iconst 1, 1) := by decide +kernel
theorem dX7_addClause_15 : decode cX7_addClause 15 = .ok (.iadd, 1) := by decide +kernel
theorem dX7_addClause_16 : decode cX7_addClause 16 = .ok (.putfield 31, 3) := by decide +kernel
theorem dX7_addClause_19 : decode cX7_addClause 19 = .ok (.aload_n 0, 1) := by decide +kernel
theorem dX7_addClause_20 : decode cX7_addClause 20 = .ok (.iconst 0, 1) := by decide +kernel
theorem dX7_addClause_21 : decode cX7_addClause 21 = .ok (.iload_n 1, 1) := by decide +kernel
theorem dX7_addClause_22 : decode cX7_addClause 22 = .ok (.invokevirtual 40, 3) := by decide +kernel
theorem cw_X7_setClause : CWv yX7_setClause cX7_setClause 3 none 2 := ⟨⟨⟨List.mem_of_getElem? (i := 129) (by decide +kernel), by decide +kernel⟩, ⟨List.mem_of_getElem? (i := 757) (by decide +kernel), by decide +kernel⟩, by decide +kernel⟩, ⟨List.mem_of_getElem? (i := 755) (by decide +kernel), by decide +kernel⟩, ⟨List.mem_of_getElem? (i := 756) (by decide +kernel), by decide +kernel⟩⟩
theorem km7_40 : inW (Cond.methodLink RX7 40 yX7_setClause) := ⟨List.mem_of_getElem? (i := 754) (by decide +kernel), by decide +kernel⟩
theorem dX7_takeOver_0 : decode cX7_takeOver 0 = .ok (.aload_n 1, 1) := by decide +kernel
theorem dX7_takeOver_1 : decode cX7_takeOver 1 = .ok (.getfield 9, 3) := by decide +kernel
theorem dX7_takeOver_4 : decode cX7_takeOver 4 = .ok (.iconst 0, 1) := by decide +kernel
theorem dX7_takeOver_5 : decode cX7_takeOver 5 = .ok (.aload_n 0, 1) := by decide +kernel
theorem dX7_takeOver_6 : decode cX7_takeOver 6 = .ok (.getfield 9, 3) := by decide +kernel
theorem dX7_takeOver_9 : decode cX7_takeOver 9 = .ok (.iconst 0, 1) := by decide +kernel
theorem dX7_takeOver_10 : decode cX7_takeOver 10 = .ok (.aload_n 0, 1) := by decide +kernel
theorem dX7_takeOver_11 : decode cX7_takeOver 11 = .ok (.getfield 9, 3) := by decide +kernel
theorem dX7_takeOver_14 : decode cX7_takeOver 14 = .ok (.arraylength, 1) := by decide +kernel
theorem dX7_takeOver_15 : decode cX7_takeOver 15 = .ok (.invokestatic 34, 3) := by decide +kernel
theorem km7_34 : inW (Cond.methodLink RX7 34 arraycopyName) := ⟨List.mem_of_getElem? (i := 1475) (by decide +kernel), by decide +kernel⟩
theorem dX7_takeOver_18 : decode cX7_takeOver 18 = .ok (.aload_n 1, 1) := by decide +kernel
theorem dX7_takeOver_19 : decode cX7_takeOver 19 = .ok (.getfield 15, 3) := by decide +kernel
theorem dX7_takeOver_22 : decode cX7_takeOver 22 = .ok (.iconst 0, 1) := by decide +kernel
theorem dX7_takeOver_23 : decode cX7_takeOver 23 = .ok (.aload_n 0, 1) := by decide +kernel
theorem dX7_takeOver_24 : decode cX7_takeOver 24 = .ok (.getfield 15, 3) := by decide +kernel
theorem dX7_takeOver_27 : decode cX7_takeOver 27 = .ok (.iconst 0, 1) := by decide +kernel
theorem dX7_takeOver_28 : decode cX7_takeOver 28 = .ok (.aload_n 0, 1) := by decide +kernel
theorem dX7_takeOver_29 : decode cX7_takeOver 29 = .ok (.getfield 15, 3) := by decide +kernel
theorem dX7_takeOver_32 : decode cX7_takeOver 32 = .ok (.arraylength, 1) := by decide +kernel
theorem dX7_takeOver_33 : decode cX7_takeOver 33 = .ok (.invokestatic 34, 3) := by decide +kernel
theorem dX7_takeOver_36 : decode cX7_takeOver 36 = .ok (.aload_n 1, 1) := by decide +kernel
theorem dX7_takeOver_37 : decode cX7_takeOver 37 = .ok (.getfield 18, 3) := by decide +kernel
theorem dX7_takeOver_40 : decode cX7_takeOver 40 = .ok (.iconst 0, 1) := by decide +kernel
theorem dX7_takeOver_41 : decode cX7_takeOver 41 = .ok (.aload_n 0, 1) := by decide +kernel
theorem dX7_takeOver_42 : decode cX7_takeOver 42 = .ok (.getfield 18, 3) := by decide +kernel
theorem dX7_takeOver_45 : decode cX7_takeOver 45 = .ok (.iconst 0, 1) := by decide +kernel
theorem dX7_takeOver_46 : decode cX7_takeOver 46 = .ok (.aload_n 0, 1) := by decide +kernel
theorem dX7_takeOver_47 : decode cX7_takeOver 47 = .ok (.getfield 18, 3) := by decide +kernel
theorem dX7_takeOver_50 : decode cX7_takeOver 50 = .ok (.arraylength, 1) := by decide +kernel
theorem dX7_takeOver_51 : decode cX7_takeOver 51 = .ok (.invokestatic 34, 3) := by decide +kernel
theorem dX7_takeOver_54 : decode cX7_takeOver 54 = .ok (.aload_n 1, 1) := by decide +kernel
theorem dX7_takeOver_55 : decode cX7_takeOver 55 = .ok (.getfield 21, 3) := by decide +kernel
theorem dX7_takeOver_58 : decode cX7_takeOver 58 = .ok (.iconst 0, 1) := by decide +kernel
theorem dX7_takeOver_59 : decode cX7_takeOver 59 = .ok (.aload_n 0, 1) := by decide +kernel
theorem dX7_takeOver_60 : decode cX7_takeOver 60 = .ok (.getfield 21, 3) := by decide +kernel
theorem dX7_takeOver_63 : decode cX7_takeOver 63 = .ok (.iconst 0, 1) := by decide +kernel
theorem dX7_takeOver_64 : decode cX7_takeOver 64 = .ok (.aload_n 0, 1) := by decide +kernel
theorem dX7_takeOver_65 : decode cX7_takeOver 65 = .ok (.getfield 21, 3) := by decide +kernel
theorem dX7_takeOver_68 : decode cX7_takeOver 68 = .ok (.arraylength, 1) := by decide +kernel
theorem dX7_takeOver_69 : decode cX7_takeOver 69 = .ok (.invokestatic 34, 3) := by decide +kernel
theorem dX7_takeOver_72 : decode cX7_takeOver 72 = .ok (.aload_n 1, 1) := by decide +kernel
theorem dX7_takeOver_73 : decode cX7_takeOver 73 = .ok (.getfield 24, 3) := by decide +kernel
theorem dX7_takeOver_76 : decode cX7_takeOver 76 = .ok (.iconst 0, 1) := by decide +kernel
theorem dX7_takeOver_77 : decode cX7_takeOver 77 = .ok (.aload_n 0, 1) := by decide +kernel
theorem dX7_takeOver_78 : decode cX7_takeOver 78 = .ok (.getfield 24, 3) := by decide +kernel
theorem dX7_takeOver_81 : decode cX7_takeOver 81 = .ok (.iconst 0, 1) := by decide +kernel
theorem dX7_takeOver_82 : decode cX7_takeOver 82 = .ok (.aload_n 0, 1) := by decide +kernel
theorem dX7_takeOver_83 : decode cX7_takeOver 83 = .ok (.getfield 24, 3) := by decide +kernel
theorem dX7_takeOver_86 : decode cX7_takeOver 86 = .ok (.arraylength, 1) := by decide +kernel
theorem dX7_takeOver_87 : decode cX7_takeOver 87 = .ok (.invokestatic 34, 3) := by decide +kernel
theorem dX7_takeOver_90 : decode cX7_takeOver 90 = .ok (.aload_n 0, 1) := by decide +kernel
theorem dX7_takeOver_91 : decode cX7_takeOver 91 = .ok (.aload_n 1, 1) := by decide +kernel
theorem dX7_takeOver_92 : decode cX7_takeOver 92 = .ok (.getfield 27, 3) := by decide +kernel
theorem dX7_takeOver_95 : decode cX7_takeOver 95 = .ok (.putfield 27, 3) := by decide +kernel
theorem dX7_takeOver_98 : decode cX7_takeOver 98 = .ok (.aload_n 0, 1) := by decide +kernel
theorem dX7_takeOver_99 : decode cX7_takeOver 99 = .ok (.aload_n 1, 1) := by decide +kernel
theorem dX7_takeOver_100 : decode cX7_takeOver 100 = .ok (.getfield 31, 3) := by decide +kernel
theorem dX7_takeOver_103 : decode cX7_takeOver 103 = .ok (.putfield 31, 3) := by decide +kernel
theorem dX7_takeOver_106 : decode cX7_takeOver 106 = .ok (.return_, 1) := by decide +kernel
theorem ti_p1 {c : Int32} {n : Nat} (hb : bd c n) (hn : n ≤ 1000000) (h : 0 < c) : (c - 1).toInt = c.toInt - 1 := by
  rw [Int32.lt_iff_toInt_lt, show (0 : Int32).toInt = 0 from rfl] at h
  obtain ⟨b1, b2⟩ := hb
  rw [Int32.toInt_sub, show (1 : Int32).toInt = 1 from rfl]
  exact Int.bmod_eq_of_le (by omega) (by omega)
theorem ixc5 {c j : Int32} (hb : bd c 24) (h : 0 < c) (h3 : ¬ j < 0) (h4 : j < 5) : vp_in ((c - 1) * 5 + j) 120 := by
  have e := ti_p1 hb (by decide) h
  rw [Int32.lt_iff_toInt_lt, show (0 : Int32).toInt = 0 from rfl] at h
  refine ixw (c := c) (n := 24) (q := 5) rfl rfl (by decide) (by decide) hb ?_ ?_ h3 h4
  · rw [Int32.lt_iff_toInt_lt, show (0 : Int32).toInt = 0 from rfl, e]; omega
  · rw [Int32.le_iff_toInt_le, e]; omega
set_option maxHeartbeats 4000000 in
set_option maxRecDepth 100000 in
theorem c_X7_setClause {l : Launch} {G : GG} {L : List Nat} {f : HF} {h dg nu lf lt cs : Nat} {i j ln cc : Int32} {g : Nat → Int32}  (p_h : pt L f h (.inr (7, [.ref dg, .ref nu, .ref lf, .ref lt, .ref cs, .int ln, .int cc]))) (p_cs : pt L f cs (.inl (G.2 0, 120, .inl g))) (qc : bd cc 24) : PMv l yX7_setClause cX7_setClause 3 0 0 0 G [.ref h, .int i, .int j] L f (fun L1 f1 => ∃ g2 : Nat → Int32, kp L f L1 f1 [cs] ∧ pt L1 f1 cs (.inl (G.2 0, 120, .inl g2))) := by
  refine PMv.of (post := fun L1 f1 => ∃ g2 : Nat → Int32, kp L f L1 f1 [cs] ∧ pt L1 f1 cs (.inl (G.2 0, 120, .inl g2))) (own := RX7) (by decide) rfl (Nat.le_of_ble_eq_true rfl) (fun sz p e s m args below meth c A ls hA1 hname S Y hl => ?_)
  have hx := S.hx
  have hb := S.hb
  have hl : lv_has ls 3 [(0, .ref h), (1, .int i), (2, .int j)] := hl
  have hk : kp L f L f [cs] := kp.rf
  refine lv_aload_n hx hb dX7_setClause_0 rfl (lv_at hl 0 rfl) ?_
  refine pg_get S Y ok_X7 6 (by decide) kf7_31 (v := .int cc) p_h rfl dX7_setClause_1 ?_
  refine lv_if_le (tgt := 32) hx hb dX7_setClause_4 (by decide) (fun c_212 => ?_) (fun c_212 => ?_)
  · exact prV (post := fun L1 f1 => ∃ g2 : Nat → Int32, kp L f L1 f1 [cs] ∧ pt L1 f1 cs (.inl (G.2 0, 120, .inl g2))) S Y (by decide) (by decide) hA1 ⟨g, hk, p_cs⟩ dX7_setClause_32
  · refine lv_iload_n hx hb dX7_setClause_7 rfl (lv_at hl 1 rfl) ?_
    refine lv_if_lt (tgt := 32) hx hb dX7_setClause_8 (by decide) (fun c_213 => ?_) (fun c_213 => ?_)
    · exact prV (post := fun L1 f1 => ∃ g2 : Nat → Int32, kp L f L1 f1 [cs] ∧ pt L1 f1 cs (.inl (G.2 0, 120, .inl g2))) S Y (by decide) (by decide) hA1 ⟨g, hk, p_cs⟩ dX7_setClause_32
    · refine lv_iload_n hx hb dX7_setClause_11 rfl (lv_at hl 1 rfl) ?_
      refine lv_iconst (v := 5) hx hb dX7_setClause_12 (by decide) ?_
      refine lv_icmp_ge (tgt := 32) hx hb dX7_setClause_13 (by decide) (fun c_214 => ?_) (fun c_214 => ?_)
      · exact prV (post := fun L1 f1 => ∃ g2 : Nat → Int32, kp L f L1 f1 [cs] ∧ pt L1 f1 cs (.inl (G.2 0, 120, .inl g2))) S Y (by decide) (by decide) hA1 ⟨g, hk, p_cs⟩ dX7_setClause_32
      · refine lv_aload_n hx hb dX7_setClause_16 rfl (lv_at hl 0 rfl) ?_
        refine pg_get S Y ok_X7 4 (by decide) kf7_24 (v := .ref cs) p_h rfl dX7_setClause_17 ?_
        refine lv_aload_n hx hb dX7_setClause_20 rfl (lv_at hl 0 rfl) ?_
        refine pg_get S Y ok_X7 6 (by decide) kf7_31 (v := .int cc) p_h rfl dX7_setClause_21 ?_
        refine lv_iconst (v := 1) hx hb dX7_setClause_24 (by decide) ?_
        refine lv_isub hx hb dX7_setClause_25 ?_
        refine lv_topi (fun x_215 ex_215 => ?_)
        refine lv_iconst (v := 5) hx hb dX7_setClause_26 (by decide) ?_
        refine lv_imul hx hb dX7_setClause_27 ?_
        refine lv_topi (fun x_216 ex_216 => ?_)
        refine lv_iload_n hx hb dX7_setClause_28 rfl (lv_at hl 1 rfl) ?_
        refine lv_iadd hx hb dX7_setClause_29 ?_
        refine lv_topi (fun x_217 ex_217 => ?_)
        refine lv_iload_n hx hb dX7_setClause_30 rfl (lv_at hl 2 rfl) ?_
        refine pg_iast S Y p_cs (by rw [ex_217, ex_216, ex_215]; exact ixc5 qc (Int32.not_le.mp c_212) c_213 (Int32.not_le.mp c_214)) dX7_setClause_31 (fun f_219 H locs ef_219 Y => ?_)
        obtain ⟨g_218, eg_218⟩ : ∃ z, z = upd (g) (x_217 : Int32).toNatClampNeg j := ⟨_, rfl⟩
        rw [← eg_218] at ef_219
        have p_h := p_h.up ef_219 ((p_h.neA p_cs))
        have p_cs := p_cs.me ef_219
        have hk := hk.up ef_219 (by simp)
        exact prV (post := fun L1 f1 => ∃ g2 : Nat → Int32, kp L f L1 f1 [cs] ∧ pt L1 f1 cs (.inl (G.2 0, 120, .inl g2))) S Y (by decide) (by decide) hA1 ⟨g_218, hk, p_cs⟩ dX7_setClause_32
set_option maxHeartbeats 4000000 in
set_option maxRecDepth 100000 in
theorem c_X7_addClause {l : Launch} {G : GG} {L : List Nat} {f : HF} {h dg nu lf lt cs : Nat} {i ln cc : Int32} {g : Nat → Int32}  (p_h : pt L f h (.inr (7, [.ref dg, .ref nu, .ref lf, .ref lt, .ref cs, .int ln, .int cc]))) (p_cs : pt L f cs (.inl (G.2 0, 120, .inl g))) (qc : bd cc 24) : PMv l yX7_addClause cX7_addClause 2 1 0 0 G [.ref h, .int i] L f (fun L1 f1 => ∃ cc2 : Int32, ∃ g2 : Nat → Int32, kp L f L1 f1 [h, cs] ∧ pt L1 f1 h (.inr (7, [.ref dg, .ref nu, .ref lf, .ref lt, .ref cs, .int ln, .int cc2])) ∧ pt L1 f1 cs (.inl (G.2 0, 120, .inl g2)) ∧ bd cc2 24) := by
  refine PMv.of (post := fun L1 f1 => ∃ cc2 : Int32, ∃ g2 : Nat → Int32, kp L f L1 f1 [h, cs] ∧ pt L1 f1 h (.inr (7, [.ref dg, .ref nu, .ref lf, .ref lt, .ref cs, .int ln, .int cc2])) ∧ pt L1 f1 cs (.inl (G.2 0, 120, .inl g2)) ∧ bd cc2 24) (own := RX7) (by decide) rfl (Nat.le_of_ble_eq_true rfl) (fun sz p e s m args below meth c A ls hA1 hname S Y hl => ?_)
  have hx := S.hx
  have hb := S.hb
  have hl : lv_has ls 2 [(0, .ref h), (1, .int i)] := hl
  have hk : kp L f L f [h, cs] := kp.rf
  refine lv_aload_n hx hb dX7_addClause_0 rfl (lv_at hl 0 rfl) ?_
  refine pg_get S Y ok_X7 6 (by decide) kf7_31 (v := .int cc) p_h rfl dX7_addClause_1 ?_
  refine lv_bipush (v := 24) hx hb dX7_addClause_4 (by decide) ?_
  refine lv_icmp_ge (tgt := 25) hx hb dX7_addClause_6 (by decide) (fun c_220 => ?_) (fun c_220 => ?_)
  · exact prV (post := fun L1 f1 => ∃ cc2 : Int32, ∃ g2 : Nat → Int32, kp L f L1 f1 [h, cs] ∧ pt L1 f1 h (.inr (7, [.ref dg, .ref nu, .ref lf, .ref lt, .ref cs, .int ln, .int cc2])) ∧ pt L1 f1 cs (.inl (G.2 0, 120, .inl g2)) ∧ bd cc2 24) S Y (by decide) (by decide) hA1 ⟨cc, g, hk, p_h, p_cs, qc⟩ dX7_addClause_25
  · refine lv_aload_n hx hb dX7_addClause_9 rfl (lv_at hl 0 rfl) ?_
    refine lv_dup hx hb dX7_addClause_10 rfl ?_
    refine pg_get S Y ok_X7 6 (by decide) kf7_31 (v := .int cc) p_h rfl dX7_addClause_11 ?_
    refine lv_iconst (v := 1) hx hb dX7_addClause_14 (by decide) ?_
    refine lv_iadd hx hb dX7_addClause_15 ?_
    refine lv_topi (fun x_221 ex_221 => ?_)
    refine pg_put S Y ok_X7 6 (by decide) kf7_31 rfl (fs' := [.ref dg, .ref nu, .ref lf, .ref lt, .ref cs, .int ln, .int x_221]) (v := .int x_221) p_h rfl rfl rfl (Nat.le_of_ble_eq_true rfl) dX7_addClause_16 (fun f_222 H locs ef_222 Y => ?_)
    have p_cs := p_cs.up ef_222 ((p_cs.neB p_h))
    have p_h := p_h.me ef_222
    have hk := hk.up ef_222 (by simp)
    refine lv_aload_n hx hb dX7_addClause_19 rfl (lv_at hl 0 rfl) ?_
    refine lv_iconst (v := 0) hx hb dX7_addClause_20 (by decide) ?_
    refine lv_iload_n hx hb dX7_addClause_21 rfl (lv_at hl 1 rfl) ?_
    refine cVv (As := [.int 0, .int i]) (rest := []) S Y (c_X7_setClause (l := l) p_h p_cs (by rw [ex_221]; exact bd_inc qc c_220 rfl (by decide))) cw_X7_setClause km7_40 p_h ok_X7.1 rfl rfl ⟨Nat.le_of_ble_eq_true rfl, Nat.le_of_ble_eq_true rfl⟩ hl.1 rfl (Nat.le_of_ble_eq_true rfl) ⟨Nat.le_of_ble_eq_true rfl, Nat.le_of_ble_eq_true rfl⟩ dX7_addClause_22 (fun L_223 f_224 H locs hf_224 Y => ?_)
    obtain ⟨g__225, kf_224, z_z_226⟩ := hf_224
    have p_h := kf_224.1 h _ (nmc (p_h.neA p_cs) nm0) p_h
    have p_cs := z_z_226
    have hk := hk.call kf_224 (fun b hb hp => (nmc (fun q => hb (by simp [q])) nm0))
    exact prV (post := fun L1 f1 => ∃ cc2 : Int32, ∃ g2 : Nat → Int32, kp L f L1 f1 [h, cs] ∧ pt L1 f1 h (.inr (7, [.ref dg, .ref nu, .ref lf, .ref lt, .ref cs, .int ln, .int cc2])) ∧ pt L1 f1 cs (.inl (G.2 0, 120, .inl g2)) ∧ bd cc2 24) S Y (by decide) (by decide) hA1 ⟨x_221, g__225, hk, p_h, p_cs, (by rw [ex_221]; exact bd_inc qc c_220 rfl (by decide))⟩ dX7_addClause_25
set_option maxHeartbeats 4000000 in
set_option maxRecDepth 100000 in
theorem c_X7_takeOver {l : Launch} {G : GG} {L : List Nat} {f : HF} {h o dg nu lf lt cs z_dg z_nu z_lf z_lt z_cs : Nat} {ln cc z_ln z_cc : Int32} {a1 a2 a3 a4 a5 b1 b2 b3 b4 b5 : Nat → Int32}  (p_h : pt L f h (.inr (7, [.ref dg, .ref nu, .ref lf, .ref lt, .ref cs, .int ln, .int cc]))) (p_dg : pt L f dg (.inl (G.2 0, 300, .inl a1))) (p_nu : pt L f nu (.inl (G.2 0, 300, .inl a2))) (p_lf : pt L f lf (.inl (G.2 0, 3, .inl a3))) (p_lt : pt L f lt (.inl (G.2 0, 3, .inl a4))) (p_cs : pt L f cs (.inl (G.2 0, 120, .inl a5))) (p_o : pt L f o (.inr (7, [.ref z_dg, .ref z_nu, .ref z_lf, .ref z_lt, .ref z_cs, .int z_ln, .int z_cc]))) (p_z_dg : pt L f z_dg (.inl (G.2 0, 300, .inl b1))) (p_z_nu : pt L f z_nu (.inl (G.2 0, 300, .inl b2))) (p_z_lf : pt L f z_lf (.inl (G.2 0, 3, .inl b3))) (p_z_lt : pt L f z_lt (.inl (G.2 0, 3, .inl b4))) (p_z_cs : pt L f z_cs (.inl (G.2 0, 120, .inl b5))) (n0 : h ≠ o) (n1 : dg ≠ nu) (n2 : lf ≠ lt) (n3 : z_nu ≠ dg) (n4 : z_lt ≠ lf) : PMv l yX7_takeOver cX7_takeOver 2 1 0 0 G [.ref h, .ref o] L f (fun L1 f1 => ∃ d1 : Nat → Int32, ∃ d2 : Nat → Int32, ∃ d3 : Nat → Int32, ∃ d4 : Nat → Int32, ∃ d5 : Nat → Int32, kp L f L1 f1 [h, dg, nu, lf, lt, cs] ∧ pt L1 f1 h (.inr (7, [.ref dg, .ref nu, .ref lf, .ref lt, .ref cs, .int z_ln, .int z_cc])) ∧ pt L1 f1 dg (.inl (G.2 0, 300, .inl d1)) ∧ pt L1 f1 nu (.inl (G.2 0, 300, .inl d2)) ∧ pt L1 f1 lf (.inl (G.2 0, 3, .inl d3)) ∧ pt L1 f1 lt (.inl (G.2 0, 3, .inl d4)) ∧ pt L1 f1 cs (.inl (G.2 0, 120, .inl d5))) := by
  refine PMv.of (post := fun L1 f1 => ∃ d1 : Nat → Int32, ∃ d2 : Nat → Int32, ∃ d3 : Nat → Int32, ∃ d4 : Nat → Int32, ∃ d5 : Nat → Int32, kp L f L1 f1 [h, dg, nu, lf, lt, cs] ∧ pt L1 f1 h (.inr (7, [.ref dg, .ref nu, .ref lf, .ref lt, .ref cs, .int z_ln, .int z_cc])) ∧ pt L1 f1 dg (.inl (G.2 0, 300, .inl d1)) ∧ pt L1 f1 nu (.inl (G.2 0, 300, .inl d2)) ∧ pt L1 f1 lf (.inl (G.2 0, 3, .inl d3)) ∧ pt L1 f1 lt (.inl (G.2 0, 3, .inl d4)) ∧ pt L1 f1 cs (.inl (G.2 0, 120, .inl d5))) (own := RX7) (by decide) rfl (Nat.le_of_ble_eq_true rfl) (fun sz p e s m args below meth c A ls hA1 hname S Y hl => ?_)
  have hx := S.hx
  have hb := S.hb
  have hl : lv_has ls 2 [(0, .ref h), (1, .ref o)] := hl
  have hk : kp L f L f [h, dg, nu, lf, lt, cs] := kp.rf
  refine lv_aload_n hx hb dX7_takeOver_0 rfl (lv_at hl 1 rfl) ?_
  refine pg_get S Y ok_X7 0 (by decide) kf7_9 (v := .ref z_dg) p_o rfl dX7_takeOver_1 ?_
  refine lv_iconst (v := 0) hx hb dX7_takeOver_4 (by decide) ?_
  refine lv_aload_n hx hb dX7_takeOver_5 rfl (lv_at hl 0 rfl) ?_
  refine pg_get S Y ok_X7 0 (by decide) kf7_9 (v := .ref dg) p_h rfl dX7_takeOver_6 ?_
  refine lv_iconst (v := 0) hx hb dX7_takeOver_9 (by decide) ?_
  refine lv_aload_n hx hb dX7_takeOver_10 rfl (lv_at hl 0 rfl) ?_
  refine pg_get S Y ok_X7 0 (by decide) kf7_9 (v := .ref dg) p_h rfl dX7_takeOver_11 ?_
  refine pg_alen S Y (k := 0) (v := 300) p_dg rfl rfl dX7_takeOver_14 ?_
  refine pg_copyi S Y hl.1 km7_34 kAn kAs kAi p_z_dg p_dg (by decide) (by decide) (by decide) (by decide) (by decide) (Nat.le_of_ble_eq_true rfl) (Nat.le_of_ble_eq_true rfl) dX7_takeOver_15 (fun f_228 H locs ef_228 Y => ?_)
  obtain ⟨g_227, eg_227⟩ : ∃ z, z = va_cpy (b1) (a1) (0 : Int32).toNatClampNeg (0 : Int32).toNatClampNeg (300 : Int32).toNatClampNeg := ⟨_, rfl⟩
  rw [← eg_227] at ef_228
  have p_h := p_h.up ef_228 ((p_h.neA p_dg))
  have p_nu := p_nu.up ef_228 ((Ne.symm (n1)))
  have p_lf := p_lf.up ef_228 ((p_lf.neN p_dg (by decide)))
  have p_lt := p_lt.up ef_228 ((p_lt.neN p_dg (by decide)))
  have p_cs := p_cs.up ef_228 ((p_cs.neN p_dg (by decide)))
  have p_o := p_o.up ef_228 ((p_o.neA p_dg))
  have p_z_nu := p_z_nu.up ef_228 ((n3))
  have p_z_lf := p_z_lf.up ef_228 ((p_z_lf.neN p_dg (by decide)))
  have p_z_lt := p_z_lt.up ef_228 ((p_z_lt.neN p_dg (by decide)))
  have p_z_cs := p_z_cs.up ef_228 ((p_z_cs.neN p_dg (by decide)))
  have p_dg := p_dg.me ef_228
  have hk := hk.up ef_228 (by simp)
  refine lv_aload_n hx hb dX7_takeOver_18 rfl (lv_at hl 1 rfl) ?_
  refine pg_get S Y ok_X7 1 (by decide) kf7_15 (v := .ref z_nu) p_o rfl dX7_takeOver_19 ?_
  refine lv_iconst (v := 0) hx hb dX7_takeOver_22 (by decide) ?_
  refine lv_aload_n hx hb dX7_takeOver_23 rfl (lv_at hl 0 rfl) ?_
  refine pg_get S Y ok_X7 1 (by decide) kf7_15 (v := .ref nu) p_h rfl dX7_takeOver_24 ?_
  refine lv_iconst (v := 0) hx hb dX7_takeOver_27 (by decide) ?_
  refine lv_aload_n hx hb dX7_takeOver_28 rfl (lv_at hl 0 rfl) ?_
  refine pg_get S Y ok_X7 1 (by decide) kf7_15 (v := .ref nu) p_h rfl dX7_takeOver_29 ?_
  refine pg_alen S Y (k := 0) (v := 300) p_nu rfl rfl dX7_takeOver_32 ?_
  refine pg_copyi S Y hl.1 km7_34 kAn kAs kAi p_z_nu p_nu (by decide) (by decide) (by decide) (by decide) (by decide) (Nat.le_of_ble_eq_true rfl) (Nat.le_of_ble_eq_true rfl) dX7_takeOver_33 (fun f_230 H locs ef_230 Y => ?_)
  obtain ⟨g_229, eg_229⟩ : ∃ z, z = va_cpy (b2) (a2) (0 : Int32).toNatClampNeg (0 : Int32).toNatClampNeg (300 : Int32).toNatClampNeg := ⟨_, rfl⟩
  rw [← eg_229] at ef_230
  have p_h := p_h.up ef_230 ((p_h.neA p_nu))
  have p_dg := p_dg.up ef_230 ((n1))
  have p_lf := p_lf.up ef_230 ((p_lf.neN p_nu (by decide)))
  have p_lt := p_lt.up ef_230 ((p_lt.neN p_nu (by decide)))
  have p_cs := p_cs.up ef_230 ((p_cs.neN p_nu (by decide)))
  have p_o := p_o.up ef_230 ((p_o.neA p_nu))
  have p_z_lf := p_z_lf.up ef_230 ((p_z_lf.neN p_nu (by decide)))
  have p_z_lt := p_z_lt.up ef_230 ((p_z_lt.neN p_nu (by decide)))
  have p_z_cs := p_z_cs.up ef_230 ((p_z_cs.neN p_nu (by decide)))
  have p_nu := p_nu.me ef_230
  have hk := hk.up ef_230 (by simp)
  refine lv_aload_n hx hb dX7_takeOver_36 rfl (lv_at hl 1 rfl) ?_
  refine pg_get S Y ok_X7 2 (by decide) kf7_18 (v := .ref z_lf) p_o rfl dX7_takeOver_37 ?_
  refine lv_iconst (v := 0) hx hb dX7_takeOver_40 (by decide) ?_
  refine lv_aload_n hx hb dX7_takeOver_41 rfl (lv_at hl 0 rfl) ?_
  refine pg_get S Y ok_X7 2 (by decide) kf7_18 (v := .ref lf) p_h rfl dX7_takeOver_42 ?_
  refine lv_iconst (v := 0) hx hb dX7_takeOver_45 (by decide) ?_
  refine lv_aload_n hx hb dX7_takeOver_46 rfl (lv_at hl 0 rfl) ?_
  refine pg_get S Y ok_X7 2 (by decide) kf7_18 (v := .ref lf) p_h rfl dX7_takeOver_47 ?_
  refine pg_alen S Y (k := 0) (v := 3) p_lf rfl rfl dX7_takeOver_50 ?_
  refine pg_copyi S Y hl.1 km7_34 kAn kAs kAi p_z_lf p_lf (by decide) (by decide) (by decide) (by decide) (by decide) (Nat.le_of_ble_eq_true rfl) (Nat.le_of_ble_eq_true rfl) dX7_takeOver_51 (fun f_232 H locs ef_232 Y => ?_)
  obtain ⟨g_231, eg_231⟩ : ∃ z, z = va_cpy (b3) (a3) (0 : Int32).toNatClampNeg (0 : Int32).toNatClampNeg (3 : Int32).toNatClampNeg := ⟨_, rfl⟩
  rw [← eg_231] at ef_232
  have p_h := p_h.up ef_232 ((p_h.neA p_lf))
  have p_dg := p_dg.up ef_232 ((p_dg.neN p_lf (by decide)))
  have p_nu := p_nu.up ef_232 ((p_nu.neN p_lf (by decide)))
  have p_lt := p_lt.up ef_232 ((Ne.symm (n2)))
  have p_cs := p_cs.up ef_232 ((p_cs.neN p_lf (by decide)))
  have p_o := p_o.up ef_232 ((p_o.neA p_lf))
  have p_z_lt := p_z_lt.up ef_232 ((n4))
  have p_z_cs := p_z_cs.up ef_232 ((p_z_cs.neN p_lf (by decide)))
  have p_lf := p_lf.me ef_232
  have hk := hk.up ef_232 (by simp)
  refine lv_aload_n hx hb dX7_takeOver_54 rfl (lv_at hl 1 rfl) ?_
  refine pg_get S Y ok_X7 3 (by decide) kf7_21 (v := .ref z_lt) p_o rfl dX7_takeOver_55 ?_
  refine lv_iconst (v := 0) hx hb dX7_takeOver_58 (by decide) ?_
  refine lv_aload_n hx hb dX7_takeOver_59 rfl (lv_at hl 0 rfl) ?_
  refine pg_get S Y ok_X7 3 (by decide) kf7_21 (v := .ref lt) p_h rfl dX7_takeOver_60 ?_
  refine lv_iconst (v := 0) hx hb dX7_takeOver_63 (by decide) ?_
  refine lv_aload_n hx hb dX7_takeOver_64 rfl (lv_at hl 0 rfl) ?_
  refine pg_get S Y ok_X7 3 (by decide) kf7_21 (v := .ref lt) p_h rfl dX7_takeOver_65 ?_
  refine pg_alen S Y (k := 0) (v := 3) p_lt rfl rfl dX7_takeOver_68 ?_
  refine pg_copyi S Y hl.1 km7_34 kAn kAs kAi p_z_lt p_lt (by decide) (by decide) (by decide) (by decide) (by decide) (Nat.le_of_ble_eq_true rfl) (Nat.le_of_ble_eq_true rfl) dX7_takeOver_69 (fun f_234 H locs ef_234 Y => ?_)
  obtain ⟨g_233, eg_233⟩ : ∃ z, z = va_cpy (b4) (a4) (0 : Int32).toNatClampNeg (0 : Int32).toNatClampNeg (3 : Int32).toNatClampNeg := ⟨_, rfl⟩
  rw [← eg_233] at ef_234
  have p_h := p_h.up ef_234 ((p_h.neA p_lt))
  have p_dg := p_dg.up ef_234 ((p_dg.neN p_lt (by decide)))
  have p_nu := p_nu.up ef_234 ((p_nu.neN p_lt (by decide)))
  have p_lf := p_lf.up ef_234 ((n2))
  have p_cs := p_cs.up ef_234 ((p_cs.neN p_lt (by decide)))
  have p_o := p_o.up ef_234 ((p_o.neA p_lt))
  have p_z_cs := p_z_cs.up ef_234 ((p_z_cs.neN p_lt (by decide)))
  have p_lt := p_lt.me ef_234
  have hk := hk.up ef_234 (by simp)
  refine lv_aload_n hx hb dX7_takeOver_72 rfl (lv_at hl 1 rfl) ?_
  refine pg_get S Y ok_X7 4 (by decide) kf7_24 (v := .ref z_cs) p_o rfl dX7_takeOver_73 ?_
  refine lv_iconst (v := 0) hx hb dX7_takeOver_76 (by decide) ?_
  refine lv_aload_n hx hb dX7_takeOver_77 rfl (lv_at hl 0 rfl) ?_
  refine pg_get S Y ok_X7 4 (by decide) kf7_24 (v := .ref cs) p_h rfl dX7_takeOver_78 ?_
  refine lv_iconst (v := 0) hx hb dX7_takeOver_81 (by decide) ?_
  refine lv_aload_n hx hb dX7_takeOver_82 rfl (lv_at hl 0 rfl) ?_
  refine pg_get S Y ok_X7 4 (by decide) kf7_24 (v := .ref cs) p_h rfl dX7_takeOver_83 ?_
  refine pg_alen S Y (k := 0) (v := 120) p_cs rfl rfl dX7_takeOver_86 ?_
  refine pg_copyi S Y hl.1 km7_34 kAn kAs kAi p_z_cs p_cs (by decide) (by decide) (by decide) (by decide) (by decide) (Nat.le_of_ble_eq_true rfl) (Nat.le_of_ble_eq_true rfl) dX7_takeOver_87 (fun f_236 H locs ef_236 Y => ?_)
  obtain ⟨g_235, eg_235⟩ : ∃ z, z = va_cpy (b5) (a5) (0 : Int32).toNatClampNeg (0 : Int32).toNatClampNeg (120 : Int32).toNatClampNeg := ⟨_, rfl⟩
  rw [← eg_235] at ef_236
  have p_h := p_h.up ef_236 ((p_h.neA p_cs))
  have p_dg := p_dg.up ef_236 ((p_dg.neN p_cs (by decide)))
  have p_nu := p_nu.up ef_236 ((p_nu.neN p_cs (by decide)))
  have p_lf := p_lf.up ef_236 ((p_lf.neN p_cs (by decide)))
  have p_lt := p_lt.up ef_236 ((p_lt.neN p_cs (by decide)))
  have p_o := p_o.up ef_236 ((p_o.neA p_cs))
  have p_cs := p_cs.me ef_236
  have hk := hk.up ef_236 (by simp)
  refine lv_aload_n hx hb dX7_takeOver_90 rfl (lv_at hl 0 rfl) ?_
  refine lv_aload_n hx hb dX7_takeOver_91 rfl (lv_at hl 1 rfl) ?_
  refine pg_get S Y ok_X7 5 (by decide) kf7_27 (v := .int z_ln) p_o rfl dX7_takeOver_92 ?_
  refine pg_put S Y ok_X7 5 (by decide) kf7_27 rfl (fs' := [.ref dg, .ref nu, .ref lf, .ref lt, .ref cs, .int z_ln, .int cc]) (v := .int z_ln) p_h rfl rfl rfl (Nat.le_of_ble_eq_true rfl) dX7_takeOver_95 (fun f_237 H locs ef_237 Y => ?_)
  have p_dg := p_dg.up ef_237 ((p_dg.neB p_h))
  have p_nu := p_nu.up ef_237 ((p_nu.neB p_h))
  have p_lf := p_lf.up ef_237 ((p_lf.neB p_h))
  have p_lt := p_lt.up ef_237 ((p_lt.neB p_h))
  have p_cs := p_cs.up ef_237 ((p_cs.neB p_h))
  have p_o := p_o.up ef_237 ((Ne.symm (n0)))
  have p_h := p_h.me ef_237
  have hk := hk.up ef_237 (by simp)
  refine lv_aload_n hx hb dX7_takeOver_98 rfl (lv_at hl 0 rfl) ?_
  refine lv_aload_n hx hb dX7_takeOver_99 rfl (lv_at hl 1 rfl) ?_
  refine pg_get S Y ok_X7 6 (by decide) kf7_31 (v := .int z_cc) p_o rfl dX7_takeOver_100 ?_
  refine pg_put S Y ok_X7 6 (by decide) kf7_31 rfl (fs' := [.ref dg, .ref nu, .ref lf, .ref lt, .ref cs, .int z_ln, .int z_cc]) (v := .int z_cc) p_h rfl rfl rfl (Nat.le_of_ble_eq_true rfl) dX7_takeOver_103 (fun f_238 H locs ef_238 Y => ?_)
  have p_dg := p_dg.up ef_238 ((p_dg.neB p_h))
  have p_nu := p_nu.up ef_238 ((p_nu.neB p_h))
  have p_lf := p_lf.up ef_238 ((p_lf.neB p_h))
  have p_lt := p_lt.up ef_238 ((p_lt.neB p_h))
  have p_cs := p_cs.up ef_238 ((p_cs.neB p_h))
  have p_o := p_o.up ef_238 ((Ne.symm (n0)))
  have p_h := p_h.me ef_238
  have hk := hk.up ef_238 (by simp)
  exact prV (post := fun L1 f1 => ∃ d1 : Nat → Int32, ∃ d2 : Nat → Int32, ∃ d3 : Nat → Int32, ∃ d4 : Nat → Int32, ∃ d5 : Nat → Int32, kp L f L1 f1 [h, dg, nu, lf, lt, cs] ∧ pt L1 f1 h (.inr (7, [.ref dg, .ref nu, .ref lf, .ref lt, .ref cs, .int z_ln, .int z_cc])) ∧ pt L1 f1 dg (.inl (G.2 0, 300, .inl d1)) ∧ pt L1 f1 nu (.inl (G.2 0, 300, .inl d2)) ∧ pt L1 f1 lf (.inl (G.2 0, 3, .inl d3)) ∧ pt L1 f1 lt (.inl (G.2 0, 3, .inl d4)) ∧ pt L1 f1 cs (.inl (G.2 0, 120, .inl d5))) S Y (by decide) (by decide) hA1 ⟨g_227, g_229, g_231, g_233, g_235, hk, p_h, p_dg, p_nu, p_lf, p_lt, p_cs⟩ dX7_takeOver_106
