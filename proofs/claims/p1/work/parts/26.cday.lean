theorem dX11_day_0 : decode cX11_day 0 = .ok (.iload_n 1, 1) := by decide +kernel
theorem dX11_day_1 : decode cX11_day 1 = .ok (.iconst 1, 1) := by decide +kernel
theorem dX11_day_2 : decode cX11_day 2 = .ok (.bipush 60, 2) := by decide +kernel
theorem dX11_day_4 : decode cX11_day 4 = .ok (.invokestatic 146, 3) := by decide +kernel
theorem dX11_day_7 : decode cX11_day 7 = .ok (.ifCond .eq 21, 3) := by decide +kernel
theorem dX11_day_28 : decode cX11_day 28 = .ok (.iconst (-1), 1) := by decide +kernel
theorem dX11_day_29 : decode cX11_day 29 = .ok (.ireturn, 1) := by decide +kernel
theorem dX11_day_10 : decode cX11_day 10 = .ok (.aload_n 0, 1) := by decide +kernel
theorem dX11_day_11 : decode cX11_day 11 = .ok (.getfield 13, 3) := by decide +kernel
theorem dX11_day_14 : decode cX11_day 14 = .ok (.getfield 131, 3) := by decide +kernel
theorem dX11_day_17 : decode cX11_day 17 = .ok (.getfield 150, 3) := by decide +kernel
theorem dX11_day_20 : decode cX11_day 20 = .ok (.iload_n 1, 1) := by decide +kernel
theorem dX11_day_21 : decode cX11_day 21 = .ok (.iadd, 1) := by decide +kernel
theorem dX11_day_22 : decode cX11_day 22 = .ok (.sipush 9999, 3) := by decide +kernel
theorem dX11_day_25 : decode cX11_day 25 = .ok (.if_icmp .le 5, 3) := by decide +kernel
theorem dX11_day_30 : decode cX11_day 30 = .ok (.iconst 0, 1) := by decide +kernel
theorem dX11_day_31 : decode cX11_day 31 = .ok (.istore_n 2, 1) := by decide +kernel
theorem dX11_day_32 : decode cX11_day 32 = .ok (.iload_n 2, 1) := by decide +kernel
theorem dX11_day_33 : decode cX11_day 33 = .ok (.iload_n 1, 1) := by decide +kernel
theorem dX11_day_34 : decode cX11_day 34 = .ok (.if_icmp .ge 17, 3) := by decide +kernel
theorem dX11_day_51 : decode cX11_day 51 = .ok (.aload_n 0, 1) := by decide +kernel
theorem dX11_day_52 : decode cX11_day 52 = .ok (.getfield 13, 3) := by decide +kernel
theorem dX11_day_55 : decode cX11_day 55 = .ok (.getfield 131, 3) := by decide +kernel
theorem dX11_day_58 : decode cX11_day 58 = .ok (.getfield 158, 3) := by decide +kernel
theorem dX11_day_61 : decode cX11_day 61 = .ok (.ireturn, 1) := by decide +kernel
theorem dX11_day_37 : decode cX11_day 37 = .ok (.aload_n 0, 1) := by decide +kernel
theorem dX11_day_38 : decode cX11_day 38 = .ok (.getfield 50, 3) := by decide +kernel
theorem dX11_day_41 : decode cX11_day 41 = .ok (.invokevirtual 154, 3) := by decide +kernel
theorem cw_X1_passDay : CWv yX1_passDay cX1_passDay 4 (some .boolean) 0 := ⟨⟨⟨List.mem_of_getElem? (i := 133) (by decide +kernel), by decide +kernel⟩, ⟨List.mem_of_getElem? (i := 1067) (by decide +kernel), by decide +kernel⟩, by decide +kernel⟩, ⟨List.mem_of_getElem? (i := 1065) (by decide +kernel), by decide +kernel⟩, ⟨List.mem_of_getElem? (i := 1066) (by decide +kernel), by decide +kernel⟩⟩
theorem km11_154 : inW (Cond.methodLink RX11 154 yX1_passDay) := ⟨List.mem_of_getElem? (i := 1064) (by decide +kernel), by decide +kernel⟩
theorem dX11_day_44 : decode cX11_day 44 = .ok (.pop, 1) := by decide +kernel
theorem dX11_day_45 : decode cX11_day 45 = .ok (.iinc 2 1, 3) := by decide +kernel
theorem dX11_day_48 : decode cX11_day 48 = .ok (.goto (-16), 3) := by decide +kernel
set_option maxHeartbeats 4000000 in
set_option maxRecDepth 100000 in
theorem c_X11_day {l : Launch} {G : GG} {L : List Nat} {f : HF} {h w k rd jd rg dd fo su ch ta ag sc nw pa fe cl wo si we mo oa aa : Nat} {n : Int32} {g3 g4 : Nat → Int32} {pf : Nat → Option Nat} {L0 : List Nat} (p_h : pt L f h (.inr (11, [.ref w, .ref k, .ref rd, .ref jd, .ref rg, .ref dd, .ref fo, .ref su, .ref ch]))) (p_w : pt L f w (.inr (10, [.ref ta, .ref ag, .ref sc, .ref nw, .ref pa, .ref fe, .ref cl, .ref wo, .ref si, .ref we, .int 0, .int 0, .int (-1), .int 0, .int 0]))) (p_dd : pt L f dd (.inr (1, [.ref w, .ref jd, .ref rg, .ref mo, .int 0]))) (p_nw : pt L f nw (.inr (4, [.ref oa, .ref aa, .int 0, .int 0, .int 0, .int 0, .int 137]))) (p_oa : pt L f oa (.inl (G.2 0, 98, .inl g3))) (p_aa : pt L f aa (.inl (G.2 0, 90, .inl g4))) (p_pa : pt L f pa (.inl (G.2 3, 30, .inr (.inr (.inr (.inr pf)))))) (hpf : pastOK G L0 nw L f pf 30) : PMi l yX11_day cX11_day 3 .int 5 0 0 G [.ref h, .int n] L f (fun r L1 f1 => r = dayF n) := by
  refine PMi.of (post := fun r L1 f1 => r = dayF n) (own := RX11) (by decide) rfl (Nat.le_of_ble_eq_true rfl) (fun sz p e s m args below meth c A ls hA1 hname S Y hl => ?_)
  have hx := S.hx
  have hb := S.hb
  have hl : lv_has ls 3 [(0, .ref h), (1, .int n)] := hl
  refine lv_iload_n hx hb dX11_day_0 rfl (lv_at hl 1 rfl) ?_
  refine lv_iconst (v := 1) hx hb dX11_day_1 (by decide) ?_
  refine lv_bipush (v := 60) hx hb dX11_day_2 (by decide) ?_
  refine cSp (As := [.int n, .int 1, .int 60]) (rest := []) S Y (c_X11_within (l := l)) cw_X11_within km11_146 rfl ⟨Nat.le_of_ble_eq_true rfl, Nat.le_of_ble_eq_true rfl⟩ hl.1 rfl (Nat.le_of_ble_eq_true rfl) ⟨Nat.le_of_ble_eq_true rfl, Nat.le_of_ble_eq_true rfl⟩ dX11_day_4 (fun r_1379 H locs er_1379 Y => ?_)
  refine lv_fold (z := (wi n 1 60)) er_1379 ?_
  refine lv_if_eq (tgt := 28) hx hb dX11_day_7 (by decide) (fun c_1380 => ?_) (fun c_1380 => ?_)
  · refine lv_iconst (v := (-1)) hx hb dX11_day_28 (by decide) ?_
    exact prI (post := fun r L1 f1 => r = dayF n) S Y rfl (by decide) (by decide) hA1 (by rw [dayF, if_pos c_1380]) dX11_day_29
  · obtain ⟨j, hj, hn⟩ := wi_60 c_1380
    refine lv_aload_n hx hb dX11_day_10 rfl (lv_at hl 0 rfl) ?_
    refine pg_get S Y ok_X11 0 (by decide) kf11_13 (v := .ref w) p_h rfl dX11_day_11 ?_
    refine pg_getN S Y ok_X10 3 (by decide) kf11_131 (v := .ref nw) p_w rfl dX11_day_14 ?_
    refine pg_getN S Y ok_X4 4 (by decide) kf11_150 (v := .int 0) p_nw rfl dX11_day_17 ?_
    refine lv_iload_n hx hb dX11_day_20 rfl (lv_at hl 1 rfl) ?_
    refine lv_iadd hx hb dX11_day_21 ?_
    refine lv_topi (fun x_1381 ex_1381 => ?_)
    refine lv_sipush (v := 9999) hx hb dX11_day_22 (by decide) ?_
    refine lv_icmp_le (tgt := 30) hx hb dX11_day_25 (by decide) (fun _ => ?_) (fun h => absurd (by rw [ex_1381, hn, show (0 : Int32) = nI 0 from rfl, nI_add, show (9999 : Int32) = nI 9999 from rfl]; exact nI_le (by omega) (by omega)) h)
    refine lv_iconst (v := 0) hx hb dX11_day_30 (by decide) ?_
    refine lv_istore_n (lv' := [(2, .int 0), (0, .ref h), (1, .int n)]) hx hb dX11_day_31 rfl hl (by decide) rfl (fun ls hl => ?_)
    have loop : ∀ (n0 i : Nat) (L2 : List Nat) (f2 : HF) (el : Int32) (sp : Int32) (e0 : Nat) (t0 : Nat) (g5 : Nat → Int32) (g6 : Nat → Int32) (dt : Int32) (rn : Int32) (xx : Int32) (H : Heap) (locs : List Loc) (ls : Array Slot) (x : Int32), i + n0 = j → x = nI i → pt L2 f2 h (.inr (11, [.ref w, .ref k, .ref rd, .ref jd, .ref rg, .ref dd, .ref fo, .ref su, .ref ch])) → pt L2 f2 dd (.inr (1, [.ref w, .ref jd, .ref rg, .ref mo, .int 0])) → pt L2 f2 w (.inr (10, [.ref ta, .ref ag, .ref sc, .ref nw, .ref pa, .ref fe, .ref cl, .ref wo, .ref si, .ref we, .int 0, .int 0, .int (-1), .int el, .int sp])) → pt L2 f2 pa (.inl (G.2 3, 30, .inr (.inr (.inr (.inr pf))))) → pt L2 f2 nw (.inr (4, [.ref oa, .ref aa, .int 0, .int 0, .int dt, .int rn, .int xx])) → pt L2 f2 oa (.inl (G.2 0, 98, .inl g5)) → pt L2 f2 aa (.inl (G.2 0, 90, .inl g6)) → pastOK G L0 nw L2 f2 pf 30 → el = nI e0 → e0 < 30 → sp = nI t0 → t0 ≤ 30 → dt = nI i → rn = nI (RN_ i) → xx = nI (XN i) → DY G A s [] L2 f2 H locs → lv_has ls 3 [(2, .int x), (0, .ref h), (1, .int n)] → W p l e (rmD 5 0 0) s m args below meth c H locs (0) (0) (MQ below (va_Qi (fun r (u : List Nat × HF) => (fun r L1 f1 => r = dayF n) r u.1 u.2) (fun u t => pOut G (va_A (va_pl L f) sz) u.1 u.2 t) (va_A (va_pl L f) sz)) args s 0 0 A) (F0 m 32 ls []) := by
      intro n0
      induction n0 with
      | zero =>
        intro i L2 f2 el sp e0 t0 g5 g6 dt rn xx H locs ls x hin ex p_h p_dd p_w p_pa p_nw p_oa p_aa hpf he he2 ht ht2 hd hr hxx Y hl
        obtain rfl : j = i := by omega
        refine lv_iload_n hx hb dX11_day_32 rfl (lv_at hl 0 rfl) ?_
        refine lv_iload_n hx hb dX11_day_33 rfl (lv_at hl 2 rfl) ?_
        refine lv_icmp_ge (tgt := 51) hx hb dX11_day_34 (by decide) (fun _ => ?_) (fun h => absurd (by rw [ex, hn]; exact nI_le (Nat.le_refl _) (by omega)) h)
        refine lv_aload_n hx hb dX11_day_51 rfl (lv_at hl 1 rfl) ?_
        refine pg_get S Y ok_X11 0 (by decide) kf11_13 (v := .ref w) p_h rfl dX11_day_52 ?_
        refine pg_getN S Y ok_X10 3 (by decide) kf11_131 (v := .ref nw) p_w rfl dX11_day_55 ?_
        refine pg_getN S Y ok_X4 5 (by decide) kf11_158 (v := .int rn) p_nw rfl dX11_day_58 ?_
        exact prI (post := fun r L1 f1 => r = dayF n) S Y rfl (by decide) (by decide) hA1 (by rw [dayF, if_neg c_1380, hn, nI_clamp (by omega)]; exact hr) dX11_day_61
      | succ n0 ih =>
        intro i L2 f2 el sp e0 t0 g5 g6 dt rn xx H locs ls x hin ex p_h p_dd p_w p_pa p_nw p_oa p_aa hpf he he2 ht ht2 hd hr hxx Y hl
        have hij : i < j := by omega
        have hi9 : i < 9999 := by omega
        have hin2 : i + 1 + n0 = j := by omega
        refine lv_iload_n hx hb dX11_day_32 rfl (lv_at hl 0 rfl) ?_
        refine lv_iload_n hx hb dX11_day_33 rfl (lv_at hl 2 rfl) ?_
        refine lv_icmp_ge (tgt := 51) hx hb dX11_day_34 (by decide) (fun h => absurd h (by rw [ex, hn]; exact nI_ge hij (by omega))) (fun _ => ?_)
        refine lv_aload_n hx hb dX11_day_37 rfl (lv_at hl 1 rfl) ?_
        refine pg_get S Y ok_X11 5 (by decide) kf11_50 (v := .ref dd) p_h rfl dX11_day_38 ?_
        refine cVi (As := []) (rest := []) S Y (c_X1_passDay (l := l) p_dd p_w p_pa p_nw p_oa p_aa hpf he he2 ht ht2 hd hi9 hxx) cw_X1_passDay km11_154 p_dd ok_X1.1 rfl rfl ⟨Nat.le_of_ble_eq_true rfl, Nat.le_of_ble_eq_true rfl⟩ hl.1 rfl (Nat.le_of_ble_eq_true rfl) ⟨Nat.le_of_ble_eq_true rfl, Nat.le_of_ble_eq_true rfl⟩ dX11_day_41 (fun r_1382 L_1383 f_1384 H locs hf_1384 Y => ?_)
        obtain ⟨hone, d_1385, r_1386, x_1387, hd1, hr1, hx1, hrem⟩ := hf_1384
        obtain ⟨el_1388, sp_1389, e0_1390, t0_1391, g5_1392, g6_1393, z_1395, z_1396, z_1397, z_1398, z_1399, hpf, he, he2, ht, ht2, fr_1394⟩ := hrem
        have p_h := fr_1394 h _ (p_h.neK p_w (by decide)) (by rintro (⟨x, q⟩ | ⟨x, q⟩ | ⟨x, q⟩) <;> cases q) p_h
        have p_dd := fr_1394 dd _ (p_dd.neK p_w (by decide)) (by rintro (⟨x, q⟩ | ⟨x, q⟩ | ⟨x, q⟩) <;> cases q) p_dd
        have p_w := z_1395
        have p_pa := z_1396
        have p_nw := z_1397
        have p_oa := z_1398
        have p_aa := z_1399
        refine lv_fold (z := 1) hone ?_
        refine lv_pop hx hb dX11_day_44 rfl ?_
        obtain ⟨x_1400, ex_1400⟩ : ∃ z : Int32, z = x + 1 := ⟨_, rfl⟩
        refine lv_iinc (v := x_1400) (lv' := [(2, .int x_1400), (0, .ref h), (1, .int n)]) hx hb dX11_day_45 hl (k := 0) rfl (by rw [ex_1400]; rfl) (by decide) rfl (fun ls hl => ?_)
        refine lv_goto (tgt := 32) hx hb dX11_day_48 (by decide) ?_
        have ex2 : x_1400 = nI (i + 1) := by rw [ex_1400, ex]; exact nI_1 i
        exact ih (i + 1) _ _ _ _ _ _ _ _ _ _ _ _ _ _ _ hin2 ex2 p_h p_dd p_w p_pa p_nw p_oa p_aa hpf he he2 ht ht2 (by rw [hd1, hd]; exact nI_1 i) hr1 hx1 Y hl
    exact loop j 0 _ _ 0 0 0 0 _ _ 0 0 137 _ _ _ 0 (Nat.zero_add j) rfl p_h p_dd p_w p_pa p_nw p_oa p_aa hpf rfl (by decide) rfl (by decide) rfl rfl rfl Y hl
