theorem dL_law_18 : decode cL_law 18 = .ok (.iload_n 3, 1) := by decide +kernel
theorem dL_law_19 : decode cL_law 19 = .ok (.aload_n 0, 1) := by decide +kernel
theorem dL_law_20 : decode cL_law 20 = .ok (.arraylength, 1) := by decide +kernel
theorem dL_law_21 : decode cL_law 21 = .ok (.bipush 6, 2) := by decide +kernel
theorem dL_law_23 : decode cL_law 23 = .ok (.isub, 1) := by decide +kernel
theorem dL_law_24 : decode cL_law 24 = .ok (.if_icmp .gt 1508, 3) := by decide +kernel
theorem dL_law_1532 : decode cL_law 1532 = .ok (.iconst 1, 1) := by decide +kernel
theorem dL_law_1533 : decode cL_law 1533 = .ok (.ireturn, 1) := by decide +kernel
theorem dL_law_27 : decode cL_law 27 = .ok (.aload_n 0, 1) := by decide +kernel
theorem dL_law_28 : decode cL_law 28 = .ok (.iload_n 3, 1) := by decide +kernel
theorem dL_law_29 : decode cL_law 29 = .ok (.iaload, 1) := by decide +kernel
theorem dL_law_30 : decode cL_law 30 = .ok (.bipush 63, 2) := by decide +kernel
theorem dL_law_32 : decode cL_law 32 = .ok (.iand, 1) := by decide +kernel
theorem dL_law_1526 : decode cL_law 1526 = .ok (.iinc 3 6, 3) := by decide +kernel
theorem dL_law_1529 : decode cL_law 1529 = .ok (.goto (-1511), 3) := by decide +kernel
theorem dL_law_33 : decode cL_law 33 = .ok (.tableswitch 1493 0 47 #[207, 240, 303, 326, 339, 362, 385, 438, 461, 484, 507, 540, 563, 586, 609, 642, 655, 688, 721, 744, 777, 810, 833, 856, 899, 932, 981, 1004, 1037, 1050, 1093, 1126, 1149, 1172, 1185, 1198, 1231, 1254, 1267, 1336, 1369, 1382, 1395, 1408, 1431, 1444, 1457, 1470], 207) := by decide +kernel
theorem swL_0_47 (x : Int32) : x = 0 ∨ x = 1 ∨ x = 2 ∨ x = 3 ∨ x = 4 ∨ x = 5 ∨ x = 6 ∨ x = 7 ∨ x = 8 ∨ x = 9 ∨ x = 10 ∨ x = 11 ∨ x = 12 ∨ x = 13 ∨ x = 14 ∨ x = 15 ∨ x = 16 ∨ x = 17 ∨ x = 18 ∨ x = 19 ∨ x = 20 ∨ x = 21 ∨ x = 22 ∨ x = 23 ∨ x = 24 ∨ x = 25 ∨ x = 26 ∨ x = 27 ∨ x = 28 ∨ x = 29 ∨ x = 30 ∨ x = 31 ∨ x = 32 ∨ x = 33 ∨ x = 34 ∨ x = 35 ∨ x = 36 ∨ x = 37 ∨ x = 38 ∨ x = 39 ∨ x = 40 ∨ x = 41 ∨ x = 42 ∨ x = 43 ∨ x = 44 ∨ x = 45 ∨ x = 46 ∨ x = 47 ∨ (x.toInt < 0 ∨ 47 < x.toInt) := by
  have key : ∀ k : Int32, x.toInt = k.toInt → x = k := fun k h => Int32.toInt_inj.mp h
  by_cases h1 : x.toInt < 0
  · simp [h1]
  by_cases h2 : 47 < x.toInt
  · simp [h2]
  have h3 : x.toInt = 0 ∨ x.toInt = 1 ∨ x.toInt = 2 ∨ x.toInt = 3 ∨ x.toInt = 4 ∨ x.toInt = 5 ∨ x.toInt = 6 ∨ x.toInt = 7 ∨ x.toInt = 8 ∨ x.toInt = 9 ∨ x.toInt = 10 ∨ x.toInt = 11 ∨ x.toInt = 12 ∨ x.toInt = 13 ∨ x.toInt = 14 ∨ x.toInt = 15 ∨ x.toInt = 16 ∨ x.toInt = 17 ∨ x.toInt = 18 ∨ x.toInt = 19 ∨ x.toInt = 20 ∨ x.toInt = 21 ∨ x.toInt = 22 ∨ x.toInt = 23 ∨ x.toInt = 24 ∨ x.toInt = 25 ∨ x.toInt = 26 ∨ x.toInt = 27 ∨ x.toInt = 28 ∨ x.toInt = 29 ∨ x.toInt = 30 ∨ x.toInt = 31 ∨ x.toInt = 32 ∨ x.toInt = 33 ∨ x.toInt = 34 ∨ x.toInt = 35 ∨ x.toInt = 36 ∨ x.toInt = 37 ∨ x.toInt = 38 ∨ x.toInt = 39 ∨ x.toInt = 40 ∨ x.toInt = 41 ∨ x.toInt = 42 ∨ x.toInt = 43 ∨ x.toInt = 44 ∨ x.toInt = 45 ∨ x.toInt = 46 ∨ x.toInt = 47 := by omega
  rcases h3 with h | h | h | h | h | h | h | h | h | h | h | h | h | h | h | h | h | h | h | h | h | h | h | h | h | h | h | h | h | h | h | h | h | h | h | h | h | h | h | h | h | h | h | h | h | h | h | h
  · rw [key 0 (h.trans (by decide))]; decide
  · rw [key 1 (h.trans (by decide))]; decide
  · rw [key 2 (h.trans (by decide))]; decide
  · rw [key 3 (h.trans (by decide))]; decide
  · rw [key 4 (h.trans (by decide))]; decide
  · rw [key 5 (h.trans (by decide))]; decide
  · rw [key 6 (h.trans (by decide))]; decide
  · rw [key 7 (h.trans (by decide))]; decide
  · rw [key 8 (h.trans (by decide))]; decide
  · rw [key 9 (h.trans (by decide))]; decide
  · rw [key 10 (h.trans (by decide))]; decide
  · rw [key 11 (h.trans (by decide))]; decide
  · rw [key 12 (h.trans (by decide))]; decide
  · rw [key 13 (h.trans (by decide))]; decide
  · rw [key 14 (h.trans (by decide))]; decide
  · rw [key 15 (h.trans (by decide))]; decide
  · rw [key 16 (h.trans (by decide))]; decide
  · rw [key 17 (h.trans (by decide))]; decide
  · rw [key 18 (h.trans (by decide))]; decide
  · rw [key 19 (h.trans (by decide))]; decide
  · rw [key 20 (h.trans (by decide))]; decide
  · rw [key 21 (h.trans (by decide))]; decide
  · rw [key 22 (h.trans (by decide))]; decide
  · rw [key 23 (h.trans (by decide))]; decide
  · rw [key 24 (h.trans (by decide))]; decide
  · rw [key 25 (h.trans (by decide))]; decide
  · rw [key 26 (h.trans (by decide))]; decide
  · rw [key 27 (h.trans (by decide))]; decide
  · rw [key 28 (h.trans (by decide))]; decide
  · rw [key 29 (h.trans (by decide))]; decide
  · rw [key 30 (h.trans (by decide))]; decide
  · rw [key 31 (h.trans (by decide))]; decide
  · rw [key 32 (h.trans (by decide))]; decide
  · rw [key 33 (h.trans (by decide))]; decide
  · rw [key 34 (h.trans (by decide))]; decide
  · rw [key 35 (h.trans (by decide))]; decide
  · rw [key 36 (h.trans (by decide))]; decide
  · rw [key 37 (h.trans (by decide))]; decide
  · rw [key 38 (h.trans (by decide))]; decide
  · rw [key 39 (h.trans (by decide))]; decide
  · rw [key 40 (h.trans (by decide))]; decide
  · rw [key 41 (h.trans (by decide))]; decide
  · rw [key 42 (h.trans (by decide))]; decide
  · rw [key 43 (h.trans (by decide))]; decide
  · rw [key 44 (h.trans (by decide))]; decide
  · rw [key 45 (h.trans (by decide))]; decide
  · rw [key 46 (h.trans (by decide))]; decide
  · rw [key 47 (h.trans (by decide))]; decide
theorem dL_law_0 : decode cL_law 0 = .ok (.new 7, 3) := by decide +kernel
theorem kcL_7 : inW (Cond.classLink RL 7 RX11) := ⟨List.mem_of_getElem? (i := 145) (by decide +kernel), by decide +kernel⟩
theorem ki11 : inW (Cond.initialized RX11) := ⟨List.mem_of_getElem? (i := 124) (by decide +kernel), by decide +kernel⟩
theorem dL_law_3 : decode cL_law 3 = .ok (.dup, 1) := by decide +kernel
theorem cw_X11_init : CWi yX11_init cX11_init 2 0 := ⟨⟨⟨List.mem_of_getElem? (i := 124) (by decide +kernel), by decide +kernel⟩, ⟨List.mem_of_getElem? (i := 149) (by decide +kernel), by decide +kernel⟩, by decide +kernel⟩, ⟨List.mem_of_getElem? (i := 148) (by decide +kernel), by decide +kernel⟩, rfl⟩
theorem kmL_9 : inW (Cond.methodLink RL 9 yX11_init) := ⟨List.mem_of_getElem? (i := 147) (by decide +kernel), by decide +kernel⟩
theorem dL_law_4 : decode cL_law 4 = .ok (.invokespecial 9, 3) := by decide +kernel
theorem dL_law_7 : decode cL_law 7 = .ok (.astore_n 1, 1) := by decide +kernel
theorem dL_law_8 : decode cL_law 8 = .ok (.new 10, 3) := by decide +kernel
theorem kcL_10 : inW (Cond.classLink RL 10 RX12) := ⟨List.mem_of_getElem? (i := 1489) (by decide +kernel), by decide +kernel⟩
theorem ki12 : inW (Cond.initialized RX12) := ⟨List.mem_of_getElem? (i := 137) (by decide +kernel), by decide +kernel⟩
theorem dL_law_11 : decode cL_law 11 = .ok (.dup, 1) := by decide +kernel
theorem cw_X12_init : CWi yX12_init cX12_init 1 0 := ⟨⟨⟨List.mem_of_getElem? (i := 137) (by decide +kernel), by decide +kernel⟩, ⟨List.mem_of_getElem? (i := 1493) (by decide +kernel), by decide +kernel⟩, by decide +kernel⟩, ⟨List.mem_of_getElem? (i := 1492) (by decide +kernel), by decide +kernel⟩, rfl⟩
theorem kmL_12 : inW (Cond.methodLink RL 12 yX12_init) := ⟨List.mem_of_getElem? (i := 1491) (by decide +kernel), by decide +kernel⟩
theorem dL_law_12 : decode cL_law 12 = .ok (.invokespecial 12, 3) := by decide +kernel
theorem dL_law_15 : decode cL_law 15 = .ok (.astore_n 2, 1) := by decide +kernel
theorem dL_law_16 : decode cL_law 16 = .ok (.iconst 0, 1) := by decide +kernel
theorem dL_law_17 : decode cL_law 17 = .ok (.istore_n 3, 1) := by decide +kernel
theorem law_len {x : Int32} {L : Nat} (e : x = Int32.ofNat L - 6) (hL : L ≤ 3072) : x.toInt = (L : Int) - 6 := by
  have h : (Int32.ofNat L).toInt = (L : Int) := by rw [Int32.toInt_ofNat_of_lt (by omega)]
  rw [e, ti_sub (by rw [h]; show _ ≤ _; have k : (6 : Int32).toInt = 6 := rfl; omega) (by rw [h]; have k : (6 : Int32).toInt = 6 := rfl; omega), h]
  rfl
theorem law_in0 {i : Int32} {L : Nat} (hi : 0 ≤ i.toInt ∧ i.toInt + 6 ≤ (L : Int)) : vp_in i L := by
  intro z
  rcases z with z | z
  · rw [Int32.lt_iff_toInt_lt] at z
    have z0 : (0 : Int32).toInt = 0 := rfl
    omega
  · rw [tnc] at z; omega
theorem law_nx {i i2 : Int32} {L : Nat} (e : i2 = i + 6) (hi : 0 ≤ i.toInt ∧ i.toInt + 6 ≤ (L : Int)) (hL : L ≤ 3072) : i2.toInt = i.toInt + 6 := by
  rw [e, ti_add (by have k : (6 : Int32).toInt = 6 := rfl; omega) (by have k : (6 : Int32).toInt = 6 := rfl; omega)]
  rfl
set_option maxHeartbeats 40000000 in
set_option maxRecDepth 100000 in
theorem law_loop {p : Program} {e : Env} {s : State} {m : MethodId} {below : List Frame} {meth : Method} {c : Code} (l : Launch) {b L : Nat} {xs : Nat → Int32} (C0 : lw_At p s m meth c b L xs) (hL : L ≤ 3072) {G : GG} {A : Nat → Prop} (hAe : A = (fun q : Nat => s.heap.size ≤ q)) (S : SX G A p s m meth c RL code 4 ret) {aK aV : Nat → Nat} {z0 : Option Nat} (hz : ZS aK aV z0 A s s.heap) {adx adm : Nat → Nat → Nat} : ∀ (N : Nat) (i : Int32) (nL : Int) (bT : Nat → Int32) (kF pF a a8 : Int) (Lx Lm : List Nat) (fx fm : HF) (H : Heap) (locs : List Loc) (ls : Array Slot), (3078 - i.toInt).toNat = N → (0 ≤ i.toInt ∧ i.toInt ≤ 3072) → CI G adx nL bT kF pF a a8 Lx fx → MI G adm nL bT kF pF a a8 Lm fm → DY G A s (va_pl Lx fx) Lm fm H locs → lv_has ls 4 [(3, .int i), (2, .ref (adm 0 0)), (1, .ref (adx 0 0)), (0, .ref b)] → W p l e room_1 s m #[Value.ref b] below meth c H locs 1000 60000 (lw_Z below #[Value.ref b] s) (F0 m 18 ls []) := by
  obtain ⟨hx, hb, hr, hml, hown, hts, hX, hbl, hlocks, hgv⟩ := id C0
  have hbA : ¬ A b := by rw [hAe]; exact Nat.not_le.mpr hbl
  intro N
  induction N using Nat.strongRecOn with
  | _ N ih =>
    intro i nL bT kF pF a a8 Lx Lm fx fm H locs ls hN hb0 hC hM Y hl
    refine lv_iload_n hx hb dL_law_18 rfl (lv_at hl 0 rfl) ?_
    refine lv_aload_n hx hb dL_law_19 rfl (lv_at hl 3 rfl) ?_
    refine va_slen hx hb hX hbl hbA Y.2.2 dL_law_20 ?_
    refine lv_bipush (v := 6) hx hb dL_law_21 (by decide) ?_
    refine lv_isub hx hb dL_law_23 ?_
    refine lv_topi (fun x9 ex9 => ?_)
    have hx9 := law_len ex9 hL
    refine lv_icmp_gt (tgt := 1532) hx hb dL_law_24 (by decide) (fun hgt => ?_) (fun hle => ?_)
    · refine lv_iconst (v := 1) hx hb dL_law_1532 (by decide) ?_
      refine va_forget (fun q hq => by have h := Y.2.2.2.2 q hq; rw [hAe] at h; exact h) ?_
      refine W.widen (k := 600000) (n := 7302250) (by decide) (by decide) ?_
      exact lw_ret hx hb hr hlocks dL_law_1533
    have hi : 0 ≤ i.toInt ∧ i.toInt + 6 ≤ (L : Int) := ⟨hb0.1, by rw [Int32.lt_iff_toInt_lt] at hle; omega⟩
    refine lv_aload_n hx hb dL_law_27 rfl (lv_at hl 3 rfl) ?_
    refine lv_iload_n hx hb dL_law_28 rfl (lv_at hl 0 rfl) ?_
    refine va_sld hx hb hX hbl hbA Y.2.2 (law_in0 hi) dL_law_29 ?_
    refine lv_bipush (v := 63) hx hb dL_law_30 (by decide) ?_
    refine lv_iand hx hb dL_law_32 ?_
    refine lv_topi (fun x8 ex8 => ?_)
    have tail : ∀ (nL : Int) (bT : Nat → Int32) (kF pF a a8 : Int) (Lx Lm : List Nat) (fx fm : HF) (H : Heap) (locs : List Loc) (ls : Array Slot), CI G adx nL bT kF pF a a8 Lx fx → MI G adm nL bT kF pF a a8 Lm fm → DY G A s (va_pl Lx fx) Lm fm H locs → lv_has ls 4 [(3, .int i), (2, .ref (adm 0 0)), (1, .ref (adx 0 0)), (0, .ref b)] → W p l e room_1 s m #[Value.ref b] below meth c H locs 1000 60000 (lw_Z below #[Value.ref b] s) (F0 m 1526 ls []) := by
      intro nL bT kF pF a a8 Lx Lm fx fm H locs ls hC hM Y hl
      obtain ⟨i2, ei2⟩ : ∃ z : Int32, z = i + 6 := ⟨_, rfl⟩
      refine lv_iinc (v := i2) (lv' := [(3, .int i2), (2, .ref (adm 0 0)), (1, .ref (adx 0 0)), (0, .ref b)]) hx hb dL_law_1526 hl (k := 0) rfl (by rw [ei2]; rfl) (by decide) rfl (fun ls hl => ?_)
      refine lv_goto (tgt := 18) hx hb dL_law_1529 (by decide) ?_
      have hi2 := law_nx ei2 hi hL
      exact ih _ (by rw [← hN]; omega) i2 nL bT kF pF a a8 Lx Lm fx fm H locs ls rfl ⟨by omega, by omega⟩ hC hM Y hl
    rcases swL_0_47 x8 with h8 | h8 | h8 | h8 | h8 | h8 | h8 | h8 | h8 | h8 | h8 | h8 | h8 | h8 | h8 | h8 | h8 | h8 | h8 | h8 | h8 | h8 | h8 | h8 | h8 | h8 | h8 | h8 | h8 | h8 | h8 | h8 | h8 | h8 | h8 | h8 | h8 | h8 | h8 | h8 | h8 | h8 | h8 | h8 | h8 | h8 | h8 | h8 | h8
    · refine lv_fold (z := 0) h8 ?_
      refine lv_tableIn (off := 207) (tgt := 240) hx hb dL_law_33 (by decide) (by decide) (by decide) (by decide) ?_
      exact law_0 l C0 hL hAe S hz hi hC hM Y hl tail
    · refine lv_fold (z := 1) h8 ?_
      refine lv_tableIn (off := 240) (tgt := 273) hx hb dL_law_33 (by decide) (by decide) (by decide) (by decide) ?_
      exact law_1 l C0 hL hAe S hz hi hC hM Y hl tail
    · refine lv_fold (z := 2) h8 ?_
      refine lv_tableIn (off := 303) (tgt := 336) hx hb dL_law_33 (by decide) (by decide) (by decide) (by decide) ?_
      exact law_2 l C0 hL hAe S hz hi hC hM Y hl tail
    · refine lv_fold (z := 3) h8 ?_
      refine lv_tableIn (off := 326) (tgt := 359) hx hb dL_law_33 (by decide) (by decide) (by decide) (by decide) ?_
      exact law_3 l C0 hL hAe S hz hi hC hM Y hl tail
    · refine lv_fold (z := 4) h8 ?_
      refine lv_tableIn (off := 339) (tgt := 372) hx hb dL_law_33 (by decide) (by decide) (by decide) (by decide) ?_
      exact law_4 l C0 hL hAe S hz hi hC hM Y hl tail
    · refine lv_fold (z := 5) h8 ?_
      refine lv_tableIn (off := 362) (tgt := 395) hx hb dL_law_33 (by decide) (by decide) (by decide) (by decide) ?_
      exact law_5 l C0 hL hAe S hz hi hC hM Y hl tail
    · refine lv_fold (z := 6) h8 ?_
      refine lv_tableIn (off := 385) (tgt := 418) hx hb dL_law_33 (by decide) (by decide) (by decide) (by decide) ?_
      exact law_6 l C0 hL hAe S hz hi hC hM Y hl tail
    · refine lv_fold (z := 7) h8 ?_
      refine lv_tableIn (off := 438) (tgt := 471) hx hb dL_law_33 (by decide) (by decide) (by decide) (by decide) ?_
      exact law_7 l C0 hL hAe S hz hi hC hM Y hl tail
    · refine lv_fold (z := 8) h8 ?_
      refine lv_tableIn (off := 461) (tgt := 494) hx hb dL_law_33 (by decide) (by decide) (by decide) (by decide) ?_
      exact law_8 l C0 hL hAe S hz hi hC hM Y hl tail
    · refine lv_fold (z := 9) h8 ?_
      refine lv_tableIn (off := 484) (tgt := 517) hx hb dL_law_33 (by decide) (by decide) (by decide) (by decide) ?_
      exact law_9 l C0 hL hAe S hz hi hC hM Y hl tail
    · refine lv_fold (z := 10) h8 ?_
      refine lv_tableIn (off := 507) (tgt := 540) hx hb dL_law_33 (by decide) (by decide) (by decide) (by decide) ?_
      exact law_10 l C0 hL hAe S hz hi hC hM Y hl tail
    · refine lv_fold (z := 11) h8 ?_
      refine lv_tableIn (off := 540) (tgt := 573) hx hb dL_law_33 (by decide) (by decide) (by decide) (by decide) ?_
      exact law_11 l C0 hL hAe S hz hi hC hM Y hl tail
    · refine lv_fold (z := 12) h8 ?_
      refine lv_tableIn (off := 563) (tgt := 596) hx hb dL_law_33 (by decide) (by decide) (by decide) (by decide) ?_
      exact law_12 l C0 hL hAe S hz hi hC hM Y hl tail
    · refine lv_fold (z := 13) h8 ?_
      refine lv_tableIn (off := 586) (tgt := 619) hx hb dL_law_33 (by decide) (by decide) (by decide) (by decide) ?_
      exact law_13 l C0 hL hAe S hz hi hC hM Y hl tail
    · refine lv_fold (z := 14) h8 ?_
      refine lv_tableIn (off := 609) (tgt := 642) hx hb dL_law_33 (by decide) (by decide) (by decide) (by decide) ?_
      exact law_14 l C0 hL hAe S hz hi hC hM Y hl tail
    · refine lv_fold (z := 15) h8 ?_
      refine lv_tableIn (off := 642) (tgt := 675) hx hb dL_law_33 (by decide) (by decide) (by decide) (by decide) ?_
      exact law_15 l C0 hL hAe S hz hi hC hM Y hl tail
    · refine lv_fold (z := 16) h8 ?_
      refine lv_tableIn (off := 655) (tgt := 688) hx hb dL_law_33 (by decide) (by decide) (by decide) (by decide) ?_
      exact law_16 l C0 hL hAe S hz hi hC hM Y hl tail
    · refine lv_fold (z := 17) h8 ?_
      refine lv_tableIn (off := 688) (tgt := 721) hx hb dL_law_33 (by decide) (by decide) (by decide) (by decide) ?_
      exact law_17 l C0 hL hAe S hz hi hC hM Y hl tail
    · refine lv_fold (z := 18) h8 ?_
      refine lv_tableIn (off := 721) (tgt := 754) hx hb dL_law_33 (by decide) (by decide) (by decide) (by decide) ?_
      exact law_18 l C0 hL hAe S hz hi hC hM Y hl tail
    · refine lv_fold (z := 19) h8 ?_
      refine lv_tableIn (off := 744) (tgt := 777) hx hb dL_law_33 (by decide) (by decide) (by decide) (by decide) ?_
      exact law_19 l C0 hL hAe S hz hi hC hM Y hl tail
    · refine lv_fold (z := 20) h8 ?_
      refine lv_tableIn (off := 777) (tgt := 810) hx hb dL_law_33 (by decide) (by decide) (by decide) (by decide) ?_
      exact law_20 l C0 hL hAe S hz hi hC hM Y hl tail
    · refine lv_fold (z := 21) h8 ?_
      refine lv_tableIn (off := 810) (tgt := 843) hx hb dL_law_33 (by decide) (by decide) (by decide) (by decide) ?_
      exact law_21 l C0 hL hAe S hz hi hC hM Y hl tail
    · refine lv_fold (z := 22) h8 ?_
      refine lv_tableIn (off := 833) (tgt := 866) hx hb dL_law_33 (by decide) (by decide) (by decide) (by decide) ?_
      exact law_22 l C0 hL hAe S hz hi hC hM Y hl tail
    · refine lv_fold (z := 23) h8 ?_
      refine lv_tableIn (off := 856) (tgt := 889) hx hb dL_law_33 (by decide) (by decide) (by decide) (by decide) ?_
      exact law_23 l C0 hL hAe S hz hi hC hM Y hl tail
    · refine lv_fold (z := 24) h8 ?_
      refine lv_tableIn (off := 899) (tgt := 932) hx hb dL_law_33 (by decide) (by decide) (by decide) (by decide) ?_
      exact law_24 l C0 hL hAe S hz hi hC hM Y hl tail
    · refine lv_fold (z := 25) h8 ?_
      refine lv_tableIn (off := 932) (tgt := 965) hx hb dL_law_33 (by decide) (by decide) (by decide) (by decide) ?_
      exact law_25 l C0 hL hAe S hz hi hC hM Y hl tail
    · refine lv_fold (z := 26) h8 ?_
      refine lv_tableIn (off := 981) (tgt := 1014) hx hb dL_law_33 (by decide) (by decide) (by decide) (by decide) ?_
      exact law_26 l C0 hL hAe S hz hi hC hM Y hl tail
    · refine lv_fold (z := 27) h8 ?_
      refine lv_tableIn (off := 1004) (tgt := 1037) hx hb dL_law_33 (by decide) (by decide) (by decide) (by decide) ?_
      exact law_27 l C0 hL hAe S hz hi hC hM Y hl tail
    · refine lv_fold (z := 28) h8 ?_
      refine lv_tableIn (off := 1037) (tgt := 1070) hx hb dL_law_33 (by decide) (by decide) (by decide) (by decide) ?_
      exact law_28 l C0 hL hAe S hz hi hC hM Y hl tail
    · refine lv_fold (z := 29) h8 ?_
      refine lv_tableIn (off := 1050) (tgt := 1083) hx hb dL_law_33 (by decide) (by decide) (by decide) (by decide) ?_
      exact law_29 l C0 hL hAe S hz hi hC hM Y hl tail
    · refine lv_fold (z := 30) h8 ?_
      refine lv_tableIn (off := 1093) (tgt := 1126) hx hb dL_law_33 (by decide) (by decide) (by decide) (by decide) ?_
      exact law_30 l C0 hL hAe S hz hi hC hM Y hl tail
    · refine lv_fold (z := 31) h8 ?_
      refine lv_tableIn (off := 1126) (tgt := 1159) hx hb dL_law_33 (by decide) (by decide) (by decide) (by decide) ?_
      exact law_31 l C0 hL hAe S hz hi hC hM Y hl tail
    · refine lv_fold (z := 32) h8 ?_
      refine lv_tableIn (off := 1149) (tgt := 1182) hx hb dL_law_33 (by decide) (by decide) (by decide) (by decide) ?_
      exact law_32 l C0 hL hAe S hz hi hC hM Y hl tail
    · refine lv_fold (z := 33) h8 ?_
      refine lv_tableIn (off := 1172) (tgt := 1205) hx hb dL_law_33 (by decide) (by decide) (by decide) (by decide) ?_
      exact law_33 l C0 hL hAe S hz hi hC hM Y hl tail
    · refine lv_fold (z := 34) h8 ?_
      refine lv_tableIn (off := 1185) (tgt := 1218) hx hb dL_law_33 (by decide) (by decide) (by decide) (by decide) ?_
      exact law_34 l C0 hL hAe S hz hi hC hM Y hl tail
    · refine lv_fold (z := 35) h8 ?_
      refine lv_tableIn (off := 1198) (tgt := 1231) hx hb dL_law_33 (by decide) (by decide) (by decide) (by decide) ?_
      exact law_35 l C0 hL hAe S hz hi hC hM Y hl tail
    · refine lv_fold (z := 36) h8 ?_
      refine lv_tableIn (off := 1231) (tgt := 1264) hx hb dL_law_33 (by decide) (by decide) (by decide) (by decide) ?_
      exact law_36 l C0 hL hAe S hz hi hC hM Y hl tail
    · refine lv_fold (z := 37) h8 ?_
      refine lv_tableIn (off := 1254) (tgt := 1287) hx hb dL_law_33 (by decide) (by decide) (by decide) (by decide) ?_
      exact law_37 l C0 hL hAe S hz hi hC hM Y hl tail
    · refine lv_fold (z := 38) h8 ?_
      refine lv_tableIn (off := 1267) (tgt := 1300) hx hb dL_law_33 (by decide) (by decide) (by decide) (by decide) ?_
      exact law_38 l C0 hL hAe S hz hi hC hM Y hl tail
    · refine lv_fold (z := 39) h8 ?_
      refine lv_tableIn (off := 1336) (tgt := 1369) hx hb dL_law_33 (by decide) (by decide) (by decide) (by decide) ?_
      exact law_39 l C0 hL hAe S hz hi hC hM Y hl tail
    · refine lv_fold (z := 40) h8 ?_
      refine lv_tableIn (off := 1369) (tgt := 1402) hx hb dL_law_33 (by decide) (by decide) (by decide) (by decide) ?_
      exact law_40 l C0 hL hAe S hz hi hC hM Y hl tail
    · refine lv_fold (z := 41) h8 ?_
      refine lv_tableIn (off := 1382) (tgt := 1415) hx hb dL_law_33 (by decide) (by decide) (by decide) (by decide) ?_
      exact law_41 l C0 hL hAe S hz hi hC hM Y hl tail
    · refine lv_fold (z := 42) h8 ?_
      refine lv_tableIn (off := 1395) (tgt := 1428) hx hb dL_law_33 (by decide) (by decide) (by decide) (by decide) ?_
      exact law_42 l C0 hL hAe S hz hi hC hM Y hl tail
    · refine lv_fold (z := 43) h8 ?_
      refine lv_tableIn (off := 1408) (tgt := 1441) hx hb dL_law_33 (by decide) (by decide) (by decide) (by decide) ?_
      exact law_43 l C0 hL hAe S hz hi hC hM Y hl tail
    · refine lv_fold (z := 44) h8 ?_
      refine lv_tableIn (off := 1431) (tgt := 1464) hx hb dL_law_33 (by decide) (by decide) (by decide) (by decide) ?_
      exact law_44 l C0 hL hAe S hz hi hC hM Y hl tail
    · refine lv_fold (z := 45) h8 ?_
      refine lv_tableIn (off := 1444) (tgt := 1477) hx hb dL_law_33 (by decide) (by decide) (by decide) (by decide) ?_
      exact law_45 l C0 hL hAe S hz hi hC hM Y hl tail
    · refine lv_fold (z := 46) h8 ?_
      refine lv_tableIn (off := 1457) (tgt := 1490) hx hb dL_law_33 (by decide) (by decide) (by decide) (by decide) ?_
      exact law_46 l C0 hL hAe S hz hi hC hM Y hl tail
    · refine lv_fold (z := 47) h8 ?_
      refine lv_tableIn (off := 1470) (tgt := 1503) hx hb dL_law_33 (by decide) (by decide) (by decide) (by decide) ?_
      exact law_47 l C0 hL hAe S hz hi hC hM Y hl tail
    · refine lv_tableOut (tgt := 1526) hx hb dL_law_33 h8 (by decide) ?_
      exact tail nL bT kF pF a a8 Lx Lm fx fm H locs ls hC hM Y hl
set_option maxRecDepth 100000 in
theorem law_mk {G : GG} {L L1 : List Nat} {f f1 : HF} {h : Nat} (hp : ∃ m0 : Nat, ∃ m1 : Nat, ∃ m2 : Nat, ∃ m3 : Nat, ∃ m15 : Nat, ∃ m16 : Nat, ∃ m22 : Nat, ∃ m23 : Nat, ∃ m24 : Nat, ∃ m26 : Nat, ∃ m27 : Nat, ∃ m28 : Nat, ∃ m29 : Nat, ∃ m31 : Nat, ∃ gi : Nat → Int32, kp L f L1 f1 [h] ∧ pt L1 f1 h (.inr (12, [.ref m0, .ref m1, .ref m2, .ref m3, .int 0, .int (-1), .int (-1), .int 0, .int 0, .int 0, .int 0, .long 0, .int 0, .int 0, .int 0, .ref m15, .ref m16, .int 0, .int 0, .int 0, .int 0, .int 0, .ref m22, .ref m23, .ref m24, .int 1, .ref m26, .ref m27, .ref m28, .ref m29, .int 0, .ref m31])) ∧ pt L1 f1 m0 (.inl (G.2 0, 10568, .inl a0m)) ∧ pt L1 f1 m1 (.inl (G.2 0, 10568, .inl gi)) ∧ pt L1 f1 m2 (.inl (G.2 0, 2916, .inl (fun _ => 0))) ∧ pt L1 f1 m3 (.inl (G.2 0, 300, .inl (fun _ => 0))) ∧ pt L1 f1 m15 (.inl (G.2 0, 160, .inl (fun _ => 0))) ∧ pt L1 f1 m16 (.inl (G.2 0, 9, .inl (fun _ => 0))) ∧ pt L1 f1 m22 (.inl (G.2 0, 10, .inl (fun _ => 0))) ∧ pt L1 f1 m23 (.inl (G.2 1, 330, .inr (.inl (fun _ => 0)))) ∧ pt L1 f1 m24 (.inl (G.2 2, 330, .inl (fun _ => 0))) ∧ pt L1 f1 m26 (.inl (G.2 0, 6, .inl (fun _ => 0))) ∧ pt L1 f1 m27 (.inl (G.2 0, 114, .inl (fun _ => 0))) ∧ pt L1 f1 m28 (.inl (G.2 0, 84, .inl (fun _ => 0))) ∧ pt L1 f1 m29 (.inl (G.2 0, 14, .inl (fun _ => 0))) ∧ pt L1 f1 m31 (.inl (G.2 0, 6, .inl (fun _ => 0))) ∧ m0 ≠ m1 ∧ m26 ≠ m31 ∧ ∀ k, k < 10568 → gi k = a0m k) : ∃ ad : Nat → Nat → Nat, ad 0 0 = h ∧ SH (spM (IA 0 0 14 9999 W00) (((IA 0 0 14 9999 W00), (pp 0), (pp (-1)), (pp (-1)), (EQ (fun _ => 0))) : PIT) (EQ (fun _ => 0)) LDa) nnM G ad L1 f1 :=
  hp.elim fun m0 hp => hp.elim fun m1 hp => hp.elim fun m2 hp => hp.elim fun m3 hp => hp.elim fun m15 hp => hp.elim fun m16 hp => hp.elim fun m22 hp => hp.elim fun m23 hp => hp.elim fun m24 hp => hp.elim fun m26 hp => hp.elim fun m27 hp => hp.elim fun m28 hp => hp.elim fun m29 hp => hp.elim fun m31 hp => hp.elim fun gi hp => SHM_mk hp.2.1 hp.2.2.1 hp.2.2.2.1 hp.2.2.2.2.1 hp.2.2.2.2.2.1 hp.2.2.2.2.2.2.1 hp.2.2.2.2.2.2.2.1 hp.2.2.2.2.2.2.2.2.1 hp.2.2.2.2.2.2.2.2.2.1 hp.2.2.2.2.2.2.2.2.2.2.1 hp.2.2.2.2.2.2.2.2.2.2.2.1 hp.2.2.2.2.2.2.2.2.2.2.2.2.1 hp.2.2.2.2.2.2.2.2.2.2.2.2.2.1 hp.2.2.2.2.2.2.2.2.2.2.2.2.2.2.1 hp.2.2.2.2.2.2.2.2.2.2.2.2.2.2.2.1 hp.2.2.2.2.2.2.2.2.2.2.2.2.2.2.2.2.1 hp.2.2.2.2.2.2.2.2.2.2.2.2.2.2.2.2.2.1 hp.2.2.2.2.2.2.2.2.2.2.2.2.2.2.2.2.2.2
theorem w00_b : WBp w00 8 := fun j => by
  unfold w00; split <;> decide
theorem t00_b : WBp t00 4 := fun _ => by unfold t00; decide
theorem w00_z : ZZp w00 q00 := fun j h1 h2 h3 => ⟨by unfold w00; rw [if_neg (by omega)]; decide, fun _ => trivial⟩
theorem BYT_0 : BYT (fun _ => 0) := fun _ => show bn 0 255 (0 : Int32) from ⟨by decide, by decide⟩
theorem C9_mk {G : GG} {ad : Nat → Nat → Nat} {L : List Nat} {f : HF} (I : SH (spC RS0 ((0, 6) : Int × Int) t00 w00 q00) nnC G ad L f) : CI G ad 0 (fun _ => 0) (-1) (-1) 0 0 L f := ⟨t00, w00, q00, I, w00_b, t00_b, fun _ _ _ _ h => h, w00_z, fun _ => rfl, rfl, rfl, fun _ => trivial, fun _ => trivial, rfl, rfl, by decide, BYT_0⟩
theorem TX_z : TX (fun _ => 0) := fun t ht => ⟨show bn 0 24 (0 : Int32) from ⟨by decide, by decide⟩, fun k hk => absurd hk (by show ¬ (k : Int) < 0; omega)⟩
set_option maxHeartbeats 40000000 in
set_option maxRecDepth 100000 in
theorem whole_start {p : Program} {e : Env} {s : State} {m : MethodId} {below : List Frame} {meth : Method} {c : Code} (l : Launch) {b L : Nat} {xs : Nat → Int32} (hL : L ≤ 3072) (C0 : lw_At p s m meth c b L xs) : W p l e room_1 s m #[Value.ref b] below meth c s.heap [] 0 0 (lw_Z below #[Value.ref b] s) (entryFrame m ([Value.ref b] : List Value).toArray 4) := by
  obtain ⟨hx, hb, hr, hml, hown, hts, hX, hbl, hlocks, hgv⟩ := id C0
  obtain ⟨G, hK, hAW⟩ := known_all hts
  obtain ⟨A, hAe⟩ : ∃ A : Nat → Prop, A = (fun q : Nat => s.heap.size ≤ q) := ⟨_, rfl⟩
  have hbA : ¬ A b := by rw [hAe]; exact Nat.not_le.mpr hbl
  have hA : ∀ q : Nat, s.heap.size ≤ q → A q := fun q h => by rw [hAe]; exact h
  obtain ⟨aK, aV, z0, hz⟩ := zs_all (A := A) hgv hts (fun a h => by rw [hAe]; exact Nat.not_le.mpr h)
  have S : SX G A p s m meth c RL code 4 ret := ⟨hx, hb, hml, hown, hr, hlocks, hAW, hK, hA⟩
  obtain ⟨f00, -⟩ : ∃ z : HF, True := ⟨fun _ => .inr (0, []), trivial⟩
  have Y : DY G A s [] [] f00 s.heap [] := ⟨fun k q h => by simp [va_pl] at h, ⟨fun i j p q h => by simp [va_pl] at h, fun k q h => by simp [va_pl] at h⟩, va_S.rf⟩
  have hl := lv_entry ([.ref b]) (n := 4) (Nat.le_of_ble_eq_true rfl)
  rw [lg_entry_eq]
  generalize (lg_sl ([.ref b]) ++ List.replicate (4 - (lg_sl ([.ref b])).length) Slot.unset).toArray = ls at hl ⊢
  have hl : lv_has ls 4 [(0, .ref b)] := hl
  refine pg_new S Y ok_X11 kcL_7 kn11 ki11 (fs := [.null, .null, .null, .null, .null, .null, .null, .null, .null]) (by decide) (by decide) (by decide) dL_law_0 (fun q_186341 f_186342 H nq_186341 ef_186342 Y => ?_)
  have p_q_186341 := pt.new (L := []) ef_186342
  refine lv_dup hx hb dL_law_3 rfl ?_
  refine cIv (b := q_186341) (As := []) (rest := [.ref q_186341]) S Y (c_X11_init (l := l) p_q_186341) cw_X11_init kmL_9 rfl ⟨Nat.le_of_ble_eq_true rfl, Nat.le_of_ble_eq_true rfl⟩ hl.1 rfl (Nat.le_of_ble_eq_true rfl) ⟨Nat.le_of_ble_eq_true rfl, Nat.le_of_ble_eq_true rfl⟩ dL_law_4 (fun Lx fx H locs hpx Y => ?_)
  obtain ⟨adx, _, IX, ex0⟩ := hpx
  have hC : CI G adx 0 (fun _ => 0) (-1) (-1) 0 0 Lx fx := C9_mk IX
  refine lv_astore_n (lv' := [(1, .ref q_186341), (0, .ref b)]) hx hb dL_law_7 rfl hl (by decide) rfl (fun ls hl => ?_)
  have Y := DY.lift (f0 := f00) Y
  refine pg_new S Y ok_X12 kcL_10 kn12 ki12 (fs := [.null, .null, .null, .null, .int 0, .int 0, .int 0, .int 0, .int 0, .int 0, .int 0, .long 0, .int 0, .int 0, .int 0, .null, .null, .int 0, .int 0, .int 0, .int 0, .int 0, .null, .null, .null, .int 0, .null, .null, .null, .null, .int 0, .null]) (by decide) (by decide) (by decide) dL_law_8 (fun q_186343 f_186344 H nq_186343 ef_186344 Y => ?_)
  have p_q_186343 := pt.new (L := []) ef_186344
  refine lv_dup hx hb dL_law_11 rfl ?_
  refine cIv (b := q_186343) (As := []) (rest := [.ref q_186343]) S Y (c_X12_init (l := l) p_q_186343) cw_X12_init kmL_12 rfl ⟨Nat.le_of_ble_eq_true rfl, Nat.le_of_ble_eq_true rfl⟩ hl.1 rfl (Nat.le_of_ble_eq_true rfl) ⟨Nat.le_of_ble_eq_true rfl, Nat.le_of_ble_eq_true rfl⟩ dL_law_12 (fun Lm fm H locs hpm Y => ?_)
  obtain ⟨adm, em0, IM⟩ := law_mk hpm
  have hM : MI G adm 0 (fun _ => 0) (-1) (-1) 0 0 Lm fm := ⟨W00, W00, fun _ => 0, IM, by unfold BBp; decide, by unfold BBp; decide, TX_z, rfl, rfl, rfl, rfl, by decide, BYT_0⟩
  refine lv_astore_n (lv' := [(2, .ref q_186343), (1, .ref q_186341), (0, .ref b)]) hx hb dL_law_15 rfl hl (by decide) rfl (fun ls hl => ?_)
  refine W.widen (k := 1000) (n := 60000) (by decide) (by decide) ?_
  refine lv_iconst (v := 0) hx hb dL_law_16 (by decide) ?_
  refine lv_istore_n (lv' := [(3, .int 0), (2, .ref q_186343), (1, .ref q_186341), (0, .ref b)]) hx hb dL_law_17 rfl hl (by decide) rfl (fun ls hl => ?_)
  rw [← ex0, ← em0] at hl
  exact law_loop l C0 hL hAe S hz _ 0 0 (fun _ => 0) (-1) (-1) 0 0 Lx Lm fx fm H locs ls rfl ⟨by decide, by decide⟩ hC hM Y (lv_sub hl [0, 1, 2, 3] rfl)
