theorem dX4_lastsOn_0 : decode cX4_lastsOn 0 = .ok (.aload_n 0, 1) := by decide +kernel
theorem dX4_lastsOn_1 : decode cX4_lastsOn 1 = .ok (.getfield 34, 3) := by decide +kernel
theorem kf4_34 : inW (Cond.fieldLink RX4 34 "KneeOaths$Ledger" "date" "I") := ⟨List.mem_of_getElem? (i := 170) (by decide +kernel), by decide +kernel⟩
theorem dX4_lastsOn_4 : decode cX4_lastsOn 4 = .ok (.sipush 9999, 3) := by decide +kernel
theorem dX4_lastsOn_7 : decode cX4_lastsOn 7 = .ok (.if_icmp .ge 7, 3) := by decide +kernel
theorem dX4_lastsOn_10 : decode cX4_lastsOn 10 = .ok (.iconst 1, 1) := by decide +kernel
theorem dX4_lastsOn_11 : decode cX4_lastsOn 11 = .ok (.goto 4, 3) := by decide +kernel
theorem dX4_lastsOn_15 : decode cX4_lastsOn 15 = .ok (.ireturn, 1) := by decide +kernel
theorem dX4_draw_0 : decode cX4_draw 0 = .ok (.aload_n 0, 1) := by decide +kernel
theorem dX4_draw_1 : decode cX4_draw 1 = .ok (.getfield 18, 3) := by decide +kernel
theorem dX4_draw_4 : decode cX4_draw 4 = .ok (.istore_n 1, 1) := by decide +kernel
theorem dX4_draw_5 : decode cX4_draw 5 = .ok (.aload_n 0, 1) := by decide +kernel
theorem dX4_draw_6 : decode cX4_draw 6 = .ok (.aload_n 0, 1) := by decide +kernel
theorem dX4_draw_7 : decode cX4_draw 7 = .ok (.getfield 18, 3) := by decide +kernel
theorem dX4_draw_10 : decode cX4_draw 10 = .ok (.sipush 367, 3) := by decide +kernel
theorem dX4_draw_13 : decode cX4_draw 13 = .ok (.imul, 1) := by decide +kernel
theorem dX4_draw_14 : decode cX4_draw 14 = .ok (.sipush 241, 3) := by decide +kernel
theorem dX4_draw_17 : decode cX4_draw 17 = .ok (.iadd, 1) := by decide +kernel
theorem dX4_draw_18 : decode cX4_draw 18 = .ok (.sipush 30449, 3) := by decide +kernel
theorem dX4_draw_21 : decode cX4_draw 21 = .ok (.irem, 1) := by decide +kernel
theorem dX4_draw_22 : decode cX4_draw 22 = .ok (.putfield 18, 3) := by decide +kernel
theorem dX4_draw_25 : decode cX4_draw 25 = .ok (.iload_n 1, 1) := by decide +kernel
theorem dX4_draw_26 : decode cX4_draw 26 = .ok (.ireturn, 1) := by decide +kernel
theorem dX4_turnDay_0 : decode cX4_turnDay 0 = .ok (.aload_n 0, 1) := by decide +kernel
theorem dX4_turnDay_1 : decode cX4_turnDay 1 = .ok (.dup, 1) := by decide +kernel
theorem dX4_turnDay_2 : decode cX4_turnDay 2 = .ok (.getfield 34, 3) := by decide +kernel
theorem dX4_turnDay_5 : decode cX4_turnDay 5 = .ok (.iconst 1, 1) := by decide +kernel
theorem dX4_turnDay_6 : decode cX4_turnDay 6 = .ok (.iadd, 1) := by decide +kernel
theorem dX4_turnDay_7 : decode cX4_turnDay 7 = .ok (.putfield 34, 3) := by decide +kernel
theorem dX4_turnDay_10 : decode cX4_turnDay 10 = .ok (.aload_n 0, 1) := by decide +kernel
theorem dX4_turnDay_11 : decode cX4_turnDay 11 = .ok (.aload_n 0, 1) := by decide +kernel
theorem dX4_turnDay_12 : decode cX4_turnDay 12 = .ok (.invokevirtual 64, 3) := by decide +kernel
theorem cw_X4_draw : CWv yX4_draw cX4_draw 2 (some .int) 0 := ⟨⟨⟨List.mem_of_getElem? (i := 125) (by decide +kernel), by decide +kernel⟩, ⟨List.mem_of_getElem? (i := 1092) (by decide +kernel), by decide +kernel⟩, by decide +kernel⟩, ⟨List.mem_of_getElem? (i := 1090) (by decide +kernel), by decide +kernel⟩, ⟨List.mem_of_getElem? (i := 1091) (by decide +kernel), by decide +kernel⟩⟩
theorem km4_64 : inW (Cond.methodLink RX4 64 yX4_draw) := ⟨List.mem_of_getElem? (i := 1089) (by decide +kernel), by decide +kernel⟩
theorem dX4_turnDay_15 : decode cX4_turnDay 15 = .ok (.bipush 10, 2) := by decide +kernel
theorem dX4_turnDay_17 : decode cX4_turnDay 17 = .ok (.irem, 1) := by decide +kernel
theorem dX4_turnDay_18 : decode cX4_turnDay 18 = .ok (.putfield 37, 3) := by decide +kernel
theorem kf4_37 : inW (Cond.fieldLink RX4 37 "KneeOaths$Ledger" "rain" "I") := ⟨List.mem_of_getElem? (i := 175) (by decide +kernel), by decide +kernel⟩
theorem dX4_turnDay_21 : decode cX4_turnDay 21 = .ok (.return_, 1) := by decide +kernel
theorem dX4_takeOver_0 : decode cX4_takeOver 0 = .ok (.aload_n 1, 1) := by decide +kernel
theorem dX4_takeOver_1 : decode cX4_takeOver 1 = .ok (.getfield 9, 3) := by decide +kernel
theorem dX4_takeOver_4 : decode cX4_takeOver 4 = .ok (.iconst 0, 1) := by decide +kernel
theorem dX4_takeOver_5 : decode cX4_takeOver 5 = .ok (.aload_n 0, 1) := by decide +kernel
theorem dX4_takeOver_6 : decode cX4_takeOver 6 = .ok (.getfield 9, 3) := by decide +kernel
theorem dX4_takeOver_9 : decode cX4_takeOver 9 = .ok (.iconst 0, 1) := by decide +kernel
theorem dX4_takeOver_10 : decode cX4_takeOver 10 = .ok (.aload_n 0, 1) := by decide +kernel
theorem dX4_takeOver_11 : decode cX4_takeOver 11 = .ok (.getfield 9, 3) := by decide +kernel
theorem dX4_takeOver_14 : decode cX4_takeOver 14 = .ok (.arraylength, 1) := by decide +kernel
theorem dX4_takeOver_15 : decode cX4_takeOver 15 = .ok (.invokestatic 22, 3) := by decide +kernel
theorem km4_22 : inW (Cond.methodLink RX4 22 arraycopyName) := ⟨List.mem_of_getElem? (i := 893) (by decide +kernel), by decide +kernel⟩
theorem kAn : inW (Cond.native arraycopyName) := ⟨List.mem_of_getElem? (i := 895) (by decide +kernel), by decide +kernel⟩
theorem kAs : inW (Cond.static arraycopyName) := ⟨List.mem_of_getElem? (i := 894) (by decide +kernel), by decide +kernel⟩
theorem kAi : inW (Cond.initialized "java/lang/System") := ⟨List.mem_of_getElem? (i := 143) (by decide +kernel), by decide +kernel⟩
theorem dX4_takeOver_18 : decode cX4_takeOver 18 = .ok (.aload_n 1, 1) := by decide +kernel
theorem dX4_takeOver_19 : decode cX4_takeOver 19 = .ok (.getfield 15, 3) := by decide +kernel
theorem dX4_takeOver_22 : decode cX4_takeOver 22 = .ok (.iconst 0, 1) := by decide +kernel
theorem dX4_takeOver_23 : decode cX4_takeOver 23 = .ok (.aload_n 0, 1) := by decide +kernel
theorem dX4_takeOver_24 : decode cX4_takeOver 24 = .ok (.getfield 15, 3) := by decide +kernel
theorem dX4_takeOver_27 : decode cX4_takeOver 27 = .ok (.iconst 0, 1) := by decide +kernel
theorem dX4_takeOver_28 : decode cX4_takeOver 28 = .ok (.aload_n 0, 1) := by decide +kernel
theorem dX4_takeOver_29 : decode cX4_takeOver 29 = .ok (.getfield 15, 3) := by decide +kernel
theorem dX4_takeOver_32 : decode cX4_takeOver 32 = .ok (.arraylength, 1) := by decide +kernel
theorem dX4_takeOver_33 : decode cX4_takeOver 33 = .ok (.invokestatic 22, 3) := by decide +kernel
theorem dX4_takeOver_36 : decode cX4_takeOver 36 = .ok (.aload_n 0, 1) := by decide +kernel
theorem dX4_takeOver_37 : decode cX4_takeOver 37 = .ok (.aload_n 1, 1) := by decide +kernel
theorem dX4_takeOver_38 : decode cX4_takeOver 38 = .ok (.getfield 28, 3) := by decide +kernel
theorem dX4_takeOver_41 : decode cX4_takeOver 41 = .ok (.putfield 28, 3) := by decide +kernel
theorem dX4_takeOver_44 : decode cX4_takeOver 44 = .ok (.aload_n 0, 1) := by decide +kernel
theorem dX4_takeOver_45 : decode cX4_takeOver 45 = .ok (.aload_n 1, 1) := by decide +kernel
theorem dX4_takeOver_46 : decode cX4_takeOver 46 = .ok (.getfield 31, 3) := by decide +kernel
theorem dX4_takeOver_49 : decode cX4_takeOver 49 = .ok (.putfield 31, 3) := by decide +kernel
theorem dX4_takeOver_52 : decode cX4_takeOver 52 = .ok (.aload_n 0, 1) := by decide +kernel
theorem dX4_takeOver_53 : decode cX4_takeOver 53 = .ok (.aload_n 1, 1) := by decide +kernel
theorem dX4_takeOver_54 : decode cX4_takeOver 54 = .ok (.getfield 34, 3) := by decide +kernel
theorem dX4_takeOver_57 : decode cX4_takeOver 57 = .ok (.putfield 34, 3) := by decide +kernel
theorem dX4_takeOver_60 : decode cX4_takeOver 60 = .ok (.aload_n 0, 1) := by decide +kernel
theorem dX4_takeOver_61 : decode cX4_takeOver 61 = .ok (.aload_n 1, 1) := by decide +kernel
theorem dX4_takeOver_62 : decode cX4_takeOver 62 = .ok (.getfield 37, 3) := by decide +kernel
theorem dX4_takeOver_65 : decode cX4_takeOver 65 = .ok (.putfield 37, 3) := by decide +kernel
theorem dX4_takeOver_68 : decode cX4_takeOver 68 = .ok (.aload_n 0, 1) := by decide +kernel
theorem dX4_takeOver_69 : decode cX4_takeOver 69 = .ok (.aload_n 1, 1) := by decide +kernel
theorem dX4_takeOver_70 : decode cX4_takeOver 70 = .ok (.getfield 18, 3) := by decide +kernel
theorem dX4_takeOver_73 : decode cX4_takeOver 73 = .ok (.putfield 18, 3) := by decide +kernel
theorem dX4_takeOver_76 : decode cX4_takeOver 76 = .ok (.return_, 1) := by decide +kernel
theorem dX2_rainBehind_0 : decode cX2_rainBehind 0 = .ok (.aload_n 0, 1) := by decide +kernel
theorem dX2_rainBehind_1 : decode cX2_rainBehind 1 = .ok (.getfield 23, 3) := by decide +kernel
theorem dX2_rainBehind_4 : decode cX2_rainBehind 4 = .ok (.aload_n 0, 1) := by decide +kernel
theorem dX2_rainBehind_5 : decode cX2_rainBehind 5 = .ok (.getfield 9, 3) := by decide +kernel
theorem dX2_rainBehind_8 : decode cX2_rainBehind 8 = .ok (.getfield 27, 3) := by decide +kernel
theorem dX2_rainBehind_11 : decode cX2_rainBehind 11 = .ok (.invokevirtual 32, 3) := by decide +kernel
theorem cw_X4_takeOver : CWv yX4_takeOver cX4_takeOver 2 none 1 := ⟨⟨⟨List.mem_of_getElem? (i := 125) (by decide +kernel), by decide +kernel⟩, ⟨List.mem_of_getElem? (i := 892) (by decide +kernel), by decide +kernel⟩, by decide +kernel⟩, ⟨List.mem_of_getElem? (i := 890) (by decide +kernel), by decide +kernel⟩, ⟨List.mem_of_getElem? (i := 891) (by decide +kernel), by decide +kernel⟩⟩
theorem km2_32 : inW (Cond.methodLink RX2 32 yX4_takeOver) := ⟨List.mem_of_getElem? (i := 1183) (by decide +kernel), by decide +kernel⟩
theorem dX2_rainBehind_14 : decode cX2_rainBehind 14 = .ok (.iconst 0, 1) := by decide +kernel
theorem dX2_rainBehind_15 : decode cX2_rainBehind 15 = .ok (.istore_n 2, 1) := by decide +kernel
theorem dX2_rainBehind_16 : decode cX2_rainBehind 16 = .ok (.iload_n 2, 1) := by decide +kernel
theorem dX2_rainBehind_17 : decode cX2_rainBehind 17 = .ok (.iload_n 1, 1) := by decide +kernel
theorem dX2_rainBehind_18 : decode cX2_rainBehind 18 = .ok (.if_icmp .ge 26, 3) := by decide +kernel
theorem dX2_rainBehind_44 : decode cX2_rainBehind 44 = .ok (.aload_n 0, 1) := by decide +kernel
theorem dX2_rainBehind_45 : decode cX2_rainBehind 45 = .ok (.getfield 23, 3) := by decide +kernel
theorem dX2_rainBehind_48 : decode cX2_rainBehind 48 = .ok (.getfield 45, 3) := by decide +kernel
theorem kf2_45 : inW (Cond.fieldLinkNest RX2 45 "KneeOaths$Ledger" "rain" "I" "KneeOaths") := ⟨List.mem_of_getElem? (i := 174) (by decide +kernel), by decide +kernel⟩
theorem dX2_rainBehind_51 : decode cX2_rainBehind 51 = .ok (.ireturn, 1) := by decide +kernel
theorem dX2_rainBehind_21 : decode cX2_rainBehind 21 = .ok (.aload_n 0, 1) := by decide +kernel
theorem dX2_rainBehind_22 : decode cX2_rainBehind 22 = .ok (.getfield 23, 3) := by decide +kernel
theorem dX2_rainBehind_25 : decode cX2_rainBehind 25 = .ok (.invokevirtual 38, 3) := by decide +kernel
theorem cw_X4_lastsOn : CWv yX4_lastsOn cX4_lastsOn 1 (some .boolean) 0 := ⟨⟨⟨List.mem_of_getElem? (i := 125) (by decide +kernel), by decide +kernel⟩, ⟨List.mem_of_getElem? (i := 1071) (by decide +kernel), by decide +kernel⟩, by decide +kernel⟩, ⟨List.mem_of_getElem? (i := 1069) (by decide +kernel), by decide +kernel⟩, ⟨List.mem_of_getElem? (i := 1070) (by decide +kernel), by decide +kernel⟩⟩
theorem km2_38 : inW (Cond.methodLink RX2 38 yX4_lastsOn) := ⟨List.mem_of_getElem? (i := 1184) (by decide +kernel), by decide +kernel⟩
theorem dX2_rainBehind_28 : decode cX2_rainBehind 28 = .ok (.ifCond .eq 16, 3) := by decide +kernel
theorem dX2_rainBehind_31 : decode cX2_rainBehind 31 = .ok (.aload_n 0, 1) := by decide +kernel
theorem dX2_rainBehind_32 : decode cX2_rainBehind 32 = .ok (.getfield 23, 3) := by decide +kernel
theorem dX2_rainBehind_35 : decode cX2_rainBehind 35 = .ok (.invokevirtual 42, 3) := by decide +kernel
theorem cw_X4_turnDay : CWv yX4_turnDay cX4_turnDay 1 none 0 := ⟨⟨⟨List.mem_of_getElem? (i := 125) (by decide +kernel), by decide +kernel⟩, ⟨List.mem_of_getElem? (i := 1088) (by decide +kernel), by decide +kernel⟩, by decide +kernel⟩, ⟨List.mem_of_getElem? (i := 1086) (by decide +kernel), by decide +kernel⟩, ⟨List.mem_of_getElem? (i := 1087) (by decide +kernel), by decide +kernel⟩⟩
theorem km2_42 : inW (Cond.methodLink RX2 42 yX4_turnDay) := ⟨List.mem_of_getElem? (i := 1185) (by decide +kernel), by decide +kernel⟩
theorem dX2_rainBehind_38 : decode cX2_rainBehind 38 = .ok (.iinc 2 1, 3) := by decide +kernel
theorem dX2_rainBehind_41 : decode cX2_rainBehind 41 = .ok (.goto (-25), 3) := by decide +kernel
theorem dX11_foretold_0 : decode cX11_foretold 0 = .ok (.iload_n 1, 1) := by decide +kernel
theorem dX11_foretold_1 : decode cX11_foretold 1 = .ok (.iconst 1, 1) := by decide +kernel
theorem dX11_foretold_2 : decode cX11_foretold 2 = .ok (.bipush 60, 2) := by decide +kernel
theorem dX11_foretold_4 : decode cX11_foretold 4 = .ok (.invokestatic 146, 3) := by decide +kernel
theorem dX11_foretold_7 : decode cX11_foretold 7 = .ok (.ifCond .ne 5, 3) := by decide +kernel
theorem dX11_foretold_12 : decode cX11_foretold 12 = .ok (.iload_n 2, 1) := by decide +kernel
theorem dX11_foretold_13 : decode cX11_foretold 13 = .ok (.iconst (-1), 1) := by decide +kernel
theorem dX11_foretold_14 : decode cX11_foretold 14 = .ok (.if_icmp .ne 12, 3) := by decide +kernel
theorem dX11_foretold_26 : decode cX11_foretold 26 = .ok (.aload_n 0, 1) := by decide +kernel
theorem dX11_foretold_27 : decode cX11_foretold 27 = .ok (.getfield 13, 3) := by decide +kernel
theorem dX11_foretold_30 : decode cX11_foretold 30 = .ok (.iload_n 2, 1) := by decide +kernel
theorem dX11_foretold_31 : decode cX11_foretold 31 = .ok (.invokevirtual 192, 3) := by decide +kernel
theorem dX11_foretold_34 : decode cX11_foretold 34 = .ok (.ifCond .eq 15, 3) := by decide +kernel
theorem dX11_foretold_49 : decode cX11_foretold 49 = .ok (.iconst (-1), 1) := by decide +kernel
theorem dX11_foretold_50 : decode cX11_foretold 50 = .ok (.ireturn, 1) := by decide +kernel
theorem dX11_foretold_17 : decode cX11_foretold 17 = .ok (.aload_n 0, 1) := by decide +kernel
theorem dX11_foretold_18 : decode cX11_foretold 18 = .ok (.getfield 59, 3) := by decide +kernel
theorem dX11_foretold_21 : decode cX11_foretold 21 = .ok (.iload_n 1, 1) := by decide +kernel
theorem dX11_foretold_22 : decode cX11_foretold 22 = .ok (.invokevirtual 237, 3) := by decide +kernel
theorem cw_X2_rainBehind : CWv yX2_rainBehind cX2_rainBehind 3 (some .int) 1 := ⟨⟨⟨List.mem_of_getElem? (i := 134) (by decide +kernel), by decide +kernel⟩, ⟨List.mem_of_getElem? (i := 1182) (by decide +kernel), by decide +kernel⟩, by decide +kernel⟩, ⟨List.mem_of_getElem? (i := 1180) (by decide +kernel), by decide +kernel⟩, ⟨List.mem_of_getElem? (i := 1181) (by decide +kernel), by decide +kernel⟩⟩
theorem km11_237 : inW (Cond.methodLink RX11 237 yX2_rainBehind) := ⟨List.mem_of_getElem? (i := 1179) (by decide +kernel), by decide +kernel⟩
theorem dX11_foretold_25 : decode cX11_foretold 25 = .ok (.ireturn, 1) := by decide +kernel
theorem dX11_foretold_10 : decode cX11_foretold 10 = .ok (.iconst (-1), 1) := by decide +kernel
theorem dX11_foretold_11 : decode cX11_foretold 11 = .ok (.ireturn, 1) := by decide +kernel
def XN : Nat → Nat
  | 0 => 137
  | k + 1 => (XN k * 367 + 241) % 30449
def RN_ : Nat → Nat
  | 0 => 0
  | k + 1 => XN k % 10
theorem XN_lt (k : Nat) : XN k < 30449 := by
  cases k with
  | zero => decide
  | succ k => exact Nat.mod_lt _ (by decide)
theorem stepXi (k : Nat) : (nI (XN k) * 367 + 241) - (nI (XN k) * 367 + 241) / 30449 * 30449 = nI (XN (k + 1)) := by
  have h := XN_lt k
  have e1 : nI (XN k) * 367 + 241 = nI (XN k * 367 + 241) := by rw [show (367 : Int32) = nI 367 from rfl, show (241 : Int32) = nI 241 from rfl, pk_mul, nI_add]
  rw [e1, show (30449 : Int32) = nI 30449 from rfl, pk_rem (by omega) (by decide) (by decide)]
  rfl
theorem rainI (k : Nat) : nI (XN k) - nI (XN k) / 10 * 10 = nI (RN_ (k + 1)) := by
  have h := XN_lt k
  rw [show (10 : Int32) = nI 10 from rfl, pk_rem (by omega) (by decide) (by decide)]
  rfl
theorem stepXl (k : Nat) : (((nI (XN k)).toInt64 * 367 + 241) - ((nI (XN k)).toInt64 * 367 + 241) / 30449 * 30449).toInt32 = nI (XN (k + 1)) := by
  have h := XN_lt k
  have e1 : (nI (XN k)).toInt64 * 367 + 241 = lN (XN k * 367 + 241) := by rw [nI_l (by omega), show (367 : Int64) = lN 367 from rfl, show (241 : Int64) = lN 241 from rfl, lN_mul, lN_add]
  rw [e1, show (30449 : Int64) = lN 30449 from rfl, pk_lRem (by omega) (by decide) (by decide), lN_i]
  rfl
theorem wi_60 {n : Int32} (h : ¬ wi n 1 60 = 0) : ∃ j : Nat, j ≤ 60 ∧ n = nI j := by
  have h1 : ¬ n < 1 := fun q => h (by unfold wi; rw [if_pos q])
  have h2 : ¬ 60 < n := fun q => h (by unfold wi; rw [if_neg h1, if_pos q])
  have h0 : ¬ n < 0 := fun q => h1 (by rw [Int32.lt_iff_toInt_lt] at q ⊢; rw [show (0 : Int32).toInt = 0 from rfl] at q; rw [show (1 : Int32).toInt = 1 from rfl]; omega)
  obtain ⟨j, hj, e⟩ := nI_of2 (n := 60) (M := 60) rfl h0 (Int32.not_lt.mp h2)
  exact ⟨j, hj, e⟩
def dayF (n : Int32) : Int32 := if wi n 1 60 = 0 then -1 else nI (RN_ n.toNatClampNeg)
def foreF (n o : Int32) : Int32 := if wi n 1 60 = 0 then -1 else if o = -1 then nI (RN_ n.toNatClampNeg) else -1
set_option maxHeartbeats 4000000 in
set_option maxRecDepth 100000 in
theorem c_lastsOn {l : Launch} {G : GG} {L : List Nat} {f : HF} {h oa aa : Nat} {oc ac dt rn xx : Int32} {i : Nat} (p_h : pt L f h (.inr (4, [.ref oa, .ref aa, .int oc, .int ac, .int dt, .int rn, .int xx]))) (hd : dt = nI i) (hi : i < 9999) : PMp l yX4_lastsOn cX4_lastsOn 1 .boolean 0 0 0 G [.ref h] L f (fun r => r = 1) := by
  refine PMi.of (post := fun r L1 f1 => (r = 1) ∧ L1 = L ∧ f1 = f) (own := RX4) (by decide) rfl (Nat.le_of_ble_eq_true rfl) (fun sz p e s m args below meth c A ls hA1 hname S Y hl => ?_)
  have hx := S.hx
  have hb := S.hb
  have hl : lv_has ls 1 [(0, .ref h)] := hl
  refine lv_aload_n hx hb dX4_lastsOn_0 rfl (lv_at hl 0 rfl) ?_
  refine pg_get S Y ok_X4 4 (by decide) kf4_34 (v := .int dt) p_h rfl dX4_lastsOn_1 ?_
  refine lv_sipush (v := 9999) hx hb dX4_lastsOn_4 (by decide) ?_
  refine lv_icmp_ge (tgt := 14) hx hb dX4_lastsOn_7 (by decide) (fun h => absurd h (by rw [hd]; exact nI_ge hi (by decide))) (fun _ => ?_)
  refine lv_iconst (v := 1) hx hb dX4_lastsOn_10 (by decide) ?_
  refine lv_goto (tgt := 15) hx hb dX4_lastsOn_11 (by decide) ?_
  exact prI (post := fun r L1 f1 => (r = 1) ∧ L1 = L ∧ f1 = f) S Y rfl (by decide) (by decide) hA1 ⟨rfl, rfl, rfl⟩ dX4_lastsOn_15
set_option maxHeartbeats 4000000 in
set_option maxRecDepth 100000 in
theorem c_X4_draw {l : Launch} {G : GG} {L : List Nat} {f : HF} {h oa aa : Nat} {oc ac dt rn xx : Int32} {k : Nat} (p_h : pt L f h (.inr (4, [.ref oa, .ref aa, .int oc, .int ac, .int dt, .int rn, .int xx]))) (hxx : xx = nI (XN k)) : PMi l yX4_draw cX4_draw 2 .int 0 0 0 G [.ref h] L f (fun r L1 f1 => ∃ x1 : Int32, r = xx ∧ kp L f L1 f1 [h] ∧ pt L1 f1 h (.inr (4, [.ref oa, .ref aa, .int oc, .int ac, .int dt, .int rn, .int x1])) ∧ x1 = nI (XN (k + 1))) := by
  refine PMi.of (post := fun r L1 f1 => ∃ x1 : Int32, r = xx ∧ kp L f L1 f1 [h] ∧ pt L1 f1 h (.inr (4, [.ref oa, .ref aa, .int oc, .int ac, .int dt, .int rn, .int x1])) ∧ x1 = nI (XN (k + 1))) (own := RX4) (by decide) rfl (Nat.le_of_ble_eq_true rfl) (fun sz p e s m args below meth c A ls hA1 hname S Y hl => ?_)
  have hx := S.hx
  have hb := S.hb
  have hl : lv_has ls 2 [(0, .ref h)] := hl
  have hk : kp L f L f [h] := kp.rf
  refine lv_aload_n hx hb dX4_draw_0 rfl (lv_at hl 0 rfl) ?_
  refine pg_get S Y ok_X4 6 (by decide) kf4_18 (v := .int xx) p_h rfl dX4_draw_1 ?_
  refine lv_istore_n (lv' := [(1, .int xx), (0, .ref h)]) hx hb dX4_draw_4 rfl hl (by decide) rfl (fun ls hl => ?_)
  refine lv_aload_n hx hb dX4_draw_5 rfl (lv_at hl 1 rfl) ?_
  refine lv_aload_n hx hb dX4_draw_6 rfl (lv_at hl 1 rfl) ?_
  refine pg_get S Y ok_X4 6 (by decide) kf4_18 (v := .int xx) p_h rfl dX4_draw_7 ?_
  refine lv_sipush (v := 367) hx hb dX4_draw_10 (by decide) ?_
  refine lv_imul hx hb dX4_draw_13 ?_
  refine lv_topi (fun x_1229 ex_1229 => ?_)
  refine lv_sipush (v := 241) hx hb dX4_draw_14 (by decide) ?_
  refine lv_iadd hx hb dX4_draw_17 ?_
  refine lv_topi (fun x_1230 ex_1230 => ?_)
  refine lv_sipush (v := 30449) hx hb dX4_draw_18 (by decide) ?_
  refine lv_irem hx hb dX4_draw_21 (by decide) ?_
  refine lv_topi (fun x_1231 ex_1231 => ?_)
  refine pg_put S Y ok_X4 6 (by decide) kf4_18 rfl (fs' := [.ref oa, .ref aa, .int oc, .int ac, .int dt, .int rn, .int x_1231]) (v := .int x_1231) p_h rfl rfl rfl (Nat.le_of_ble_eq_true rfl) dX4_draw_22 (fun f_1232 H locs ef_1232 Y => ?_)
  have p_h := p_h.me ef_1232
  have hk := hk.up ef_1232 (by simp)
  refine lv_iload_n hx hb dX4_draw_25 rfl (lv_at hl 0 rfl) ?_
  exact prI (post := fun r L1 f1 => ∃ x1 : Int32, r = xx ∧ kp L f L1 f1 [h] ∧ pt L1 f1 h (.inr (4, [.ref oa, .ref aa, .int oc, .int ac, .int dt, .int rn, .int x1])) ∧ x1 = nI (XN (k + 1))) S Y rfl (by decide) (by decide) hA1 ⟨x_1231, rfl, hk, p_h, (by rw [ex_1231, ex_1230, ex_1229, hxx]; exact stepXi k)⟩ dX4_draw_26
set_option maxHeartbeats 4000000 in
set_option maxRecDepth 100000 in
theorem c_X4_turnDay {l : Launch} {G : GG} {L : List Nat} {f : HF} {h oa aa : Nat} {oc ac dt rn xx : Int32} {k : Nat} (p_h : pt L f h (.inr (4, [.ref oa, .ref aa, .int oc, .int ac, .int dt, .int rn, .int xx]))) (hxx : xx = nI (XN k)) : PMv l yX4_turnDay cX4_turnDay 1 1 0 0 G [.ref h] L f (fun L1 f1 => ∃ d1 : Int32, ∃ r1 : Int32, ∃ x1 : Int32, kp L f L1 f1 [h] ∧ pt L1 f1 h (.inr (4, [.ref oa, .ref aa, .int oc, .int ac, .int d1, .int r1, .int x1])) ∧ d1 = dt + 1 ∧ r1 = nI (RN_ (k + 1)) ∧ x1 = nI (XN (k + 1))) := by
  refine PMv.of (post := fun L1 f1 => ∃ d1 : Int32, ∃ r1 : Int32, ∃ x1 : Int32, kp L f L1 f1 [h] ∧ pt L1 f1 h (.inr (4, [.ref oa, .ref aa, .int oc, .int ac, .int d1, .int r1, .int x1])) ∧ d1 = dt + 1 ∧ r1 = nI (RN_ (k + 1)) ∧ x1 = nI (XN (k + 1))) (own := RX4) (by decide) rfl (Nat.le_of_ble_eq_true rfl) (fun sz p e s m args below meth c A ls hA1 hname S Y hl => ?_)
  have hx := S.hx
  have hb := S.hb
  have hl : lv_has ls 1 [(0, .ref h)] := hl
  have hk : kp L f L f [h] := kp.rf
  refine lv_aload_n hx hb dX4_turnDay_0 rfl (lv_at hl 0 rfl) ?_
  refine lv_dup hx hb dX4_turnDay_1 rfl ?_
  refine pg_get S Y ok_X4 4 (by decide) kf4_34 (v := .int dt) p_h rfl dX4_turnDay_2 ?_
  refine lv_iconst (v := 1) hx hb dX4_turnDay_5 (by decide) ?_
  refine lv_iadd hx hb dX4_turnDay_6 ?_
  refine lv_topi (fun x_1233 ex_1233 => ?_)
  refine pg_put S Y ok_X4 4 (by decide) kf4_34 rfl (fs' := [.ref oa, .ref aa, .int oc, .int ac, .int x_1233, .int rn, .int xx]) (v := .int x_1233) p_h rfl rfl rfl (Nat.le_of_ble_eq_true rfl) dX4_turnDay_7 (fun f_1234 H locs ef_1234 Y => ?_)
  have p_h := p_h.me ef_1234
  have hk := hk.up ef_1234 (by simp)
  refine lv_aload_n hx hb dX4_turnDay_10 rfl (lv_at hl 0 rfl) ?_
  refine lv_aload_n hx hb dX4_turnDay_11 rfl (lv_at hl 0 rfl) ?_
  refine cVi (As := []) (rest := [.ref h]) S Y (c_X4_draw (l := l) p_h hxx) cw_X4_draw km4_64 p_h ok_X4.1 rfl rfl ⟨Nat.le_of_ble_eq_true rfl, Nat.le_of_ble_eq_true rfl⟩ hl.1 rfl (Nat.le_of_ble_eq_true rfl) ⟨Nat.le_of_ble_eq_true rfl, Nat.le_of_ble_eq_true rfl⟩ dX4_turnDay_12 (fun r_1235 L_1236 f_1237 H locs hf_1237 Y => ?_)
  obtain ⟨x__1238, er_1235, kf_1237, z_z_1239, hx1_1240⟩ := hf_1237
  have p_h := z_z_1239
  have hk := hk.call kf_1237 (fun b hb hp => (nmc (fun q => hb (by simp [q])) nm0))
  refine lv_fold (z := (xx)) er_1235 ?_
  refine lv_bipush (v := 10) hx hb dX4_turnDay_15 (by decide) ?_
  refine lv_irem hx hb dX4_turnDay_17 (by decide) ?_
  refine lv_topi (fun x_1241 ex_1241 => ?_)
  refine pg_put S Y ok_X4 5 (by decide) kf4_37 rfl (fs' := [.ref oa, .ref aa, .int oc, .int ac, .int x_1233, .int x_1241, .int x__1238]) (v := .int x_1241) p_h rfl rfl rfl (Nat.le_of_ble_eq_true rfl) dX4_turnDay_18 (fun f_1242 H locs ef_1242 Y => ?_)
  have p_h := p_h.me ef_1242
  have hk := hk.up ef_1242 (by simp)
  exact prV (post := fun L1 f1 => ∃ d1 : Int32, ∃ r1 : Int32, ∃ x1 : Int32, kp L f L1 f1 [h] ∧ pt L1 f1 h (.inr (4, [.ref oa, .ref aa, .int oc, .int ac, .int d1, .int r1, .int x1])) ∧ d1 = dt + 1 ∧ r1 = nI (RN_ (k + 1)) ∧ x1 = nI (XN (k + 1))) S Y (by decide) (by decide) hA1 ⟨x_1233, x_1241, x__1238, hk, p_h, ex_1233, (by rw [ex_1241, hxx]; exact rainI k), hx1_1240⟩ dX4_turnDay_21
set_option maxHeartbeats 4000000 in
set_option maxRecDepth 100000 in
theorem c_X4_takeOver {l : Launch} {G : GG} {L : List Nat} {f : HF} {h o oa aa ob ab : Nat} {h1 h2 h3 h4 h5 o1 o2 o3 o4 o5 : Int32} {g1 g2 g3 g4 : Nat → Int32}  (p_h : pt L f h (.inr (4, [.ref oa, .ref aa, .int h1, .int h2, .int h3, .int h4, .int h5]))) (p_oa : pt L f oa (.inl (G.2 0, 98, .inl g1))) (p_aa : pt L f aa (.inl (G.2 0, 90, .inl g2))) (p_o : pt L f o (.inr (4, [.ref ob, .ref ab, .int o1, .int o2, .int o3, .int o4, .int o5]))) (p_ob : pt L f ob (.inl (G.2 0, 98, .inl g3))) (p_ab : pt L f ab (.inl (G.2 0, 90, .inl g4))) (n1 : h ≠ o) : PMv l yX4_takeOver cX4_takeOver 2 1 0 0 G [.ref h, .ref o] L f (fun L1 f1 => ∃ g5 : Nat → Int32, ∃ g6 : Nat → Int32, kp L f L1 f1 [h, oa, aa] ∧ pt L1 f1 h (.inr (4, [.ref oa, .ref aa, .int o1, .int o2, .int o3, .int o4, .int o5])) ∧ pt L1 f1 oa (.inl (G.2 0, 98, .inl g5)) ∧ pt L1 f1 aa (.inl (G.2 0, 90, .inl g6))) := by
  refine PMv.of (post := fun L1 f1 => ∃ g5 : Nat → Int32, ∃ g6 : Nat → Int32, kp L f L1 f1 [h, oa, aa] ∧ pt L1 f1 h (.inr (4, [.ref oa, .ref aa, .int o1, .int o2, .int o3, .int o4, .int o5])) ∧ pt L1 f1 oa (.inl (G.2 0, 98, .inl g5)) ∧ pt L1 f1 aa (.inl (G.2 0, 90, .inl g6))) (own := RX4) (by decide) rfl (Nat.le_of_ble_eq_true rfl) (fun sz p e s m args below meth c A ls hA1 hname S Y hl => ?_)
  have hx := S.hx
  have hb := S.hb
  have hl : lv_has ls 2 [(0, .ref h), (1, .ref o)] := hl
  have hk : kp L f L f [h, oa, aa] := kp.rf
  refine lv_aload_n hx hb dX4_takeOver_0 rfl (lv_at hl 1 rfl) ?_
  refine pg_get S Y ok_X4 0 (by decide) kf4_9 (v := .ref ob) p_o rfl dX4_takeOver_1 ?_
  refine lv_iconst (v := 0) hx hb dX4_takeOver_4 (by decide) ?_
  refine lv_aload_n hx hb dX4_takeOver_5 rfl (lv_at hl 0 rfl) ?_
  refine pg_get S Y ok_X4 0 (by decide) kf4_9 (v := .ref oa) p_h rfl dX4_takeOver_6 ?_
  refine lv_iconst (v := 0) hx hb dX4_takeOver_9 (by decide) ?_
  refine lv_aload_n hx hb dX4_takeOver_10 rfl (lv_at hl 0 rfl) ?_
  refine pg_get S Y ok_X4 0 (by decide) kf4_9 (v := .ref oa) p_h rfl dX4_takeOver_11 ?_
  refine pg_alen S Y (k := 0) (v := 98) p_oa rfl rfl dX4_takeOver_14 ?_
  refine pg_copyi S Y hl.1 km4_22 kAn kAs kAi p_ob p_oa (by decide) (by decide) (by decide) (by decide) (by decide) (Nat.le_of_ble_eq_true rfl) (Nat.le_of_ble_eq_true rfl) dX4_takeOver_15 (fun f_1244 H locs ef_1244 Y => ?_)
  obtain ⟨g_1243, eg_1243⟩ : ∃ z, z = va_cpy (g3) (g1) (0 : Int32).toNatClampNeg (0 : Int32).toNatClampNeg (98 : Int32).toNatClampNeg := ⟨_, rfl⟩
  rw [← eg_1243] at ef_1244
  have p_h := p_h.up ef_1244 ((p_h.neA p_oa))
  have p_aa := p_aa.up ef_1244 ((p_aa.neN p_oa (by decide)))
  have p_o := p_o.up ef_1244 ((p_o.neA p_oa))
  have p_ab := p_ab.up ef_1244 ((p_ab.neN p_oa (by decide)))
  have p_oa := p_oa.me ef_1244
  have hk := hk.up ef_1244 (by simp)
  refine lv_aload_n hx hb dX4_takeOver_18 rfl (lv_at hl 1 rfl) ?_
  refine pg_get S Y ok_X4 1 (by decide) kf4_15 (v := .ref ab) p_o rfl dX4_takeOver_19 ?_
  refine lv_iconst (v := 0) hx hb dX4_takeOver_22 (by decide) ?_
  refine lv_aload_n hx hb dX4_takeOver_23 rfl (lv_at hl 0 rfl) ?_
  refine pg_get S Y ok_X4 1 (by decide) kf4_15 (v := .ref aa) p_h rfl dX4_takeOver_24 ?_
  refine lv_iconst (v := 0) hx hb dX4_takeOver_27 (by decide) ?_
  refine lv_aload_n hx hb dX4_takeOver_28 rfl (lv_at hl 0 rfl) ?_
  refine pg_get S Y ok_X4 1 (by decide) kf4_15 (v := .ref aa) p_h rfl dX4_takeOver_29 ?_
  refine pg_alen S Y (k := 0) (v := 90) p_aa rfl rfl dX4_takeOver_32 ?_
  refine pg_copyi S Y hl.1 km4_22 kAn kAs kAi p_ab p_aa (by decide) (by decide) (by decide) (by decide) (by decide) (Nat.le_of_ble_eq_true rfl) (Nat.le_of_ble_eq_true rfl) dX4_takeOver_33 (fun f_1246 H locs ef_1246 Y => ?_)
  obtain ⟨g_1245, eg_1245⟩ : ∃ z, z = va_cpy (g4) (g2) (0 : Int32).toNatClampNeg (0 : Int32).toNatClampNeg (90 : Int32).toNatClampNeg := ⟨_, rfl⟩
  rw [← eg_1245] at ef_1246
  have p_h := p_h.up ef_1246 ((p_h.neA p_aa))
  have p_oa := p_oa.up ef_1246 ((p_oa.neN p_aa (by decide)))
  have p_o := p_o.up ef_1246 ((p_o.neA p_aa))
  have p_aa := p_aa.me ef_1246
  have hk := hk.up ef_1246 (by simp)
  refine lv_aload_n hx hb dX4_takeOver_36 rfl (lv_at hl 0 rfl) ?_
  refine lv_aload_n hx hb dX4_takeOver_37 rfl (lv_at hl 1 rfl) ?_
  refine pg_get S Y ok_X4 2 (by decide) kf4_28 (v := .int o1) p_o rfl dX4_takeOver_38 ?_
  refine pg_put S Y ok_X4 2 (by decide) kf4_28 rfl (fs' := [.ref oa, .ref aa, .int o1, .int h2, .int h3, .int h4, .int h5]) (v := .int o1) p_h rfl rfl rfl (Nat.le_of_ble_eq_true rfl) dX4_takeOver_41 (fun f_1247 H locs ef_1247 Y => ?_)
  have p_oa := p_oa.up ef_1247 ((p_oa.neB p_h))
  have p_aa := p_aa.up ef_1247 ((p_aa.neB p_h))
  have p_o := p_o.up ef_1247 ((Ne.symm (n1)))
  have p_h := p_h.me ef_1247
  have hk := hk.up ef_1247 (by simp)
  refine lv_aload_n hx hb dX4_takeOver_44 rfl (lv_at hl 0 rfl) ?_
  refine lv_aload_n hx hb dX4_takeOver_45 rfl (lv_at hl 1 rfl) ?_
  refine pg_get S Y ok_X4 3 (by decide) kf4_31 (v := .int o2) p_o rfl dX4_takeOver_46 ?_
  refine pg_put S Y ok_X4 3 (by decide) kf4_31 rfl (fs' := [.ref oa, .ref aa, .int o1, .int o2, .int h3, .int h4, .int h5]) (v := .int o2) p_h rfl rfl rfl (Nat.le_of_ble_eq_true rfl) dX4_takeOver_49 (fun f_1248 H locs ef_1248 Y => ?_)
  have p_oa := p_oa.up ef_1248 ((p_oa.neB p_h))
  have p_aa := p_aa.up ef_1248 ((p_aa.neB p_h))
  have p_o := p_o.up ef_1248 ((Ne.symm (n1)))
  have p_h := p_h.me ef_1248
  have hk := hk.up ef_1248 (by simp)
  refine lv_aload_n hx hb dX4_takeOver_52 rfl (lv_at hl 0 rfl) ?_
  refine lv_aload_n hx hb dX4_takeOver_53 rfl (lv_at hl 1 rfl) ?_
  refine pg_get S Y ok_X4 4 (by decide) kf4_34 (v := .int o3) p_o rfl dX4_takeOver_54 ?_
  refine pg_put S Y ok_X4 4 (by decide) kf4_34 rfl (fs' := [.ref oa, .ref aa, .int o1, .int o2, .int o3, .int h4, .int h5]) (v := .int o3) p_h rfl rfl rfl (Nat.le_of_ble_eq_true rfl) dX4_takeOver_57 (fun f_1249 H locs ef_1249 Y => ?_)
  have p_oa := p_oa.up ef_1249 ((p_oa.neB p_h))
  have p_aa := p_aa.up ef_1249 ((p_aa.neB p_h))
  have p_o := p_o.up ef_1249 ((Ne.symm (n1)))
  have p_h := p_h.me ef_1249
  have hk := hk.up ef_1249 (by simp)
  refine lv_aload_n hx hb dX4_takeOver_60 rfl (lv_at hl 0 rfl) ?_
  refine lv_aload_n hx hb dX4_takeOver_61 rfl (lv_at hl 1 rfl) ?_
  refine pg_get S Y ok_X4 5 (by decide) kf4_37 (v := .int o4) p_o rfl dX4_takeOver_62 ?_
  refine pg_put S Y ok_X4 5 (by decide) kf4_37 rfl (fs' := [.ref oa, .ref aa, .int o1, .int o2, .int o3, .int o4, .int h5]) (v := .int o4) p_h rfl rfl rfl (Nat.le_of_ble_eq_true rfl) dX4_takeOver_65 (fun f_1250 H locs ef_1250 Y => ?_)
  have p_oa := p_oa.up ef_1250 ((p_oa.neB p_h))
  have p_aa := p_aa.up ef_1250 ((p_aa.neB p_h))
  have p_o := p_o.up ef_1250 ((Ne.symm (n1)))
  have p_h := p_h.me ef_1250
  have hk := hk.up ef_1250 (by simp)
  refine lv_aload_n hx hb dX4_takeOver_68 rfl (lv_at hl 0 rfl) ?_
  refine lv_aload_n hx hb dX4_takeOver_69 rfl (lv_at hl 1 rfl) ?_
  refine pg_get S Y ok_X4 6 (by decide) kf4_18 (v := .int o5) p_o rfl dX4_takeOver_70 ?_
  refine pg_put S Y ok_X4 6 (by decide) kf4_18 rfl (fs' := [.ref oa, .ref aa, .int o1, .int o2, .int o3, .int o4, .int o5]) (v := .int o5) p_h rfl rfl rfl (Nat.le_of_ble_eq_true rfl) dX4_takeOver_73 (fun f_1251 H locs ef_1251 Y => ?_)
  have p_oa := p_oa.up ef_1251 ((p_oa.neB p_h))
  have p_aa := p_aa.up ef_1251 ((p_aa.neB p_h))
  have p_o := p_o.up ef_1251 ((Ne.symm (n1)))
  have p_h := p_h.me ef_1251
  have hk := hk.up ef_1251 (by simp)
  exact prV (post := fun L1 f1 => ∃ g5 : Nat → Int32, ∃ g6 : Nat → Int32, kp L f L1 f1 [h, oa, aa] ∧ pt L1 f1 h (.inr (4, [.ref oa, .ref aa, .int o1, .int o2, .int o3, .int o4, .int o5])) ∧ pt L1 f1 oa (.inl (G.2 0, 98, .inl g5)) ∧ pt L1 f1 aa (.inl (G.2 0, 90, .inl g6))) S Y (by decide) (by decide) hA1 ⟨g_1243, g_1245, hk, p_h, p_oa, p_aa⟩ dX4_takeOver_76
set_option maxHeartbeats 4000000 in
set_option maxRecDepth 100000 in
theorem c_X2_rainBehind {l : Launch} {G : GG} {L : List Nat} {f : HF} {h w jd dd sl ta ag sc nw pa fe cl wo si we oa aa slo sla : Nat} {n s1 s2 s3 s4 s5 : Int32} {g3 g4 g1 g2 : Nat → Int32} {j : Nat} (p_h : pt L f h (.inr (2, [.ref w, .ref jd, .ref dd, .ref sl]))) (p_w : pt L f w (.inr (10, [.ref ta, .ref ag, .ref sc, .ref nw, .ref pa, .ref fe, .ref cl, .ref wo, .ref si, .ref we, .int 0, .int 0, .int (-1), .int 0, .int 0]))) (p_nw : pt L f nw (.inr (4, [.ref oa, .ref aa, .int 0, .int 0, .int 0, .int 0, .int 137]))) (p_oa : pt L f oa (.inl (G.2 0, 98, .inl g3))) (p_aa : pt L f aa (.inl (G.2 0, 90, .inl g4))) (p_sl : pt L f sl (.inr (4, [.ref slo, .ref sla, .int s1, .int s2, .int s3, .int s4, .int s5]))) (p_slo : pt L f slo (.inl (G.2 0, 98, .inl g1))) (p_sla : pt L f sla (.inl (G.2 0, 90, .inl g2))) (n8 : sl ≠ nw) (hn : n = nI j) (hj : j ≤ 60) : PMi l yX2_rainBehind cX2_rainBehind 3 .int 2 0 0 G [.ref h, .int n] L f (fun r L1 f1 => r = nI (RN_ j)) := by
  refine PMi.of (post := fun r L1 f1 => r = nI (RN_ j)) (own := RX2) (by decide) rfl (Nat.le_of_ble_eq_true rfl) (fun sz p e s m args below meth c A ls hA1 hname S Y hl => ?_)
  have hx := S.hx
  have hb := S.hb
  have hl : lv_has ls 3 [(0, .ref h), (1, .int n)] := hl
  refine lv_aload_n hx hb dX2_rainBehind_0 rfl (lv_at hl 0 rfl) ?_
  refine pg_get S Y ok_X2 3 (by decide) kf2_23 (v := .ref sl) p_h rfl dX2_rainBehind_1 ?_
  refine lv_aload_n hx hb dX2_rainBehind_4 rfl (lv_at hl 0 rfl) ?_
  refine pg_get S Y ok_X2 0 (by decide) kf2_9 (v := .ref w) p_h rfl dX2_rainBehind_5 ?_
  refine pg_getN S Y ok_X10 3 (by decide) kf2_27 (v := .ref nw) p_w rfl dX2_rainBehind_8 ?_
  refine cVv (As := [.ref nw]) (rest := []) S Y (c_X4_takeOver (l := l) p_sl p_slo p_sla p_nw p_oa p_aa (n8)) cw_X4_takeOver km2_32 p_sl ok_X4.1 rfl rfl ⟨Nat.le_of_ble_eq_true rfl, Nat.le_of_ble_eq_true rfl⟩ hl.1 rfl (Nat.le_of_ble_eq_true rfl) ⟨Nat.le_of_ble_eq_true rfl, Nat.le_of_ble_eq_true rfl⟩ dX2_rainBehind_11 (fun L_1252 f_1253 H locs hf_1253 Y => ?_)
  obtain ⟨g__1254, g__1255, kf_1253, z_z_1256, z_z_1257, z_z_1258⟩ := hf_1253
  have p_h := kf_1253.1 h _ (nmc (p_h.neK p_sl (by decide)) (nmc (p_h.neA p_slo) (nmc (p_h.neA p_sla) nm0))) p_h
  have p_w := kf_1253.1 w _ (nmc (p_w.neK p_sl (by decide)) (nmc (p_w.neA p_slo) (nmc (p_w.neA p_sla) nm0))) p_w
  have p_nw := kf_1253.1 nw _ (nmc (Ne.symm (n8)) (nmc (p_nw.neA p_slo) (nmc (p_nw.neA p_sla) nm0))) p_nw
  have p_sl := z_z_1256
  have p_slo := z_z_1257
  have p_sla := z_z_1258
  refine lv_iconst (v := 0) hx hb dX2_rainBehind_14 (by decide) ?_
  refine lv_istore_n (lv' := [(2, .int 0), (0, .ref h), (1, .int n)]) hx hb dX2_rainBehind_15 rfl hl (by decide) rfl (fun ls hl => ?_)
  have loop : ∀ (n0 i : Nat) (L2 : List Nat) (f2 : HF) (dt : Int32) (rn : Int32) (xx : Int32) (H : Heap) (locs : List Loc) (ls : Array Slot) (x : Int32), i + n0 = j → x = nI i → pt L2 f2 h (.inr (2, [.ref w, .ref jd, .ref dd, .ref sl])) → pt L2 f2 sl (.inr (4, [.ref slo, .ref sla, .int 0, .int 0, .int dt, .int rn, .int xx])) → dt = nI i → rn = nI (RN_ i) → xx = nI (XN i) → DY G A s [] L2 f2 H locs → lv_has ls 3 [(2, .int x), (0, .ref h), (1, .int n)] → W p l e (rmD 2 0 0) s m args below meth c H locs (0) (0) (MQ below (va_Qi (fun r (u : List Nat × HF) => (fun r L1 f1 => r = nI (RN_ j)) r u.1 u.2) (fun u t => pOut G (va_A (va_pl L f) sz) u.1 u.2 t) (va_A (va_pl L f) sz)) args s 0 0 A) (F0 m 16 ls []) := by
    intro n0
    induction n0 with
    | zero =>
      intro i L2 f2 dt rn xx H locs ls x hin ex p_h p_sl hd hr hxx Y hl
      obtain rfl : j = i := by omega
      refine lv_iload_n hx hb dX2_rainBehind_16 rfl (lv_at hl 0 rfl) ?_
      refine lv_iload_n hx hb dX2_rainBehind_17 rfl (lv_at hl 2 rfl) ?_
      refine lv_icmp_ge (tgt := 44) hx hb dX2_rainBehind_18 (by decide) (fun _ => ?_) (fun h => absurd (by rw [ex, hn]; exact nI_le (Nat.le_refl _) (by omega)) h)
      refine lv_aload_n hx hb dX2_rainBehind_44 rfl (lv_at hl 1 rfl) ?_
      refine pg_get S Y ok_X2 3 (by decide) kf2_23 (v := .ref sl) p_h rfl dX2_rainBehind_45 ?_
      refine pg_getN S Y ok_X4 5 (by decide) kf2_45 (v := .int rn) p_sl rfl dX2_rainBehind_48 ?_
      exact prI (post := fun r L1 f1 => r = nI (RN_ j)) S Y rfl (by decide) (by decide) hA1 hr dX2_rainBehind_51
    | succ n0 ih =>
      intro i L2 f2 dt rn xx H locs ls x hin ex p_h p_sl hd hr hxx Y hl
      have hij : i < j := by omega
      have hi9 : i < 9999 := by omega
      have hin2 : i + 1 + n0 = j := by omega
      refine lv_iload_n hx hb dX2_rainBehind_16 rfl (lv_at hl 0 rfl) ?_
      refine lv_iload_n hx hb dX2_rainBehind_17 rfl (lv_at hl 2 rfl) ?_
      refine lv_icmp_ge (tgt := 44) hx hb dX2_rainBehind_18 (by decide) (fun h => absurd h (by rw [ex, hn]; exact nI_ge hij (by omega))) (fun _ => ?_)
      refine lv_aload_n hx hb dX2_rainBehind_21 rfl (lv_at hl 1 rfl) ?_
      refine pg_get S Y ok_X2 3 (by decide) kf2_23 (v := .ref sl) p_h rfl dX2_rainBehind_22 ?_
      refine cVp (As := []) (rest := []) S Y (c_lastsOn (l := l) p_sl hd hi9) cw_X4_lastsOn km2_38 p_sl ok_X4.1 rfl rfl ⟨Nat.le_of_ble_eq_true rfl, Nat.le_of_ble_eq_true rfl⟩ hl.1 rfl (Nat.le_of_ble_eq_true rfl) ⟨Nat.le_of_ble_eq_true rfl, Nat.le_of_ble_eq_true rfl⟩ dX2_rainBehind_25 (fun r_1259 H locs er_1259 Y => ?_)
      refine lv_fold (z := 1) er_1259 ?_
      refine lv_if_eq (tgt := 44) hx hb dX2_rainBehind_28 (by decide) (fun h => absurd h (by decide)) (fun _ => ?_)
      refine lv_aload_n hx hb dX2_rainBehind_31 rfl (lv_at hl 1 rfl) ?_
      refine pg_get S Y ok_X2 3 (by decide) kf2_23 (v := .ref sl) p_h rfl dX2_rainBehind_32 ?_
      refine cVv (As := []) (rest := []) S Y (c_X4_turnDay (l := l) p_sl hxx) cw_X4_turnDay km2_42 p_sl ok_X4.1 rfl rfl ⟨Nat.le_of_ble_eq_true rfl, Nat.le_of_ble_eq_true rfl⟩ hl.1 rfl (Nat.le_of_ble_eq_true rfl) ⟨Nat.le_of_ble_eq_true rfl, Nat.le_of_ble_eq_true rfl⟩ dX2_rainBehind_35 (fun L_1260 f_1261 H locs hf_1261 Y => ?_)
      obtain ⟨d__1262, r__1263, x__1264, kf_1261, z_z_1265, hd1_1266, hr1_1267, hx1_1268⟩ := hf_1261
      have p_h := kf_1261.1 h _ (nmc (p_h.neK p_sl (by decide)) nm0) p_h
      have p_sl := z_z_1265
      obtain ⟨x_1269, ex_1269⟩ : ∃ z : Int32, z = x + 1 := ⟨_, rfl⟩
      refine lv_iinc (v := x_1269) (lv' := [(2, .int x_1269), (0, .ref h), (1, .int n)]) hx hb dX2_rainBehind_38 hl (k := 0) rfl (by rw [ex_1269]; rfl) (by decide) rfl (fun ls hl => ?_)
      refine lv_goto (tgt := 16) hx hb dX2_rainBehind_41 (by decide) ?_
      have ex2 : x_1269 = nI (i + 1) := by rw [ex_1269, ex]; exact nI_1 i
      exact ih (i + 1) _ _ _ _ _ _ _ _ _ hin2 ex2 p_h p_sl (by rw [hd1_1266, hd]; exact nI_1 i) hr1_1267 hx1_1268 Y hl
  exact loop j 0 _ _ _ _ _ _ _ _ 0 (Nat.zero_add j) rfl p_h p_sl rfl rfl rfl Y hl
set_option maxHeartbeats 4000000 in
set_option maxRecDepth 100000 in
theorem c_X11_foretold {l : Launch} {G : GG} {L : List Nat} {f : HF} {h w k rd jd rg dd fo su ch ta ag sc nw pa fe cl wo si we oa aa sl slo sla : Nat} {n o s1 s2 s3 s4 s5 : Int32} {g3 g4 g1 g2 : Nat → Int32}  (p_h : pt L f h (.inr (11, [.ref w, .ref k, .ref rd, .ref jd, .ref rg, .ref dd, .ref fo, .ref su, .ref ch]))) (p_w : pt L f w (.inr (10, [.ref ta, .ref ag, .ref sc, .ref nw, .ref pa, .ref fe, .ref cl, .ref wo, .ref si, .ref we, .int 0, .int 0, .int (-1), .int 0, .int 0]))) (p_nw : pt L f nw (.inr (4, [.ref oa, .ref aa, .int 0, .int 0, .int 0, .int 0, .int 137]))) (p_oa : pt L f oa (.inl (G.2 0, 98, .inl g3))) (p_aa : pt L f aa (.inl (G.2 0, 90, .inl g4))) (p_fo : pt L f fo (.inr (2, [.ref w, .ref jd, .ref dd, .ref sl]))) (p_sl : pt L f sl (.inr (4, [.ref slo, .ref sla, .int s1, .int s2, .int s3, .int s4, .int s5]))) (p_slo : pt L f slo (.inl (G.2 0, 98, .inl g1))) (p_sla : pt L f sla (.inl (G.2 0, 90, .inl g2))) (n8 : sl ≠ nw) : PMi l yX11_foretold cX11_foretold 3 .int 3 0 0 G [.ref h, .int n, .int o] L f (fun r L1 f1 => r = foreF n o) := by
  refine PMi.of (post := fun r L1 f1 => r = foreF n o) (own := RX11) (by decide) rfl (Nat.le_of_ble_eq_true rfl) (fun sz p e s m args below meth c A ls hA1 hname S Y hl => ?_)
  have hx := S.hx
  have hb := S.hb
  have hl : lv_has ls 3 [(0, .ref h), (1, .int n), (2, .int o)] := hl
  refine lv_iload_n hx hb dX11_foretold_0 rfl (lv_at hl 1 rfl) ?_
  refine lv_iconst (v := 1) hx hb dX11_foretold_1 (by decide) ?_
  refine lv_bipush (v := 60) hx hb dX11_foretold_2 (by decide) ?_
  refine cSp (As := [.int n, .int 1, .int 60]) (rest := []) S Y (c_X11_within (l := l)) cw_X11_within km11_146 rfl ⟨Nat.le_of_ble_eq_true rfl, Nat.le_of_ble_eq_true rfl⟩ hl.1 rfl (Nat.le_of_ble_eq_true rfl) ⟨Nat.le_of_ble_eq_true rfl, Nat.le_of_ble_eq_true rfl⟩ dX11_foretold_4 (fun r_1270 H locs er_1270 Y => ?_)
  refine lv_fold (z := (wi n 1 60)) er_1270 ?_
  refine lv_if_ne (tgt := 12) hx hb dX11_foretold_7 (by decide) (fun c_1271 => ?_) (fun c_1271 => ?_)
  · refine lv_iload_n hx hb dX11_foretold_12 rfl (lv_at hl 2 rfl) ?_
    refine lv_iconst (v := (-1)) hx hb dX11_foretold_13 (by decide) ?_
    refine lv_icmp_ne (tgt := 26) hx hb dX11_foretold_14 (by decide) (fun c_1272 => ?_) (fun c_1272 => ?_)
    · refine lv_aload_n hx hb dX11_foretold_26 rfl (lv_at hl 0 rfl) ?_
      refine pg_get S Y ok_X11 0 (by decide) kf11_13 (v := .ref w) p_h rfl dX11_foretold_27 ?_
      refine lv_iload_n hx hb dX11_foretold_30 rfl (lv_at hl 2 rfl) ?_
      refine cVp (As := [.int o]) (rest := []) S Y (c_X10_has (l := l) p_w) cw_X10_has km11_192 p_w ok_X10.1 rfl rfl ⟨Nat.le_of_ble_eq_true rfl, Nat.le_of_ble_eq_true rfl⟩ hl.1 rfl (Nat.le_of_ble_eq_true rfl) ⟨Nat.le_of_ble_eq_true rfl, Nat.le_of_ble_eq_true rfl⟩ dX11_foretold_31 (fun r_1273 H locs er_1273 Y => ?_)
      refine lv_fold (z := 0) er_1273 ?_
      refine lv_if_eq (tgt := 49) hx hb dX11_foretold_34 (by decide) (fun _ => ?_) (fun h => absurd (by decide) h)
      refine lv_iconst (v := (-1)) hx hb dX11_foretold_49 (by decide) ?_
      exact prI (post := fun r L1 f1 => r = foreF n o) S Y rfl (by decide) (by decide) hA1 (by rw [foreF, if_neg c_1271, if_neg c_1272]) dX11_foretold_50
    · refine lv_aload_n hx hb dX11_foretold_17 rfl (lv_at hl 0 rfl) ?_
      refine pg_get S Y ok_X11 6 (by decide) kf11_59 (v := .ref fo) p_h rfl dX11_foretold_18 ?_
      refine lv_iload_n hx hb dX11_foretold_21 rfl (lv_at hl 1 rfl) ?_
      obtain ⟨j, hj, hn⟩ := wi_60 c_1271
      refine cVi (As := [.int n]) (rest := []) S Y (c_X2_rainBehind (l := l) p_fo p_w p_nw p_oa p_aa p_sl p_slo p_sla (n8) hn hj) cw_X2_rainBehind km11_237 p_fo ok_X2.1 rfl rfl ⟨Nat.le_of_ble_eq_true rfl, Nat.le_of_ble_eq_true rfl⟩ hl.1 rfl (Nat.le_of_ble_eq_true rfl) ⟨Nat.le_of_ble_eq_true rfl, Nat.le_of_ble_eq_true rfl⟩ dX11_foretold_22 (fun r_1274 L_1275 f_1276 H locs hf_1276 Y => ?_)
      exact prI (post := fun r L1 f1 => r = foreF n o) S Y rfl (by decide) (by decide) hA1 (by rw [foreF, if_neg c_1271, if_pos c_1272, hn, nI_clamp (by omega)]; exact hf_1276) dX11_foretold_25
  · refine lv_iconst (v := (-1)) hx hb dX11_foretold_10 (by decide) ?_
    exact prI (post := fun r L1 f1 => r = foreF n o) S Y rfl (by decide) (by decide) hA1 (by rw [foreF, if_pos c_1271]) dX11_foretold_11
