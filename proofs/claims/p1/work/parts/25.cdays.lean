theorem dX10_remember_0 : decode cX10_remember 0 = .ok (.aload_n 0, 1) := by decide +kernel
theorem dX10_remember_1 : decode cX10_remember 1 = .ok (.getfield 31, 3) := by decide +kernel
theorem dX10_remember_4 : decode cX10_remember 4 = .ok (.aload_n 0, 1) := by decide +kernel
theorem dX10_remember_5 : decode cX10_remember 5 = .ok (.getfield 83, 3) := by decide +kernel
theorem kf10_83 : inW (Cond.fieldLink RX10 83 "KneeOaths$World" "eldest" "I") := ⟨List.mem_of_getElem? (i := 299) (by decide +kernel), by decide +kernel⟩
theorem dX10_remember_8 : decode cX10_remember 8 = .ok (.aload_n 0, 1) := by decide +kernel
theorem dX10_remember_9 : decode cX10_remember 9 = .ok (.getfield 86, 3) := by decide +kernel
theorem dX10_remember_12 : decode cX10_remember 12 = .ok (.iadd, 1) := by decide +kernel
theorem dX10_remember_13 : decode cX10_remember 13 = .ok (.bipush 30, 2) := by decide +kernel
theorem dX10_remember_15 : decode cX10_remember 15 = .ok (.irem, 1) := by decide +kernel
theorem dX10_remember_16 : decode cX10_remember 16 = .ok (.aaload, 1) := by decide +kernel
theorem dX10_remember_17 : decode cX10_remember 17 = .ok (.aload_n 0, 1) := by decide +kernel
theorem dX10_remember_18 : decode cX10_remember 18 = .ok (.getfield 27, 3) := by decide +kernel
theorem dX10_remember_21 : decode cX10_remember 21 = .ok (.invokevirtual 74, 3) := by decide +kernel
theorem km10_74 : inW (Cond.methodLink RX10 74 yX4_takeOver) := ⟨List.mem_of_getElem? (i := 889) (by decide +kernel), by decide +kernel⟩
theorem dX10_remember_24 : decode cX10_remember 24 = .ok (.aload_n 0, 1) := by decide +kernel
theorem dX10_remember_25 : decode cX10_remember 25 = .ok (.getfield 86, 3) := by decide +kernel
theorem dX10_remember_28 : decode cX10_remember 28 = .ok (.bipush 30, 2) := by decide +kernel
theorem dX10_remember_30 : decode cX10_remember 30 = .ok (.if_icmp .ge 16, 3) := by decide +kernel
theorem dX10_remember_46 : decode cX10_remember 46 = .ok (.aload_n 0, 1) := by decide +kernel
theorem dX10_remember_47 : decode cX10_remember 47 = .ok (.aload_n 0, 1) := by decide +kernel
theorem dX10_remember_48 : decode cX10_remember 48 = .ok (.getfield 83, 3) := by decide +kernel
theorem dX10_remember_51 : decode cX10_remember 51 = .ok (.iconst 1, 1) := by decide +kernel
theorem dX10_remember_52 : decode cX10_remember 52 = .ok (.iadd, 1) := by decide +kernel
theorem dX10_remember_53 : decode cX10_remember 53 = .ok (.bipush 30, 2) := by decide +kernel
theorem dX10_remember_55 : decode cX10_remember 55 = .ok (.irem, 1) := by decide +kernel
theorem dX10_remember_56 : decode cX10_remember 56 = .ok (.putfield 83, 3) := by decide +kernel
theorem dX10_remember_59 : decode cX10_remember 59 = .ok (.return_, 1) := by decide +kernel
theorem dX10_remember_33 : decode cX10_remember 33 = .ok (.aload_n 0, 1) := by decide +kernel
theorem dX10_remember_34 : decode cX10_remember 34 = .ok (.dup, 1) := by decide +kernel
theorem dX10_remember_35 : decode cX10_remember 35 = .ok (.getfield 86, 3) := by decide +kernel
theorem dX10_remember_38 : decode cX10_remember 38 = .ok (.iconst 1, 1) := by decide +kernel
theorem dX10_remember_39 : decode cX10_remember 39 = .ok (.iadd, 1) := by decide +kernel
theorem dX10_remember_40 : decode cX10_remember 40 = .ok (.putfield 86, 3) := by decide +kernel
theorem dX10_remember_43 : decode cX10_remember 43 = .ok (.goto 16, 3) := by decide +kernel
theorem dX1_remember_0 : decode cX1_remember 0 = .ok (.aload_n 0, 1) := by decide +kernel
theorem dX1_remember_1 : decode cX1_remember 1 = .ok (.getfield 27, 3) := by decide +kernel
theorem kf1_27 : inW (Cond.fieldLink RX1 27 "KneeOaths$Deeds" "inYears" "Z") := ⟨List.mem_of_getElem? (i := 421) (by decide +kernel), by decide +kernel⟩
theorem dX1_remember_4 : decode cX1_remember 4 = .ok (.ifCond .ne 10, 3) := by decide +kernel
theorem dX1_remember_7 : decode cX1_remember 7 = .ok (.aload_n 0, 1) := by decide +kernel
theorem dX1_remember_8 : decode cX1_remember 8 = .ok (.getfield 15, 3) := by decide +kernel
theorem dX1_remember_11 : decode cX1_remember 11 = .ok (.invokevirtual 31, 3) := by decide +kernel
theorem cw_X10_remember : CWv yX10_remember cX10_remember 1 none 0 := ⟨⟨⟨List.mem_of_getElem? (i := 126) (by decide +kernel), by decide +kernel⟩, ⟨List.mem_of_getElem? (i := 888) (by decide +kernel), by decide +kernel⟩, by decide +kernel⟩, ⟨List.mem_of_getElem? (i := 886) (by decide +kernel), by decide +kernel⟩, ⟨List.mem_of_getElem? (i := 887) (by decide +kernel), by decide +kernel⟩⟩
theorem km1_31 : inW (Cond.methodLink RX1 31 yX10_remember) := ⟨List.mem_of_getElem? (i := 885) (by decide +kernel), by decide +kernel⟩
theorem dX1_remember_14 : decode cX1_remember 14 = .ok (.return_, 1) := by decide +kernel
theorem dX1_passDay_0 : decode cX1_passDay 0 = .ok (.aload_n 0, 1) := by decide +kernel
theorem dX1_passDay_1 : decode cX1_passDay 1 = .ok (.getfield 15, 3) := by decide +kernel
theorem dX1_passDay_4 : decode cX1_passDay 4 = .ok (.getfield 40, 3) := by decide +kernel
theorem dX1_passDay_7 : decode cX1_passDay 7 = .ok (.astore_n 1, 1) := by decide +kernel
theorem dX1_passDay_8 : decode cX1_passDay 8 = .ok (.aload_n 1, 1) := by decide +kernel
theorem dX1_passDay_9 : decode cX1_passDay 9 = .ok (.invokevirtual 97, 3) := by decide +kernel
theorem km1_97 : inW (Cond.methodLink RX1 97 yX4_lastsOn) := ⟨List.mem_of_getElem? (i := 1068) (by decide +kernel), by decide +kernel⟩
theorem dX1_passDay_12 : decode cX1_passDay 12 = .ok (.ifCond .ne 5, 3) := by decide +kernel
theorem dX1_passDay_17 : decode cX1_passDay 17 = .ok (.aload_n 0, 1) := by decide +kernel
theorem dX1_passDay_18 : decode cX1_passDay 18 = .ok (.invokevirtual 54, 3) := by decide +kernel
theorem cw_X1_remember : CWv yX1_remember cX1_remember 1 none 0 := ⟨⟨⟨List.mem_of_getElem? (i := 133) (by decide +kernel), by decide +kernel⟩, ⟨List.mem_of_getElem? (i := 884) (by decide +kernel), by decide +kernel⟩, by decide +kernel⟩, ⟨List.mem_of_getElem? (i := 883) (by decide +kernel), by decide +kernel⟩, ⟨List.mem_of_getElem? (i := 27) (by decide +kernel), by decide +kernel⟩⟩
theorem km1_54 : inW (Cond.methodLink RX1 54 yX1_remember) := ⟨List.mem_of_getElem? (i := 881) (by decide +kernel), by decide +kernel⟩
theorem dX1_passDay_21 : decode cX1_passDay 21 = .ok (.iconst 0, 1) := by decide +kernel
theorem dX1_passDay_22 : decode cX1_passDay 22 = .ok (.istore_n 2, 1) := by decide +kernel
theorem dX1_passDay_23 : decode cX1_passDay 23 = .ok (.iload_n 2, 1) := by decide +kernel
theorem dX1_passDay_24 : decode cX1_passDay 24 = .ok (.aload_n 0, 1) := by decide +kernel
theorem dX1_passDay_25 : decode cX1_passDay 25 = .ok (.getfield 15, 3) := by decide +kernel
theorem dX1_passDay_28 : decode cX1_passDay 28 = .ok (.getfield 101, 3) := by decide +kernel
theorem kf1_101 : inW (Cond.fieldLinkNest RX1 101 "KneeOaths$World" "people" "I" "KneeOaths") := ⟨List.mem_of_getElem? (i := 291) (by decide +kernel), by decide +kernel⟩
theorem dX1_passDay_31 : decode cX1_passDay 31 = .ok (.if_icmp .ge 29, 3) := by decide +kernel
theorem dX1_passDay_60 : decode cX1_passDay 60 = .ok (.aload_n 1, 1) := by decide +kernel
theorem dX1_passDay_61 : decode cX1_passDay 61 = .ok (.invokevirtual 111, 3) := by decide +kernel
theorem km1_111 : inW (Cond.methodLink RX1 111 yX4_turnDay) := ⟨List.mem_of_getElem? (i := 1085) (by decide +kernel), by decide +kernel⟩
theorem dX1_passDay_64 : decode cX1_passDay 64 = .ok (.iconst 1, 1) := by decide +kernel
theorem dX1_passDay_65 : decode cX1_passDay 65 = .ok (.ireturn, 1) := by decide +kernel
/-- Ledgers and their rows stay Ledgers and rows, of the same addresses -/
def sp (G : GG) (L : List Nat) (f : HF) (L1 : List Nat) (f1 : HF) : Prop := (∀ (b ra rb : Nat) (v1 v2 v3 v4 v5 : Int32), pt L f b (.inr (4, [.ref ra, .ref rb, .int v1, .int v2, .int v3, .int v4, .int v5])) → ∃ w1 w2 w3 w4 w5 : Int32, pt L1 f1 b (.inr (4, [.ref ra, .ref rb, .int w1, .int w2, .int w3, .int w4, .int w5]))) ∧ (∀ (b : Nat) (g : Nat → Int32), pt L f b (.inl (G.2 0, 98, .inl g)) → ∃ g' : Nat → Int32, pt L1 f1 b (.inl (G.2 0, 98, .inl g'))) ∧ (∀ (b : Nat) (g : Nat → Int32), pt L f b (.inl (G.2 0, 90, .inl g)) → ∃ g' : Nat → Int32, pt L1 f1 b (.inl (G.2 0, 90, .inl g')))
theorem sp_take {G : GG} {L L1 : List Nat} {f f1 : HF} {o a1 b1 : Nat} {v1 v2 v3 v4 v5 w1 w2 w3 w4 w5 : Int32} {g1 g2 g3 g4 : Nat → Int32} (k : kp L f L1 f1 [o, a1, b1]) (ho : pt L f o (.inr (4, [.ref a1, .ref b1, .int v1, .int v2, .int v3, .int v4, .int v5]))) (ha : pt L f a1 (.inl (G.2 0, 98, .inl g1))) (hb : pt L f b1 (.inl (G.2 0, 90, .inl g2))) (ho2 : pt L1 f1 o (.inr (4, [.ref a1, .ref b1, .int w1, .int w2, .int w3, .int w4, .int w5]))) (ha2 : pt L1 f1 a1 (.inl (G.2 0, 98, .inl g3))) (hb2 : pt L1 f1 b1 (.inl (G.2 0, 90, .inl g4))) : sp G L f L1 f1 := by
  refine ⟨fun b ra rb u1 u2 u3 u4 u5 h => ?_, fun b g h => ?_, fun b g h => ?_⟩
  · by_cases q : b = o
    · subst q
      have e := h.2.symm.trans ho.2
      cases e
      exact ⟨_, _, _, _, _, ho2⟩
    · exact ⟨_, _, _, _, _, k.1 _ _ (nmc q (nmc (h.neA ha) (nmc (h.neA hb) nm0))) h⟩
  · by_cases q : b = a1
    · subst q; exact ⟨_, ha2⟩
    · exact ⟨_, k.1 _ _ (nmc (h.neB ho) (nmc q (nmc (h.neN hb (by decide)) nm0))) h⟩
  · by_cases q : b = b1
    · subst q; exact ⟨_, hb2⟩
    · exact ⟨_, k.1 _ _ (nmc (h.neB ho) (nmc (h.neN ha (by decide)) (nmc q nm0))) h⟩
def isLA (G : GG) (e : va_E) : Prop := (∃ x, e = .inr (4, x)) ∨ (∃ x, e = .inl (G.2 0, 98, x)) ∨ (∃ x, e = .inl (G.2 0, 90, x))
theorem neLA {G : GG} {L : List Nat} {f : HF} {b o : Nat} {e e' : va_E} (hn : ¬ isLA G e) (hp : pt L f b e) (ho : pt L f o e') (he : isLA G e') : b ≠ o := fun q => hn (by subst q; rw [hp.2.symm.trans ho.2]; exact he)
theorem sp_kp {G : GG} {L L1 : List Nat} {f f1 : HF} {S : List Nat} (k : kp L f L1 f1 S) (hS : ∀ (b : Nat) (e : va_E), pt L f b e → isLA G e → b ∉ S) : sp G L f L1 f1 :=
  ⟨fun b _ _ _ _ _ _ _ h => ⟨_, _, _, _, _, k.1 _ _ (hS b _ h (Or.inl ⟨_, rfl⟩)) h⟩, fun b _ h => ⟨_, k.1 _ _ (hS b _ h (Or.inr (Or.inl ⟨_, rfl⟩))) h⟩, fun b _ h => ⟨_, k.1 _ _ (hS b _ h (Or.inr (Or.inr ⟨_, rfl⟩))) h⟩⟩
theorem sp.trans {G : GG} {L L1 L2 : List Nat} {f f1 f2 : HF} (h1 : sp G L f L1 f1) (h2 : sp G L1 f1 L2 f2) : sp G L f L2 f2 := by
  refine ⟨fun b ra rb u1 u2 u3 u4 u5 h => ?_, fun b g h => ?_, fun b g h => ?_⟩
  · obtain ⟨w1, w2, w3, w4, w5, q⟩ := h1.1 b ra rb _ _ _ _ _ h
    exact h2.1 b ra rb _ _ _ _ _ q
  · obtain ⟨g', q⟩ := h1.2.1 b g h
    exact h2.2.1 b g' q
  · obtain ⟨g', q⟩ := h1.2.2 b g h
    exact h2.2.2 b g' q
theorem pastOK_sp {G : GG} {L0 : List Nat} {nw : Nat} {L1 L2 : List Nat} {f1 f2 : HF} {pf : Nat → Option Nat} {n : Nat} (h : pastOK G L0 nw L1 f1 pf n) (k : sp G L1 f1 L2 f2) : pastOK G L0 nw L2 f2 pf n := fun j hj => by
  obtain ⟨o, a, b, g1, g2, v1, v2, v3, v4, v5, h1, h2, h3, h4, h5, h6, h7, h8⟩ := h j hj
  obtain ⟨w1, w2, w3, w4, w5, q6⟩ := k.1 _ _ _ _ _ _ _ _ h6
  obtain ⟨g3, q7⟩ := k.2.1 _ _ h7
  obtain ⟨g4, q8⟩ := k.2.2 _ _ h8
  exact ⟨o, a, b, g3, g4, w1, w2, w3, w4, w5, h1, h2, h3, h4, h5, q6, q7, q8⟩
theorem keepsW {G : GG} {L1 : List Nat} {f1 : HF} {h : Nat} {fs : List Value} (hp : pt L1 f1 h (.inr (10, fs))) : ∀ (b : Nat) (e : va_E), pt L1 f1 b e → isLA G e → b ∉ [h] := by
  intro b e hb h
  rcases h with ⟨x, rfl⟩ | ⟨x, rfl⟩ | ⟨x, rfl⟩
  · exact nmc (hb.neK hp (by decide)) nm0
  · exact nmc (hb.neB hp) nm0
  · exact nmc (hb.neB hp) nm0
theorem ring30 {x y : Int32} {e0 t0 : Nat} (he : x = nI e0) (ht : y = nI t0) (h1 : e0 < 30) (h2 : t0 ≤ 30) : (x + y) - (x + y) / 30 * 30 = nI ((e0 + t0) % 30) := by
  rw [he, ht, nI_add, show (30 : Int32) = nI 30 from rfl, pk_rem (by omega) (by decide) (by decide)]
theorem sp_one {G : GG} {L : List Nat} {f : HF} {o a1 b1 : Nat} {v1 v2 v3 v4 v5 : Int32} (ho : pt L f o (.inr (4, [.ref a1, .ref b1, .int v1, .int v2, .int v3, .int v4, .int v5]))) (L1 : List Nat) (f1 : HF) (w3 w4 w5 : Int32) (k : kp L f L1 f1 [o]) (ho2 : pt L1 f1 o (.inr (4, [.ref a1, .ref b1, .int v1, .int v2, .int w3, .int w4, .int w5]))) : sp G L f L1 f1 := by
  refine ⟨fun b ra rb u1 u2 u3 u4 u5 h => ?_, fun b g h => ?_, fun b g h => ?_⟩
  · by_cases q : b = o
    · subst q
      have e := h.2.symm.trans ho.2
      cases e
      exact ⟨_, _, _, _, _, ho2⟩
    · exact ⟨_, _, _, _, _, k.1 _ _ (nmc q nm0) h⟩
  · exact ⟨_, k.1 _ _ (nmc (h.neB ho) nm0) h⟩
  · exact ⟨_, k.1 _ _ (nmc (h.neB ho) nm0) h⟩
def RemP (G : GG) (L0 : List Nat) (w ta ag sc nw pa fe cl wo si we oa aa : Nat) (pf : Nat → Option Nat) (oc ac dt rn xx : Int32) (L : List Nat) (f : HF) (L1 : List Nat) (f1 : HF) : Prop := ∃ (el st : Int32) (e0 t0 : Nat) (g5 g6 : Nat → Int32), pt L1 f1 w (.inr (10, [.ref ta, .ref ag, .ref sc, .ref nw, .ref pa, .ref fe, .ref cl, .ref wo, .ref si, .ref we, .int 0, .int 0, .int (-1), .int el, .int st])) ∧ pt L1 f1 pa (.inl (G.2 3, 30, .inr (.inr (.inr (.inr pf))))) ∧ pt L1 f1 nw (.inr (4, [.ref oa, .ref aa, .int oc, .int ac, .int dt, .int rn, .int xx])) ∧ pt L1 f1 oa (.inl (G.2 0, 98, .inl g5)) ∧ pt L1 f1 aa (.inl (G.2 0, 90, .inl g6)) ∧ pastOK G L0 nw L1 f1 pf 30 ∧ el = nI e0 ∧ e0 < 30 ∧ st = nI t0 ∧ t0 ≤ 30 ∧ ∀ (b : Nat) (e : va_E), b ≠ w → ¬ isLA G e → pt L f b e → pt L1 f1 b e
set_option maxHeartbeats 4000000 in
set_option maxRecDepth 100000 in
theorem c_X10_remember {l : Launch} {G : GG} {L : List Nat} {f : HF} {h ta ag sc nw pa fe cl wo si we oa aa : Nat} {el st oc ac dt rn xx : Int32} {pf : Nat → Option Nat} {g3 g4 : Nat → Int32} {L0 : List Nat} {e0 t0 : Nat} (p_h : pt L f h (.inr (10, [.ref ta, .ref ag, .ref sc, .ref nw, .ref pa, .ref fe, .ref cl, .ref wo, .ref si, .ref we, .int 0, .int 0, .int (-1), .int el, .int st]))) (p_pa : pt L f pa (.inl (G.2 3, 30, .inr (.inr (.inr (.inr pf)))))) (p_nw : pt L f nw (.inr (4, [.ref oa, .ref aa, .int oc, .int ac, .int dt, .int rn, .int xx]))) (p_oa : pt L f oa (.inl (G.2 0, 98, .inl g3))) (p_aa : pt L f aa (.inl (G.2 0, 90, .inl g4))) (hpf : pastOK G L0 nw L f pf 30) (he : el = nI e0) (he2 : e0 < 30) (ht : st = nI t0) (ht2 : t0 ≤ 30) : PMv l yX10_remember cX10_remember 1 2 0 0 G [.ref h] L f (fun L1 f1 => RemP G L0 h ta ag sc nw pa fe cl wo si we oa aa pf oc ac dt rn xx L f L1 f1) := by
  refine PMv.of (post := fun L1 f1 => RemP G L0 h ta ag sc nw pa fe cl wo si we oa aa pf oc ac dt rn xx L f L1 f1) (own := RX10) (by decide) rfl (Nat.le_of_ble_eq_true rfl) (fun sz p e s m args below meth c A ls hA1 hname S Y hl => ?_)
  have hx := S.hx
  have hb := S.hb
  have hl : lv_has ls 1 [(0, .ref h)] := hl
  refine lv_aload_n hx hb dX10_remember_0 rfl (lv_at hl 0 rfl) ?_
  refine pg_get S Y ok_X10 4 (by decide) kf10_31 (v := .ref pa) p_h rfl dX10_remember_1 ?_
  refine lv_aload_n hx hb dX10_remember_4 rfl (lv_at hl 0 rfl) ?_
  refine pg_get S Y ok_X10 13 (by decide) kf10_83 (v := .int el) p_h rfl dX10_remember_5 ?_
  refine lv_aload_n hx hb dX10_remember_8 rfl (lv_at hl 0 rfl) ?_
  refine pg_get S Y ok_X10 14 (by decide) kf10_86 (v := .int st) p_h rfl dX10_remember_9 ?_
  refine lv_iadd hx hb dX10_remember_12 ?_
  refine lv_topi (fun x_1338 ex_1338 => ?_)
  refine lv_bipush (v := 30) hx hb dX10_remember_13 (by decide) ?_
  refine lv_irem hx hb dX10_remember_15 (by decide) ?_
  refine lv_topi (fun x_1339 ex_1339 => ?_)
  obtain ⟨po, pa1, pb1, q1, q2, u1, u2, u3, u4, u5, hpo, -, -, -, hne, p_po, p_pa1, p_pb1⟩ := hpf ((e0 + t0) % 30) (Nat.mod_lt _ (by decide))
  have hix : x_1339 = nI ((e0 + t0) % 30) := by rw [ex_1339, ex_1338]; exact ring30 he ht he2 ht2
  have o_po := p_po
  have o_pa1 := p_pa1
  have o_pb1 := p_pb1
  have o_oa := p_oa
  have o_aa := p_aa
  have o_h := p_h
  refine pg_aald S Y (k := 3) (o := po) p_pa rfl (by rw [ex_1339, ex_1338]; rw [ring30 he ht he2 ht2]; exact vp_in_nI (Nat.mod_lt _ (by decide)) (by decide)) (by rw [hix, nI_clamp (by omega)]; exact hpo) dX10_remember_16 ?_
  refine lv_aload_n hx hb dX10_remember_17 rfl (lv_at hl 0 rfl) ?_
  refine pg_get S Y ok_X10 3 (by decide) kf10_27 (v := .ref nw) p_h rfl dX10_remember_18 ?_
  refine cVv (As := [.ref nw]) (rest := []) S Y (c_X4_takeOver (l := l) p_po p_pa1 p_pb1 p_nw p_oa p_aa (hne)) cw_X4_takeOver km10_74 p_po ok_X4.1 rfl rfl ⟨Nat.le_of_ble_eq_true rfl, Nat.le_of_ble_eq_true rfl⟩ hl.1 rfl (Nat.le_of_ble_eq_true rfl) ⟨Nat.le_of_ble_eq_true rfl, Nat.le_of_ble_eq_true rfl⟩ dX10_remember_21 (fun L_1340 f_1341 H locs hf_1341 Y => ?_)
  obtain ⟨g__1342, g__1343, kf_1341, z_z_1344, z_z_1345, z_z_1346⟩ := hf_1341
  have p_h := kf_1341.1 h _ (nmc (p_h.neK p_po (by decide)) (nmc (p_h.neA p_pa1) (nmc (p_h.neA p_pb1) nm0))) p_h
  have p_pa := kf_1341.1 pa _ (nmc (p_pa.neB p_po) (nmc (p_pa.neN p_pa1 (by decide)) (nmc (p_pa.neN p_pb1 (by decide)) nm0))) p_pa
  have p_nw := kf_1341.1 nw _ (nmc (Ne.symm (hne)) (nmc (p_nw.neA p_pa1) (nmc (p_nw.neA p_pb1) nm0))) p_nw
  have p_po := z_z_1344
  have p_pa1 := z_z_1345
  have p_pb1 := z_z_1346
  have hsp := sp_take (G := G) kf_1341 o_po o_pa1 o_pb1 p_po p_pa1 p_pb1
  have hpf1 := pastOK_sp hpf hsp
  obtain ⟨g5, w_oa⟩ := hsp.2.1 _ _ o_oa
  obtain ⟨g6, w_aa⟩ := hsp.2.2 _ _ o_aa
  have hkT : kp L_1340 f_1341 L_1340 f_1341 [h] := kp.rf
  have t_h := p_h
  refine lv_aload_n hx hb dX10_remember_24 rfl (lv_at hl 0 rfl) ?_
  refine pg_get S Y ok_X10 14 (by decide) kf10_86 (v := .int st) p_h rfl dX10_remember_25 ?_
  refine lv_bipush (v := 30) hx hb dX10_remember_28 (by decide) ?_
  refine lv_icmp_ge (tgt := 46) hx hb dX10_remember_30 (by decide) (fun c_1347 => ?_) (fun c_1347 => ?_)
  · refine lv_aload_n hx hb dX10_remember_46 rfl (lv_at hl 0 rfl) ?_
    refine lv_aload_n hx hb dX10_remember_47 rfl (lv_at hl 0 rfl) ?_
    refine pg_get S Y ok_X10 13 (by decide) kf10_83 (v := .int el) p_h rfl dX10_remember_48 ?_
    refine lv_iconst (v := 1) hx hb dX10_remember_51 (by decide) ?_
    refine lv_iadd hx hb dX10_remember_52 ?_
    refine lv_topi (fun x_1348 ex_1348 => ?_)
    refine lv_bipush (v := 30) hx hb dX10_remember_53 (by decide) ?_
    refine lv_irem hx hb dX10_remember_55 (by decide) ?_
    refine lv_topi (fun x_1349 ex_1349 => ?_)
    refine pg_put S Y ok_X10 13 (by decide) kf10_83 rfl (fs' := [.ref ta, .ref ag, .ref sc, .ref nw, .ref pa, .ref fe, .ref cl, .ref wo, .ref si, .ref we, .int 0, .int 0, .int (-1), .int x_1349, .int st]) (v := .int x_1349) p_h rfl rfl rfl (Nat.le_of_ble_eq_true rfl) dX10_remember_56 (fun f_1350 H locs ef_1350 Y => ?_)
    have p_pa := p_pa.up ef_1350 ((p_pa.neB p_h))
    have p_nw := p_nw.up ef_1350 ((p_nw.neK p_h (by decide)))
    have p_po := p_po.up ef_1350 ((p_po.neK p_h (by decide)))
    have p_pa1 := p_pa1.up ef_1350 ((p_pa1.neB p_h))
    have p_pb1 := p_pb1.up ef_1350 ((p_pb1.neB p_h))
    have p_h := p_h.me ef_1350
    have hkT := hkT.up ef_1350 (by simp)
    exact prV (post := fun L1 f1 => RemP G L0 h ta ag sc nw pa fe cl wo si we oa aa pf oc ac dt rn xx L f L1 f1) S Y (by decide) (by decide) hA1 ⟨x_1349, st, ((e0 + 1) % 30), t0, g5, g6, p_h, p_pa, p_nw, hkT.1 _ _ (nmc (w_oa.neB t_h) nm0) w_oa, hkT.1 _ _ (nmc (w_aa.neB t_h) nm0) w_aa, pastOK_sp hpf1 (sp_kp hkT (keepsW t_h)), (by rw [ex_1349, ex_1348, he]; exact (by rw [nI_1, show (30 : Int32) = nI 30 from rfl, pk_rem (by omega) (by decide) (by decide)])), (Nat.mod_lt _ (by decide)), ht, ht2, (fun b e hb hn hp => hkT.1 b e (nmc hb nm0) (kf_1341.1 b e (nmc (neLA hn hp o_po (Or.inl ⟨_, rfl⟩)) (nmc (neLA hn hp o_pa1 (Or.inr (Or.inl ⟨_, rfl⟩))) (nmc (neLA hn hp o_pb1 (Or.inr (Or.inr ⟨_, rfl⟩))) nm0))) hp))⟩ dX10_remember_59
  · refine lv_aload_n hx hb dX10_remember_33 rfl (lv_at hl 0 rfl) ?_
    refine lv_dup hx hb dX10_remember_34 rfl ?_
    refine pg_get S Y ok_X10 14 (by decide) kf10_86 (v := .int st) p_h rfl dX10_remember_35 ?_
    refine lv_iconst (v := 1) hx hb dX10_remember_38 (by decide) ?_
    refine lv_iadd hx hb dX10_remember_39 ?_
    refine lv_topi (fun x_1351 ex_1351 => ?_)
    refine pg_put S Y ok_X10 14 (by decide) kf10_86 rfl (fs' := [.ref ta, .ref ag, .ref sc, .ref nw, .ref pa, .ref fe, .ref cl, .ref wo, .ref si, .ref we, .int 0, .int 0, .int (-1), .int el, .int x_1351]) (v := .int x_1351) p_h rfl rfl rfl (Nat.le_of_ble_eq_true rfl) dX10_remember_40 (fun f_1352 H locs ef_1352 Y => ?_)
    have p_pa := p_pa.up ef_1352 ((p_pa.neB p_h))
    have p_nw := p_nw.up ef_1352 ((p_nw.neK p_h (by decide)))
    have p_po := p_po.up ef_1352 ((p_po.neK p_h (by decide)))
    have p_pa1 := p_pa1.up ef_1352 ((p_pa1.neB p_h))
    have p_pb1 := p_pb1.up ef_1352 ((p_pb1.neB p_h))
    have p_h := p_h.me ef_1352
    have hkT := hkT.up ef_1352 (by simp)
    refine lv_goto (tgt := 59) hx hb dX10_remember_43 (by decide) ?_
    exact prV (post := fun L1 f1 => RemP G L0 h ta ag sc nw pa fe cl wo si we oa aa pf oc ac dt rn xx L f L1 f1) S Y (by decide) (by decide) hA1 ⟨el, x_1351, e0, (t0 + 1), g5, g6, p_h, p_pa, p_nw, hkT.1 _ _ (nmc (w_oa.neB t_h) nm0) w_oa, hkT.1 _ _ (nmc (w_aa.neB t_h) nm0) w_aa, pastOK_sp hpf1 (sp_kp hkT (keepsW t_h)), he, he2, (by rw [ex_1351, ht]; exact nI_1 t0), (by have h9 : t0 ≠ 30 := fun q => absurd (by rw [ht, q]; decide) c_1347; omega), (fun b e hb hn hp => hkT.1 b e (nmc hb nm0) (kf_1341.1 b e (nmc (neLA hn hp o_po (Or.inl ⟨_, rfl⟩)) (nmc (neLA hn hp o_pa1 (Or.inr (Or.inl ⟨_, rfl⟩))) (nmc (neLA hn hp o_pb1 (Or.inr (Or.inr ⟨_, rfl⟩))) nm0))) hp))⟩ dX10_remember_59
set_option maxHeartbeats 4000000 in
set_option maxRecDepth 100000 in
theorem c_X1_remember {l : Launch} {G : GG} {L : List Nat} {f : HF} {h w jd rg mo ta ag sc nw pa fe cl wo si we oa aa : Nat} {el st oc ac dt rn xx : Int32} {pf : Nat → Option Nat} {g3 g4 : Nat → Int32} {L0 : List Nat} {e0 t0 : Nat} (p_h : pt L f h (.inr (1, [.ref w, .ref jd, .ref rg, .ref mo, .int 0]))) (p_w : pt L f w (.inr (10, [.ref ta, .ref ag, .ref sc, .ref nw, .ref pa, .ref fe, .ref cl, .ref wo, .ref si, .ref we, .int 0, .int 0, .int (-1), .int el, .int st]))) (p_pa : pt L f pa (.inl (G.2 3, 30, .inr (.inr (.inr (.inr pf)))))) (p_nw : pt L f nw (.inr (4, [.ref oa, .ref aa, .int oc, .int ac, .int dt, .int rn, .int xx]))) (p_oa : pt L f oa (.inl (G.2 0, 98, .inl g3))) (p_aa : pt L f aa (.inl (G.2 0, 90, .inl g4))) (hpf : pastOK G L0 nw L f pf 30) (he : el = nI e0) (he2 : e0 < 30) (ht : st = nI t0) (ht2 : t0 ≤ 30) : PMv l yX1_remember cX1_remember 1 3 0 0 G [.ref h] L f (fun L1 f1 => RemP G L0 w ta ag sc nw pa fe cl wo si we oa aa pf oc ac dt rn xx L f L1 f1) := by
  refine PMv.of (post := fun L1 f1 => RemP G L0 w ta ag sc nw pa fe cl wo si we oa aa pf oc ac dt rn xx L f L1 f1) (own := RX1) (by decide) rfl (Nat.le_of_ble_eq_true rfl) (fun sz p e s m args below meth c A ls hA1 hname S Y hl => ?_)
  have hx := S.hx
  have hb := S.hb
  have hl : lv_has ls 1 [(0, .ref h)] := hl
  refine lv_aload_n hx hb dX1_remember_0 rfl (lv_at hl 0 rfl) ?_
  refine pg_get S Y ok_X1 4 (by decide) kf1_27 (v := .int 0) p_h rfl dX1_remember_1 ?_
  refine lv_if_ne (tgt := 14) hx hb dX1_remember_4 (by decide) (fun h => absurd (by decide) h) (fun _ => ?_)
  refine lv_aload_n hx hb dX1_remember_7 rfl (lv_at hl 0 rfl) ?_
  refine pg_get S Y ok_X1 0 (by decide) kf1_15 (v := .ref w) p_h rfl dX1_remember_8 ?_
  refine cVv (As := []) (rest := []) S Y (c_X10_remember (l := l) p_w p_pa p_nw p_oa p_aa hpf he he2 ht ht2) cw_X10_remember km1_31 p_w ok_X10.1 rfl rfl ⟨Nat.le_of_ble_eq_true rfl, Nat.le_of_ble_eq_true rfl⟩ hl.1 rfl (Nat.le_of_ble_eq_true rfl) ⟨Nat.le_of_ble_eq_true rfl, Nat.le_of_ble_eq_true rfl⟩ dX1_remember_11 (fun L_1353 f_1354 H locs hf_1354 Y => ?_)
  exact prV (post := fun L1 f1 => RemP G L0 w ta ag sc nw pa fe cl wo si we oa aa pf oc ac dt rn xx L f L1 f1) S Y (by decide) (by decide) hA1 hf_1354 dX1_remember_14
set_option maxHeartbeats 4000000 in
set_option maxRecDepth 100000 in
theorem c_X1_passDay {l : Launch} {G : GG} {L : List Nat} {f : HF} {h w jd rg mo ta ag sc nw pa fe cl wo si we oa aa : Nat} {el st oc ac dt rn xx : Int32} {pf : Nat → Option Nat} {g3 g4 : Nat → Int32} {L0 : List Nat} {e0 t0 i : Nat} (p_h : pt L f h (.inr (1, [.ref w, .ref jd, .ref rg, .ref mo, .int 0]))) (p_w : pt L f w (.inr (10, [.ref ta, .ref ag, .ref sc, .ref nw, .ref pa, .ref fe, .ref cl, .ref wo, .ref si, .ref we, .int 0, .int 0, .int (-1), .int el, .int st]))) (p_pa : pt L f pa (.inl (G.2 3, 30, .inr (.inr (.inr (.inr pf)))))) (p_nw : pt L f nw (.inr (4, [.ref oa, .ref aa, .int oc, .int ac, .int dt, .int rn, .int xx]))) (p_oa : pt L f oa (.inl (G.2 0, 98, .inl g3))) (p_aa : pt L f aa (.inl (G.2 0, 90, .inl g4))) (hpf : pastOK G L0 nw L f pf 30) (he : el = nI e0) (he2 : e0 < 30) (ht : st = nI t0) (ht2 : t0 ≤ 30) (hd : dt = nI i) (hi : i < 9999) (hxx : xx = nI (XN i)) : PMi l yX1_passDay cX1_passDay 4 .boolean 4 0 0 G [.ref h] L f (fun r L1 f1 => r = 1 ∧ ∃ d1 r1 x1 : Int32, d1 = dt + 1 ∧ r1 = nI (RN_ (i + 1)) ∧ x1 = nI (XN (i + 1)) ∧ RemP G L0 w ta ag sc nw pa fe cl wo si we oa aa pf oc ac d1 r1 x1 L f L1 f1) := by
  refine PMi.of (post := fun r L1 f1 => r = 1 ∧ ∃ d1 r1 x1 : Int32, d1 = dt + 1 ∧ r1 = nI (RN_ (i + 1)) ∧ x1 = nI (XN (i + 1)) ∧ RemP G L0 w ta ag sc nw pa fe cl wo si we oa aa pf oc ac d1 r1 x1 L f L1 f1) (own := RX1) (by decide) rfl (Nat.le_of_ble_eq_true rfl) (fun sz p e s m args below meth c A ls hA1 hname S Y hl => ?_)
  have hx := S.hx
  have hb := S.hb
  have hl : lv_has ls 4 [(0, .ref h)] := hl
  refine lv_aload_n hx hb dX1_passDay_0 rfl (lv_at hl 0 rfl) ?_
  refine pg_get S Y ok_X1 0 (by decide) kf1_15 (v := .ref w) p_h rfl dX1_passDay_1 ?_
  refine pg_getN S Y ok_X10 3 (by decide) kf1_40 (v := .ref nw) p_w rfl dX1_passDay_4 ?_
  refine lv_astore_n (lv' := [(1, .ref nw), (0, .ref h)]) hx hb dX1_passDay_7 rfl hl (by decide) rfl (fun ls hl => ?_)
  refine lv_aload_n hx hb dX1_passDay_8 rfl (lv_at hl 0 rfl) ?_
  refine cVp (As := []) (rest := []) S Y (c_lastsOn (l := l) p_nw hd hi) cw_X4_lastsOn km1_97 p_nw ok_X4.1 rfl rfl ⟨Nat.le_of_ble_eq_true rfl, Nat.le_of_ble_eq_true rfl⟩ hl.1 rfl (Nat.le_of_ble_eq_true rfl) ⟨Nat.le_of_ble_eq_true rfl, Nat.le_of_ble_eq_true rfl⟩ dX1_passDay_9 (fun r_1355 H locs er_1355 Y => ?_)
  refine lv_fold (z := 1) er_1355 ?_
  refine lv_if_ne (tgt := 17) hx hb dX1_passDay_12 (by decide) (fun _ => ?_) (fun h => absurd h (by decide))
  refine lv_aload_n hx hb dX1_passDay_17 rfl (lv_at hl 1 rfl) ?_
  refine cVv (As := []) (rest := []) S Y (c_X1_remember (l := l) p_h p_w p_pa p_nw p_oa p_aa hpf he he2 ht ht2) cw_X1_remember km1_54 p_h ok_X1.1 rfl rfl ⟨Nat.le_of_ble_eq_true rfl, Nat.le_of_ble_eq_true rfl⟩ hl.1 rfl (Nat.le_of_ble_eq_true rfl) ⟨Nat.le_of_ble_eq_true rfl, Nat.le_of_ble_eq_true rfl⟩ dX1_passDay_18 (fun L_1356 f_1357 H locs hf_1357 Y => ?_)
  obtain ⟨el_1358, sp_1359, e0_1360, t0_1361, g5_1362, g6_1363, z_1365, z_1366, z_1367, z_1368, z_1369, hpf, he, he2, ht, ht2, fr_1364⟩ := hf_1357
  have p_h := fr_1364 h _ (p_h.neK p_w (by decide)) (by rintro (⟨x, q⟩ | ⟨x, q⟩ | ⟨x, q⟩) <;> cases q) p_h
  have p_w := z_1365
  have p_pa := z_1366
  have p_nw := z_1367
  have p_oa := z_1368
  have p_aa := z_1369
  refine lv_iconst (v := 0) hx hb dX1_passDay_21 (by decide) ?_
  refine lv_istore_n (lv' := [(2, .int 0), (1, .ref nw), (0, .ref h)]) hx hb dX1_passDay_22 rfl hl (by decide) rfl (fun ls hl => ?_)
  refine lv_iload_n hx hb dX1_passDay_23 rfl (lv_at hl 0 rfl) ?_
  refine lv_aload_n hx hb dX1_passDay_24 rfl (lv_at hl 2 rfl) ?_
  refine pg_get S Y ok_X1 0 (by decide) kf1_15 (v := .ref w) p_h rfl dX1_passDay_25 ?_
  refine pg_getN S Y ok_X10 10 (by decide) kf1_101 (v := .int 0) p_w rfl dX1_passDay_28 ?_
  refine lv_icmp_ge (tgt := 60) hx hb dX1_passDay_31 (by decide) (fun _ => ?_) (fun h => absurd (by decide) h)
  have hkT : kp L_1356 f_1357 L_1356 f_1357 [nw] := kp.rf
  have t_nw := p_nw
  have t_oa := p_oa
  have t_aa := p_aa
  have spT : ∀ (L9 : List Nat) (f9 : HF) (d1 r1 x1 : Int32), kp L_1356 f_1357 L9 f9 [nw] → pt L9 f9 nw (.inr (4, [.ref oa, .ref aa, .int oc, .int ac, .int d1, .int r1, .int x1])) → sp G L_1356 f_1357 L9 f9 := sp_one t_nw
  refine lv_aload_n hx hb dX1_passDay_60 rfl (lv_at hl 1 rfl) ?_
  refine cVv (As := []) (rest := []) S Y (c_X4_turnDay (l := l) p_nw hxx) cw_X4_turnDay km1_111 p_nw ok_X4.1 rfl rfl ⟨Nat.le_of_ble_eq_true rfl, Nat.le_of_ble_eq_true rfl⟩ hl.1 rfl (Nat.le_of_ble_eq_true rfl) ⟨Nat.le_of_ble_eq_true rfl, Nat.le_of_ble_eq_true rfl⟩ dX1_passDay_61 (fun L_1370 f_1371 H locs hf_1371 Y => ?_)
  obtain ⟨d__1372, r__1373, x__1374, kf_1371, z_z_1375, hd1_1376, hr1_1377, hx1_1378⟩ := hf_1371
  have p_h := kf_1371.1 h _ (nmc (p_h.neK p_nw (by decide)) nm0) p_h
  have p_w := kf_1371.1 w _ (nmc (p_w.neK p_nw (by decide)) nm0) p_w
  have p_pa := kf_1371.1 pa _ (nmc (p_pa.neB p_nw) nm0) p_pa
  have p_oa := kf_1371.1 oa _ (nmc (p_oa.neB p_nw) nm0) p_oa
  have p_aa := kf_1371.1 aa _ (nmc (p_aa.neB p_nw) nm0) p_aa
  have p_nw := z_z_1375
  have hkT := hkT.call kf_1371 (fun b hb hp => (nmc (fun q => hb (by simp [q])) nm0))
  refine lv_iconst (v := 1) hx hb dX1_passDay_64 (by decide) ?_
  exact prI (post := fun r L1 f1 => r = 1 ∧ ∃ d1 r1 x1 : Int32, d1 = dt + 1 ∧ r1 = nI (RN_ (i + 1)) ∧ x1 = nI (XN (i + 1)) ∧ RemP G L0 w ta ag sc nw pa fe cl wo si we oa aa pf oc ac d1 r1 x1 L f L1 f1) S Y rfl (by decide) (by decide) hA1 ⟨rfl, d__1372, r__1373, x__1374, hd1_1376, hr1_1377, hx1_1378, el_1358, sp_1359, e0_1360, t0_1361, g5_1362, g6_1363, p_w, p_pa, p_nw, p_oa, p_aa, pastOK_sp hpf (spT _ _ _ _ _ hkT p_nw), he, he2, ht, ht2, fun b e hb hn hp => hkT.1 b e (nmc (neLA hn (fr_1364 b e hb hn hp) t_nw (Or.inl ⟨_, rfl⟩)) nm0) (fr_1364 b e hb hn hp)⟩ dX1_passDay_65
