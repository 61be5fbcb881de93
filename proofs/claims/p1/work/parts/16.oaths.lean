theorem dX11_init_0 : decode cX11_init 0 = .ok (.aload_n 0, 1) := by decide +kernel
theorem dX11_init_1 : decode cX11_init 1 = .ok (.invokespecial 1, 3) := by decide +kernel
theorem km11_1 : inW (Cond.methodLink RX11 1 objectInit) := ⟨List.mem_of_getElem? (i := 150) (by decide +kernel), by decide +kernel⟩
theorem dX11_init_4 : decode cX11_init 4 = .ok (.new 7, 3) := by decide +kernel
theorem kc11_7 : inW (Cond.classLink RX11 7 RX4) := ⟨List.mem_of_getElem? (i := 153) (by decide +kernel), by decide +kernel⟩
theorem dX11_init_7 : decode cX11_init 7 = .ok (.dup, 1) := by decide +kernel
theorem dX11_init_8 : decode cX11_init 8 = .ok (.invokespecial 9, 3) := by decide +kernel
theorem km11_9 : inW (Cond.methodLinkNest RX11 9 yX4_init "KneeOaths") := ⟨List.mem_of_getElem? (i := 155) (by decide +kernel), by decide +kernel⟩
theorem dX11_init_11 : decode cX11_init 11 = .ok (.astore_n 1, 1) := by decide +kernel
theorem dX11_init_12 : decode cX11_init 12 = .ok (.aload_n 0, 1) := by decide +kernel
theorem dX11_init_13 : decode cX11_init 13 = .ok (.new 10, 3) := by decide +kernel
theorem kc11_10 : inW (Cond.classLink RX11 10 RX10) := ⟨List.mem_of_getElem? (i := 198) (by decide +kernel), by decide +kernel⟩
theorem kn10 : inW (Cond.instantiable RX10 15) := ⟨List.mem_of_getElem? (i := 199) (by decide +kernel), by decide +kernel⟩
theorem ki10 : inW (Cond.initialized RX10) := ⟨List.mem_of_getElem? (i := 126) (by decide +kernel), by decide +kernel⟩
theorem dX11_init_16 : decode cX11_init 16 = .ok (.dup, 1) := by decide +kernel
theorem dX11_init_17 : decode cX11_init 17 = .ok (.invokespecial 12, 3) := by decide +kernel
theorem cw_X10_init : CWi yX10_init cX10_init 2 0 := ⟨⟨⟨List.mem_of_getElem? (i := 126) (by decide +kernel), by decide +kernel⟩, ⟨List.mem_of_getElem? (i := 202) (by decide +kernel), by decide +kernel⟩, by decide +kernel⟩, ⟨List.mem_of_getElem? (i := 201) (by decide +kernel), by decide +kernel⟩, rfl⟩
theorem km11_12 : inW (Cond.methodLink RX11 12 yX10_init) := ⟨List.mem_of_getElem? (i := 200) (by decide +kernel), by decide +kernel⟩
theorem dX11_init_20 : decode cX11_init 20 = .ok (.putfield 13, 3) := by decide +kernel
theorem dX11_init_23 : decode cX11_init 23 = .ok (.aload_n 0, 1) := by decide +kernel
theorem dX11_init_24 : decode cX11_init 24 = .ok (.new 10, 3) := by decide +kernel
theorem dX11_init_27 : decode cX11_init 27 = .ok (.dup, 1) := by decide +kernel
theorem dX11_init_28 : decode cX11_init 28 = .ok (.invokespecial 12, 3) := by decide +kernel
theorem dX11_init_31 : decode cX11_init 31 = .ok (.putfield 19, 3) := by decide +kernel
theorem kf11_19 : inW (Cond.fieldLink RX11 19 "KneeOaths" "kept" "LKneeOaths$World;") := ⟨List.mem_of_getElem? (i := 506) (by decide +kernel), by decide +kernel⟩
theorem dX11_init_34 : decode cX11_init 34 = .ok (.aload_n 0, 1) := by decide +kernel
theorem dX11_init_35 : decode cX11_init 35 = .ok (.new 22, 3) := by decide +kernel
theorem kc11_22 : inW (Cond.classLink RX11 22 RX5) := ⟨List.mem_of_getElem? (i := 333) (by decide +kernel), by decide +kernel⟩
theorem kn5 : inW (Cond.instantiable RX5 14) := ⟨List.mem_of_getElem? (i := 334) (by decide +kernel), by decide +kernel⟩
theorem ki5 : inW (Cond.initialized RX5) := ⟨List.mem_of_getElem? (i := 130) (by decide +kernel), by decide +kernel⟩
theorem dX11_init_38 : decode cX11_init 38 = .ok (.dup, 1) := by decide +kernel
theorem dX11_init_39 : decode cX11_init 39 = .ok (.invokespecial 24, 3) := by decide +kernel
theorem cw_X5_init : CWi yX5_init cX5_init 1 0 := ⟨⟨⟨List.mem_of_getElem? (i := 130) (by decide +kernel), by decide +kernel⟩, ⟨List.mem_of_getElem? (i := 337) (by decide +kernel), by decide +kernel⟩, by decide +kernel⟩, ⟨List.mem_of_getElem? (i := 336) (by decide +kernel), by decide +kernel⟩, rfl⟩
theorem km11_24 : inW (Cond.methodLinkNest RX11 24 yX5_init "KneeOaths") := ⟨List.mem_of_getElem? (i := 335) (by decide +kernel), by decide +kernel⟩
theorem dX11_init_42 : decode cX11_init 42 = .ok (.putfield 25, 3) := by decide +kernel
theorem dX11_init_45 : decode cX11_init 45 = .ok (.aload_n 0, 1) := by decide +kernel
theorem dX11_init_46 : decode cX11_init 46 = .ok (.new 29, 3) := by decide +kernel
theorem kc11_29 : inW (Cond.classLink RX11 29 RX3) := ⟨List.mem_of_getElem? (i := 382) (by decide +kernel), by decide +kernel⟩
theorem kn3 : inW (Cond.instantiable RX3 3) := ⟨List.mem_of_getElem? (i := 383) (by decide +kernel), by decide +kernel⟩
theorem ki3 : inW (Cond.initialized RX3) := ⟨List.mem_of_getElem? (i := 131) (by decide +kernel), by decide +kernel⟩
theorem dX11_init_49 : decode cX11_init 49 = .ok (.dup, 1) := by decide +kernel
theorem dX11_init_50 : decode cX11_init 50 = .ok (.aload_n 0, 1) := by decide +kernel
theorem dX11_init_51 : decode cX11_init 51 = .ok (.getfield 13, 3) := by decide +kernel
theorem dX11_init_54 : decode cX11_init 54 = .ok (.invokespecial 31, 3) := by decide +kernel
theorem cw_X3_init : CWi yX3_init cX3_init 2 1 := ⟨⟨⟨List.mem_of_getElem? (i := 131) (by decide +kernel), by decide +kernel⟩, ⟨List.mem_of_getElem? (i := 386) (by decide +kernel), by decide +kernel⟩, by decide +kernel⟩, ⟨List.mem_of_getElem? (i := 385) (by decide +kernel), by decide +kernel⟩, rfl⟩
theorem km11_31 : inW (Cond.methodLink RX11 31 yX3_init) := ⟨List.mem_of_getElem? (i := 384) (by decide +kernel), by decide +kernel⟩
theorem dX11_init_57 : decode cX11_init 57 = .ok (.putfield 34, 3) := by decide +kernel
theorem kf11_34 : inW (Cond.fieldLink RX11 34 "KneeOaths" "judge" "LKneeOaths$Judge;") := ⟨List.mem_of_getElem? (i := 508) (by decide +kernel), by decide +kernel⟩
theorem dX11_init_60 : decode cX11_init 60 = .ok (.aload_n 0, 1) := by decide +kernel
theorem dX11_init_61 : decode cX11_init 61 = .ok (.new 38, 3) := by decide +kernel
theorem kc11_38 : inW (Cond.classLink RX11 38 RX6) := ⟨List.mem_of_getElem? (i := 398) (by decide +kernel), by decide +kernel⟩
theorem kn6 : inW (Cond.instantiable RX6 2) := ⟨List.mem_of_getElem? (i := 399) (by decide +kernel), by decide +kernel⟩
theorem ki6 : inW (Cond.initialized RX6) := ⟨List.mem_of_getElem? (i := 132) (by decide +kernel), by decide +kernel⟩
theorem dX11_init_64 : decode cX11_init 64 = .ok (.dup, 1) := by decide +kernel
theorem dX11_init_65 : decode cX11_init 65 = .ok (.aload_n 0, 1) := by decide +kernel
theorem dX11_init_66 : decode cX11_init 66 = .ok (.getfield 13, 3) := by decide +kernel
theorem dX11_init_69 : decode cX11_init 69 = .ok (.invokespecial 40, 3) := by decide +kernel
theorem cw_X6_init : CWi yX6_init cX6_init 2 1 := ⟨⟨⟨List.mem_of_getElem? (i := 132) (by decide +kernel), by decide +kernel⟩, ⟨List.mem_of_getElem? (i := 402) (by decide +kernel), by decide +kernel⟩, by decide +kernel⟩, ⟨List.mem_of_getElem? (i := 401) (by decide +kernel), by decide +kernel⟩, rfl⟩
theorem km11_40 : inW (Cond.methodLink RX11 40 yX6_init) := ⟨List.mem_of_getElem? (i := 400) (by decide +kernel), by decide +kernel⟩
theorem dX11_init_72 : decode cX11_init 72 = .ok (.putfield 41, 3) := by decide +kernel
theorem dX11_init_75 : decode cX11_init 75 = .ok (.aload_n 0, 1) := by decide +kernel
theorem dX11_init_76 : decode cX11_init 76 = .ok (.new 45, 3) := by decide +kernel
theorem kc11_45 : inW (Cond.classLink RX11 45 RX1) := ⟨List.mem_of_getElem? (i := 411) (by decide +kernel), by decide +kernel⟩
theorem kn1 : inW (Cond.instantiable RX1 5) := ⟨List.mem_of_getElem? (i := 412) (by decide +kernel), by decide +kernel⟩
theorem ki1 : inW (Cond.initialized RX1) := ⟨List.mem_of_getElem? (i := 133) (by decide +kernel), by decide +kernel⟩
theorem dX11_init_79 : decode cX11_init 79 = .ok (.dup, 1) := by decide +kernel
theorem dX11_init_80 : decode cX11_init 80 = .ok (.aload_n 0, 1) := by decide +kernel
theorem dX11_init_81 : decode cX11_init 81 = .ok (.getfield 13, 3) := by decide +kernel
theorem dX11_init_84 : decode cX11_init 84 = .ok (.aload_n 0, 1) := by decide +kernel
theorem dX11_init_85 : decode cX11_init 85 = .ok (.getfield 34, 3) := by decide +kernel
theorem dX11_init_88 : decode cX11_init 88 = .ok (.aload_n 0, 1) := by decide +kernel
theorem dX11_init_89 : decode cX11_init 89 = .ok (.getfield 41, 3) := by decide +kernel
theorem dX11_init_92 : decode cX11_init 92 = .ok (.invokespecial 47, 3) := by decide +kernel
theorem cw_X1_init : CWi yX1_init cX1_init 4 3 := ⟨⟨⟨List.mem_of_getElem? (i := 133) (by decide +kernel), by decide +kernel⟩, ⟨List.mem_of_getElem? (i := 415) (by decide +kernel), by decide +kernel⟩, by decide +kernel⟩, ⟨List.mem_of_getElem? (i := 414) (by decide +kernel), by decide +kernel⟩, rfl⟩
theorem km11_47 : inW (Cond.methodLink RX11 47 yX1_init) := ⟨List.mem_of_getElem? (i := 413) (by decide +kernel), by decide +kernel⟩
theorem dX11_init_95 : decode cX11_init 95 = .ok (.putfield 50, 3) := by decide +kernel
theorem dX11_init_98 : decode cX11_init 98 = .ok (.aload_n 0, 1) := by decide +kernel
theorem dX11_init_99 : decode cX11_init 99 = .ok (.new 54, 3) := by decide +kernel
theorem kc11_54 : inW (Cond.classLink RX11 54 RX2) := ⟨List.mem_of_getElem? (i := 433) (by decide +kernel), by decide +kernel⟩
theorem kn2 : inW (Cond.instantiable RX2 4) := ⟨List.mem_of_getElem? (i := 434) (by decide +kernel), by decide +kernel⟩
theorem ki2 : inW (Cond.initialized RX2) := ⟨List.mem_of_getElem? (i := 134) (by decide +kernel), by decide +kernel⟩
theorem dX11_init_102 : decode cX11_init 102 = .ok (.dup, 1) := by decide +kernel
theorem dX11_init_103 : decode cX11_init 103 = .ok (.aload_n 0, 1) := by decide +kernel
theorem dX11_init_104 : decode cX11_init 104 = .ok (.getfield 13, 3) := by decide +kernel
theorem dX11_init_107 : decode cX11_init 107 = .ok (.aload_n 0, 1) := by decide +kernel
theorem dX11_init_108 : decode cX11_init 108 = .ok (.getfield 34, 3) := by decide +kernel
theorem dX11_init_111 : decode cX11_init 111 = .ok (.aload_n 0, 1) := by decide +kernel
theorem dX11_init_112 : decode cX11_init 112 = .ok (.getfield 50, 3) := by decide +kernel
theorem dX11_init_115 : decode cX11_init 115 = .ok (.aload_n 1, 1) := by decide +kernel
theorem dX11_init_116 : decode cX11_init 116 = .ok (.invokespecial 56, 3) := by decide +kernel
theorem cw_X2_init : CWi yX2_init cX2_init 5 4 := ⟨⟨⟨List.mem_of_getElem? (i := 134) (by decide +kernel), by decide +kernel⟩, ⟨List.mem_of_getElem? (i := 437) (by decide +kernel), by decide +kernel⟩, by decide +kernel⟩, ⟨List.mem_of_getElem? (i := 436) (by decide +kernel), by decide +kernel⟩, rfl⟩
theorem km11_56 : inW (Cond.methodLink RX11 56 yX2_init) := ⟨List.mem_of_getElem? (i := 435) (by decide +kernel), by decide +kernel⟩
theorem dX11_init_119 : decode cX11_init 119 = .ok (.putfield 59, 3) := by decide +kernel
theorem dX11_init_122 : decode cX11_init 122 = .ok (.aload_n 0, 1) := by decide +kernel
theorem dX11_init_123 : decode cX11_init 123 = .ok (.new 63, 3) := by decide +kernel
theorem kc11_63 : inW (Cond.classLink RX11 63 RX8) := ⟨List.mem_of_getElem? (i := 452) (by decide +kernel), by decide +kernel⟩
theorem kn8 : inW (Cond.instantiable RX8 10) := ⟨List.mem_of_getElem? (i := 453) (by decide +kernel), by decide +kernel⟩
theorem ki8 : inW (Cond.initialized RX8) := ⟨List.mem_of_getElem? (i := 135) (by decide +kernel), by decide +kernel⟩
theorem dX11_init_126 : decode cX11_init 126 = .ok (.dup, 1) := by decide +kernel
theorem dX11_init_127 : decode cX11_init 127 = .ok (.aload_n 0, 1) := by decide +kernel
theorem dX11_init_128 : decode cX11_init 128 = .ok (.getfield 13, 3) := by decide +kernel
theorem dX11_init_131 : decode cX11_init 131 = .ok (.aload_n 0, 1) := by decide +kernel
theorem dX11_init_132 : decode cX11_init 132 = .ok (.getfield 34, 3) := by decide +kernel
theorem dX11_init_135 : decode cX11_init 135 = .ok (.aload_n 1, 1) := by decide +kernel
theorem dX11_init_136 : decode cX11_init 136 = .ok (.invokespecial 65, 3) := by decide +kernel
theorem cw_X8_init : CWi yX8_init cX8_init 4 3 := ⟨⟨⟨List.mem_of_getElem? (i := 135) (by decide +kernel), by decide +kernel⟩, ⟨List.mem_of_getElem? (i := 456) (by decide +kernel), by decide +kernel⟩, by decide +kernel⟩, ⟨List.mem_of_getElem? (i := 455) (by decide +kernel), by decide +kernel⟩, rfl⟩
theorem km11_65 : inW (Cond.methodLink RX11 65 yX8_init) := ⟨List.mem_of_getElem? (i := 454) (by decide +kernel), by decide +kernel⟩
theorem dX11_init_139 : decode cX11_init 139 = .ok (.putfield 68, 3) := by decide +kernel
theorem kf11_68 : inW (Cond.fieldLink RX11 68 "KneeOaths" "suspicions" "LKneeOaths$Suspicions;") := ⟨List.mem_of_getElem? (i := 512) (by decide +kernel), by decide +kernel⟩
theorem dX11_init_142 : decode cX11_init 142 = .ok (.aload_n 0, 1) := by decide +kernel
theorem dX11_init_143 : decode cX11_init 143 = .ok (.new 72, 3) := by decide +kernel
theorem kc11_72 : inW (Cond.classLink RX11 72 RX0) := ⟨List.mem_of_getElem? (i := 489) (by decide +kernel), by decide +kernel⟩
theorem kn0 : inW (Cond.instantiable RX0 3) := ⟨List.mem_of_getElem? (i := 490) (by decide +kernel), by decide +kernel⟩
theorem ki0 : inW (Cond.initialized RX0) := ⟨List.mem_of_getElem? (i := 136) (by decide +kernel), by decide +kernel⟩
theorem dX11_init_146 : decode cX11_init 146 = .ok (.dup, 1) := by decide +kernel
theorem dX11_init_147 : decode cX11_init 147 = .ok (.aload_n 0, 1) := by decide +kernel
theorem dX11_init_148 : decode cX11_init 148 = .ok (.getfield 13, 3) := by decide +kernel
theorem dX11_init_151 : decode cX11_init 151 = .ok (.invokespecial 74, 3) := by decide +kernel
theorem cw_X0_init : CWi yX0_init cX0_init 2 1 := ⟨⟨⟨List.mem_of_getElem? (i := 136) (by decide +kernel), by decide +kernel⟩, ⟨List.mem_of_getElem? (i := 493) (by decide +kernel), by decide +kernel⟩, by decide +kernel⟩, ⟨List.mem_of_getElem? (i := 492) (by decide +kernel), by decide +kernel⟩, rfl⟩
theorem km11_74 : inW (Cond.methodLink RX11 74 yX0_init) := ⟨List.mem_of_getElem? (i := 491) (by decide +kernel), by decide +kernel⟩
theorem dX11_init_154 : decode cX11_init 154 = .ok (.putfield 75, 3) := by decide +kernel
theorem dX11_init_157 : decode cX11_init 157 = .ok (.return_, 1) := by decide +kernel
theorem keepsH {G : GG} {L1 : List Nat} {f1 : HF} {h : Nat} {fs : List Value} (hp : pt L1 f1 h (.inr (11, fs))) : ∀ (b : Nat) (e : va_E), pt L1 f1 b e → ((∃ x, e = .inr (4, x)) ∨ (∃ x, e = .inl (G.2 0, 98, x)) ∨ (∃ x, e = .inl (G.2 0, 90, x))) → b ∉ [h] := by
  intro b e hb h
  rcases h with ⟨x, rfl⟩ | ⟨x, rfl⟩ | ⟨x, rfl⟩
  · exact nmc (hb.neK hp (by decide)) nm0
  · exact nmc (hb.neB hp) nm0
  · exact nmc (hb.neB hp) nm0
theorem pastOK.mem {G : GG} {L0 : List Nat} {nw : Nat} {L1 : List Nat} {f1 : HF} {pf : Nat → Option Nat} {n : Nat} (h : pastOK G L0 nw L1 f1 pf n) : ∀ j, j < n → ∀ q, pf j = some q → q ∈ L1 := fun j hj q hq => by
  obtain ⟨o, a, b, g1, g2, v1, v2, v3, v4, v5, h1, h2, h3, h4, h5, h6, h7, h8⟩ := h j hj
  rw [h1] at hq
  cases hq
  exact h6.1
theorem pastOK.outer {G : GG} {L0 LT : List Nat} {nw : Nat} {L1 : List Nat} {f1 : HF} {pf : Nat → Option Nat} {n : Nat} (hs : ∀ b, b ∈ LT → b ∈ L0) (h : pastOK G L0 nw L1 f1 pf n) : pastOK G LT nw L1 f1 pf n := fun j hj => by
  obtain ⟨o, a, b, g1, g2, v1, v2, v3, v4, v5, h1, h2, h3, h4, h5⟩ := h j hj
  exact ⟨o, a, b, g1, g2, v1, v2, v3, v4, v5, h1, fun z => h2 (hs _ z), fun z => h3 (hs _ z), fun z => h4 (hs _ z), h5⟩
set_option maxHeartbeats 4000000 in
set_option maxRecDepth 100000 in
theorem c_X11_init {l : Launch} {G : GG} {L : List Nat} {f : HF} {h : Nat}  (p_h : pt L f h (.inr (11, [.null, .null, .null, .null, .null, .null, .null, .null, .null])))  : PMv l yX11_init cX11_init 2 3 286 20231 G [.ref h] L f (fun L1 f1 => ∃ w : Nat, ∃ ta : Nat, ∃ ag : Nat, ∃ sc : Nat, ∃ nw : Nat, ∃ pa : Nat, ∃ fe : Nat, ∃ cl : Nat, ∃ wo : Nat, ∃ si : Nat, ∃ we : Nat, ∃ oa : Nat, ∃ aa : Nat, ∃ c1 : Nat, ∃ c2 : Nat, ∃ c3 : Nat, ∃ c4 : Nat, ∃ c5 : Nat, ∃ s0 : Nat, ∃ dg : Nat, ∃ nu : Nat, ∃ lf : Nat, ∃ lt : Nat, ∃ cs : Nat, ∃ sf : Nat → Option Nat, ∃ pf : Nat → Option Nat, ∃ k : Nat, ∃ k_ta : Nat, ∃ k_ag : Nat, ∃ k_sc : Nat, ∃ k_nw : Nat, ∃ k_pa : Nat, ∃ k_fe : Nat, ∃ k_cl : Nat, ∃ k_wo : Nat, ∃ k_si : Nat, ∃ k_we : Nat, ∃ k_oa : Nat, ∃ k_aa : Nat, ∃ k_c1 : Nat, ∃ k_c2 : Nat, ∃ k_c3 : Nat, ∃ k_c4 : Nat, ∃ k_c5 : Nat, ∃ k_s0 : Nat, ∃ k_dg : Nat, ∃ k_nu : Nat, ∃ k_lf : Nat, ∃ k_lt : Nat, ∃ k_cs : Nat, ∃ k_sf : Nat → Option Nat, ∃ k_pf : Nat → Option Nat, ∃ sl : Nat, ∃ slo : Nat, ∃ sla : Nat, ∃ rd : Nat, ∃ tp : Nat, ∃ ki : Nat, ∃ pl : Nat, ∃ va : Nat, ∃ jd : Nat, ∃ jst : Nat, ∃ rg : Nat, ∃ dd : Nat, ∃ mo : Nat, ∃ fo : Nat, ∃ su : Nat, ∃ ch : Nat, ∃ pr : Nat, ∃ kn : Nat, ∃ LT : List Nat, kp L f L1 f1 [h] ∧ pt L1 f1 h (.inr (11, [.ref w, .ref k, .ref rd, .ref jd, .ref rg, .ref dd, .ref fo, .ref su, .ref ch])) ∧ pt L1 f1 w (.inr (10, [.ref ta, .ref ag, .ref sc, .ref nw, .ref pa, .ref fe, .ref cl, .ref wo, .ref si, .ref we, .int 0, .int 0, .int (-1), .int 0, .int 0])) ∧ pt L1 f1 ta (.inl (G.2 0, 6, .inl (fun _ => 0))) ∧ pt L1 f1 ag (.inl (G.2 0, 6, .inl (fun _ => 0))) ∧ pt L1 f1 sc (.inl (G.2 4, 4, .inr (.inr (.inr (.inr sf))))) ∧ pt L1 f1 nw (.inr (4, [.ref oa, .ref aa, .int 0, .int 0, .int 0, .int 0, .int 137])) ∧ pt L1 f1 oa (.inl (G.2 0, 98, .inl (fun _ => 0))) ∧ pt L1 f1 aa (.inl (G.2 0, 90, .inl (fun _ => 0))) ∧ pt L1 f1 pa (.inl (G.2 3, 30, .inr (.inr (.inr (.inr pf))))) ∧ pt L1 f1 fe (.inr (9, [.ref c1, .int 6, .int 0])) ∧ pt L1 f1 cl (.inr (9, [.ref c2, .int 8, .int 0])) ∧ pt L1 f1 wo (.inr (9, [.ref c3, .int 8, .int 0])) ∧ pt L1 f1 si (.inr (9, [.ref c4, .int 8, .int 0])) ∧ pt L1 f1 we (.inr (9, [.ref c5, .int 8, .int 0])) ∧ pt L1 f1 c1 (.inl (G.2 0, 24, .inl (fun _ => 0))) ∧ pt L1 f1 c2 (.inl (G.2 0, 24, .inl (fun _ => 0))) ∧ pt L1 f1 c3 (.inl (G.2 0, 24, .inl (fun _ => 0))) ∧ pt L1 f1 c4 (.inl (G.2 0, 24, .inl (fun _ => 0))) ∧ pt L1 f1 c5 (.inl (G.2 0, 24, .inl (fun _ => 0))) ∧ pt L1 f1 s0 (.inr (7, [.ref dg, .ref nu, .ref lf, .ref lt, .ref cs, .int 0, .int 0])) ∧ pt L1 f1 lf (.inl (G.2 0, 3, .inl (fun _ => 0))) ∧ pt L1 f1 lt (.inl (G.2 0, 3, .inl (fun _ => 0))) ∧ pt L1 f1 k (.inr (10, [.ref k_ta, .ref k_ag, .ref k_sc, .ref k_nw, .ref k_pa, .ref k_fe, .ref k_cl, .ref k_wo, .ref k_si, .ref k_we, .int 0, .int 0, .int (-1), .int 0, .int 0])) ∧ pt L1 f1 k_ta (.inl (G.2 0, 6, .inl (fun _ => 0))) ∧ pt L1 f1 k_ag (.inl (G.2 0, 6, .inl (fun _ => 0))) ∧ pt L1 f1 k_sc (.inl (G.2 4, 4, .inr (.inr (.inr (.inr k_sf))))) ∧ pt L1 f1 k_nw (.inr (4, [.ref k_oa, .ref k_aa, .int 0, .int 0, .int 0, .int 0, .int 137])) ∧ pt L1 f1 k_oa (.inl (G.2 0, 98, .inl (fun _ => 0))) ∧ pt L1 f1 k_aa (.inl (G.2 0, 90, .inl (fun _ => 0))) ∧ pt L1 f1 k_pa (.inl (G.2 3, 30, .inr (.inr (.inr (.inr k_pf))))) ∧ pt L1 f1 k_fe (.inr (9, [.ref k_c1, .int 6, .int 0])) ∧ pt L1 f1 k_cl (.inr (9, [.ref k_c2, .int 8, .int 0])) ∧ pt L1 f1 k_wo (.inr (9, [.ref k_c3, .int 8, .int 0])) ∧ pt L1 f1 k_si (.inr (9, [.ref k_c4, .int 8, .int 0])) ∧ pt L1 f1 k_we (.inr (9, [.ref k_c5, .int 8, .int 0])) ∧ pt L1 f1 k_c1 (.inl (G.2 0, 24, .inl (fun _ => 0))) ∧ pt L1 f1 k_c2 (.inl (G.2 0, 24, .inl (fun _ => 0))) ∧ pt L1 f1 k_c3 (.inl (G.2 0, 24, .inl (fun _ => 0))) ∧ pt L1 f1 k_c4 (.inl (G.2 0, 24, .inl (fun _ => 0))) ∧ pt L1 f1 k_c5 (.inl (G.2 0, 24, .inl (fun _ => 0))) ∧ pt L1 f1 k_s0 (.inr (7, [.ref k_dg, .ref k_nu, .ref k_lf, .ref k_lt, .ref k_cs, .int 0, .int 0])) ∧ pt L1 f1 k_lf (.inl (G.2 0, 3, .inl (fun _ => 0))) ∧ pt L1 f1 k_lt (.inl (G.2 0, 3, .inl (fun _ => 0))) ∧ pt L1 f1 sl (.inr (4, [.ref slo, .ref sla, .int 0, .int 0, .int 0, .int 0, .int 137])) ∧ pt L1 f1 slo (.inl (G.2 0, 98, .inl (fun _ => 0))) ∧ pt L1 f1 sla (.inl (G.2 0, 90, .inl (fun _ => 0))) ∧ pt L1 f1 rd (.inr (5, [.ref tp, .ref ki, .ref pl, .ref va, .int 0, .int 0, .int 0, .int 0, .int 0, .int 0, .int 0, .null, .int (-1), .int (-1)])) ∧ pt L1 f1 tp (.inl (G.2 0, 300, .inl (fun _ => 0))) ∧ pt L1 f1 ki (.inl (G.2 0, 301, .inl (fun _ => 0))) ∧ pt L1 f1 pl (.inl (G.2 0, 301, .inl (fun _ => 0))) ∧ pt L1 f1 va (.inl (G.2 0, 301, .inl (fun _ => 0))) ∧ pt L1 f1 jd (.inr (3, [.ref w, .ref jst, .int 0])) ∧ pt L1 f1 rg (.inr (6, [.ref w, .int 0])) ∧ pt L1 f1 dd (.inr (1, [.ref w, .ref jd, .ref rg, .ref mo, .int 0])) ∧ pt L1 f1 fo (.inr (2, [.ref w, .ref jd, .ref dd, .ref sl])) ∧ pt L1 f1 ch (.inr (0, [.ref w, .ref pr, .ref kn])) ∧ ta ≠ ag ∧ lf ≠ lt ∧ sf 0 = some s0 ∧ pastOK G L nw L1 f1 pf 30 ∧ pastOK G LT k_nw L1 f1 k_pf 30 ∧ ki ≠ pl ∧ ki ≠ va ∧ pl ≠ va ∧ sl ≠ nw ∧ (∀ j, j < 30 → ∀ o, pf j = some o → o ∈ LT) ∧ nw ∈ LT ∧ k_nw ∉ LT ∧ w ≠ k) := by
  refine PMv.of (post := fun L1 f1 => ∃ w : Nat, ∃ ta : Nat, ∃ ag : Nat, ∃ sc : Nat, ∃ nw : Nat, ∃ pa : Nat, ∃ fe : Nat, ∃ cl : Nat, ∃ wo : Nat, ∃ si : Nat, ∃ we : Nat, ∃ oa : Nat, ∃ aa : Nat, ∃ c1 : Nat, ∃ c2 : Nat, ∃ c3 : Nat, ∃ c4 : Nat, ∃ c5 : Nat, ∃ s0 : Nat, ∃ dg : Nat, ∃ nu : Nat, ∃ lf : Nat, ∃ lt : Nat, ∃ cs : Nat, ∃ sf : Nat → Option Nat, ∃ pf : Nat → Option Nat, ∃ k : Nat, ∃ k_ta : Nat, ∃ k_ag : Nat, ∃ k_sc : Nat, ∃ k_nw : Nat, ∃ k_pa : Nat, ∃ k_fe : Nat, ∃ k_cl : Nat, ∃ k_wo : Nat, ∃ k_si : Nat, ∃ k_we : Nat, ∃ k_oa : Nat, ∃ k_aa : Nat, ∃ k_c1 : Nat, ∃ k_c2 : Nat, ∃ k_c3 : Nat, ∃ k_c4 : Nat, ∃ k_c5 : Nat, ∃ k_s0 : Nat, ∃ k_dg : Nat, ∃ k_nu : Nat, ∃ k_lf : Nat, ∃ k_lt : Nat, ∃ k_cs : Nat, ∃ k_sf : Nat → Option Nat, ∃ k_pf : Nat → Option Nat, ∃ sl : Nat, ∃ slo : Nat, ∃ sla : Nat, ∃ rd : Nat, ∃ tp : Nat, ∃ ki : Nat, ∃ pl : Nat, ∃ va : Nat, ∃ jd : Nat, ∃ jst : Nat, ∃ rg : Nat, ∃ dd : Nat, ∃ mo : Nat, ∃ fo : Nat, ∃ su : Nat, ∃ ch : Nat, ∃ pr : Nat, ∃ kn : Nat, ∃ LT : List Nat, kp L f L1 f1 [h] ∧ pt L1 f1 h (.inr (11, [.ref w, .ref k, .ref rd, .ref jd, .ref rg, .ref dd, .ref fo, .ref su, .ref ch])) ∧ pt L1 f1 w (.inr (10, [.ref ta, .ref ag, .ref sc, .ref nw, .ref pa, .ref fe, .ref cl, .ref wo, .ref si, .ref we, .int 0, .int 0, .int (-1), .int 0, .int 0])) ∧ pt L1 f1 ta (.inl (G.2 0, 6, .inl (fun _ => 0))) ∧ pt L1 f1 ag (.inl (G.2 0, 6, .inl (fun _ => 0))) ∧ pt L1 f1 sc (.inl (G.2 4, 4, .inr (.inr (.inr (.inr sf))))) ∧ pt L1 f1 nw (.inr (4, [.ref oa, .ref aa, .int 0, .int 0, .int 0, .int 0, .int 137])) ∧ pt L1 f1 oa (.inl (G.2 0, 98, .inl (fun _ => 0))) ∧ pt L1 f1 aa (.inl (G.2 0, 90, .inl (fun _ => 0))) ∧ pt L1 f1 pa (.inl (G.2 3, 30, .inr (.inr (.inr (.inr pf))))) ∧ pt L1 f1 fe (.inr (9, [.ref c1, .int 6, .int 0])) ∧ pt L1 f1 cl (.inr (9, [.ref c2, .int 8, .int 0])) ∧ pt L1 f1 wo (.inr (9, [.ref c3, .int 8, .int 0])) ∧ pt L1 f1 si (.inr (9, [.ref c4, .int 8, .int 0])) ∧ pt L1 f1 we (.inr (9, [.ref c5, .int 8, .int 0])) ∧ pt L1 f1 c1 (.inl (G.2 0, 24, .inl (fun _ => 0))) ∧ pt L1 f1 c2 (.inl (G.2 0, 24, .inl (fun _ => 0))) ∧ pt L1 f1 c3 (.inl (G.2 0, 24, .inl (fun _ => 0))) ∧ pt L1 f1 c4 (.inl (G.2 0, 24, .inl (fun _ => 0))) ∧ pt L1 f1 c5 (.inl (G.2 0, 24, .inl (fun _ => 0))) ∧ pt L1 f1 s0 (.inr (7, [.ref dg, .ref nu, .ref lf, .ref lt, .ref cs, .int 0, .int 0])) ∧ pt L1 f1 lf (.inl (G.2 0, 3, .inl (fun _ => 0))) ∧ pt L1 f1 lt (.inl (G.2 0, 3, .inl (fun _ => 0))) ∧ pt L1 f1 k (.inr (10, [.ref k_ta, .ref k_ag, .ref k_sc, .ref k_nw, .ref k_pa, .ref k_fe, .ref k_cl, .ref k_wo, .ref k_si, .ref k_we, .int 0, .int 0, .int (-1), .int 0, .int 0])) ∧ pt L1 f1 k_ta (.inl (G.2 0, 6, .inl (fun _ => 0))) ∧ pt L1 f1 k_ag (.inl (G.2 0, 6, .inl (fun _ => 0))) ∧ pt L1 f1 k_sc (.inl (G.2 4, 4, .inr (.inr (.inr (.inr k_sf))))) ∧ pt L1 f1 k_nw (.inr (4, [.ref k_oa, .ref k_aa, .int 0, .int 0, .int 0, .int 0, .int 137])) ∧ pt L1 f1 k_oa (.inl (G.2 0, 98, .inl (fun _ => 0))) ∧ pt L1 f1 k_aa (.inl (G.2 0, 90, .inl (fun _ => 0))) ∧ pt L1 f1 k_pa (.inl (G.2 3, 30, .inr (.inr (.inr (.inr k_pf))))) ∧ pt L1 f1 k_fe (.inr (9, [.ref k_c1, .int 6, .int 0])) ∧ pt L1 f1 k_cl (.inr (9, [.ref k_c2, .int 8, .int 0])) ∧ pt L1 f1 k_wo (.inr (9, [.ref k_c3, .int 8, .int 0])) ∧ pt L1 f1 k_si (.inr (9, [.ref k_c4, .int 8, .int 0])) ∧ pt L1 f1 k_we (.inr (9, [.ref k_c5, .int 8, .int 0])) ∧ pt L1 f1 k_c1 (.inl (G.2 0, 24, .inl (fun _ => 0))) ∧ pt L1 f1 k_c2 (.inl (G.2 0, 24, .inl (fun _ => 0))) ∧ pt L1 f1 k_c3 (.inl (G.2 0, 24, .inl (fun _ => 0))) ∧ pt L1 f1 k_c4 (.inl (G.2 0, 24, .inl (fun _ => 0))) ∧ pt L1 f1 k_c5 (.inl (G.2 0, 24, .inl (fun _ => 0))) ∧ pt L1 f1 k_s0 (.inr (7, [.ref k_dg, .ref k_nu, .ref k_lf, .ref k_lt, .ref k_cs, .int 0, .int 0])) ∧ pt L1 f1 k_lf (.inl (G.2 0, 3, .inl (fun _ => 0))) ∧ pt L1 f1 k_lt (.inl (G.2 0, 3, .inl (fun _ => 0))) ∧ pt L1 f1 sl (.inr (4, [.ref slo, .ref sla, .int 0, .int 0, .int 0, .int 0, .int 137])) ∧ pt L1 f1 slo (.inl (G.2 0, 98, .inl (fun _ => 0))) ∧ pt L1 f1 sla (.inl (G.2 0, 90, .inl (fun _ => 0))) ∧ pt L1 f1 rd (.inr (5, [.ref tp, .ref ki, .ref pl, .ref va, .int 0, .int 0, .int 0, .int 0, .int 0, .int 0, .int 0, .null, .int (-1), .int (-1)])) ∧ pt L1 f1 tp (.inl (G.2 0, 300, .inl (fun _ => 0))) ∧ pt L1 f1 ki (.inl (G.2 0, 301, .inl (fun _ => 0))) ∧ pt L1 f1 pl (.inl (G.2 0, 301, .inl (fun _ => 0))) ∧ pt L1 f1 va (.inl (G.2 0, 301, .inl (fun _ => 0))) ∧ pt L1 f1 jd (.inr (3, [.ref w, .ref jst, .int 0])) ∧ pt L1 f1 rg (.inr (6, [.ref w, .int 0])) ∧ pt L1 f1 dd (.inr (1, [.ref w, .ref jd, .ref rg, .ref mo, .int 0])) ∧ pt L1 f1 fo (.inr (2, [.ref w, .ref jd, .ref dd, .ref sl])) ∧ pt L1 f1 ch (.inr (0, [.ref w, .ref pr, .ref kn])) ∧ ta ≠ ag ∧ lf ≠ lt ∧ sf 0 = some s0 ∧ pastOK G L nw L1 f1 pf 30 ∧ pastOK G LT k_nw L1 f1 k_pf 30 ∧ ki ≠ pl ∧ ki ≠ va ∧ pl ≠ va ∧ sl ≠ nw ∧ (∀ j, j < 30 → ∀ o, pf j = some o → o ∈ LT) ∧ nw ∈ LT ∧ k_nw ∉ LT ∧ w ≠ k) (own := RX11) (by decide) rfl (Nat.le_of_ble_eq_true rfl) (fun sz p e s m args below meth c A ls hA1 hname S Y hl => ?_)
  have hx := S.hx
  have hb := S.hb
  have hl : lv_has ls 2 [(0, .ref h)] := hl
  have hk : kp L f L f [h] := kp.rf
  refine lv_aload_n hx hb dX11_init_0 rfl (lv_at hl 0 rfl) ?_
  refine pObj S km11_1 kObj1 kObj2 hl.1 (Nat.le_of_ble_eq_true rfl) (Nat.le_of_ble_eq_true rfl) dX11_init_1 ?_
  refine pg_new S Y ok_X4 kc11_7 kn4 ki4 (fs := [.null, .null, .int 0, .int 0, .int 0, .int 0, .int 0]) (by decide) (by decide) (by decide) dX11_init_4 (fun q_588 f_589 H nq_588 ef_589 Y => ?_)
  have whkq_588 := hk.notin nq_588
  have hk := hk.push ef_589 nq_588
  have p_h := p_h.push ef_589 nq_588
  have p_q_588 := pt.new (L := L) ef_589
  refine lv_dup hx hb dX11_init_7 rfl ?_
  refine cINv (b := q_588) (As := []) (rest := [.ref q_588]) S Y (c_X4_init (l := l) p_q_588) cw_X4_init km11_9 rfl ⟨Nat.le_of_ble_eq_true rfl, Nat.le_of_ble_eq_true rfl⟩ hl.1 rfl (Nat.le_of_ble_eq_true rfl) ⟨Nat.le_of_ble_eq_true rfl, Nat.le_of_ble_eq_true rfl⟩ dX11_init_8 (fun L_590 f_591 H locs hf_591 Y => ?_)
  obtain ⟨a__592, a__593, kf_591, z_z_594, z_z_595, z_z_596, v_597, v_598⟩ := hf_591
  have w_599 := hk.notin v_597
  have w_600 := hk.notin v_598
  have p_h := kf_591.1 h _ (nmc (p_h.neK p_q_588 (by decide)) nm0) p_h
  have p_q_588 := z_z_594
  have p_a__592 := z_z_595
  have p_a__593 := z_z_596
  have hk := hk.call kf_591 (fun b hb hp => (nmc (neL hp whkq_588) nm0))
  refine lv_astore_n (lv' := [(1, .ref q_588), (0, .ref h)]) hx hb dX11_init_11 rfl hl (by decide) rfl (fun ls hl => ?_)
  refine lv_aload_n hx hb dX11_init_12 rfl (lv_at hl 1 rfl) ?_
  refine pg_new S Y ok_X10 kc11_10 kn10 ki10 (fs := [.null, .null, .null, .null, .null, .null, .null, .null, .null, .null, .int 0, .int 0, .int 0, .int 0, .int 0]) (by decide) (by decide) (by decide) dX11_init_13 (fun q_601 f_602 H nq_601 ef_602 Y => ?_)
  have whkq_601 := hk.notin nq_601
  have hk := hk.push ef_602 nq_601
  have p_h := p_h.push ef_602 nq_601
  have p_q_588 := p_q_588.push ef_602 nq_601
  have p_a__592 := p_a__592.push ef_602 nq_601
  have p_a__593 := p_a__593.push ef_602 nq_601
  have p_q_601 := pt.new (L := L_590) ef_602
  refine lv_dup hx hb dX11_init_16 rfl ?_
  have hsub0 := hk.2
  refine cIv (b := q_601) (As := []) (rest := [.ref q_601, .ref h]) S Y (c_X10_init (l := l) p_q_601) cw_X10_init km11_12 rfl ⟨Nat.le_of_ble_eq_true rfl, Nat.le_of_ble_eq_true rfl⟩ hl.1 rfl (Nat.le_of_ble_eq_true rfl) ⟨Nat.le_of_ble_eq_true rfl, Nat.le_of_ble_eq_true rfl⟩ dX11_init_17 (fun L_603 f_604 H locs hf_604 Y => ?_)
  obtain ⟨ta__605, ag__606, sc__607, nw__608, pa__609, fe__610, cl__611, wo__612, si__613, we__614, oa__615, aa__616, c__617, c__618, c__619, c__620, c__621, s__622, dg__623, nu__624, lf__625, lt__626, cs__627, sf__628, pf__629, kf_604, z_z_630, z_z_631, z_z_632, z_z_633, z_z_634, z_z_635, z_z_636, z_z_637, z_z_638, z_z_639, z_z_640, z_z_641, z_z_642, z_z_643, z_z_644, z_z_645, z_z_646, z_z_647, z_z_648, z_z_649, z_z_650, n1_651, n4_652, hsf_653, hpf_654, v_655, v_656, v_657, v_658, v_659, v_660, v_661, v_662, v_663, v_664, v_665, v_666, v_667, v_668, v_669⟩ := hf_604
  have w_670 := hk.notin v_655
  have w_671 := hk.notin v_656
  have d_672 := p_q_588.neQ v_657
  have w_673 := hk.notin v_657
  have d_674 := p_a__592.neQ v_658
  have w_675 := hk.notin v_658
  have d_676 := p_a__593.neQ v_659
  have w_677 := hk.notin v_659
  have w_678 := hk.notin v_660
  have w_679 := hk.notin v_661
  have w_680 := hk.notin v_662
  have w_681 := hk.notin v_663
  have w_682 := hk.notin v_664
  have w_683 := hk.notin v_665
  have w_684 := hk.notin v_666
  have w_685 := hk.notin v_667
  have w_686 := hk.notin v_668
  have w_687 := hk.notin v_669
  have p_h := kf_604.1 h _ (nmc (p_h.neK p_q_601 (by decide)) nm0) p_h
  have p_q_588 := kf_604.1 q_588 _ (nmc (p_q_588.neK p_q_601 (by decide)) nm0) p_q_588
  have p_a__592 := kf_604.1 a__592 _ (nmc (p_a__592.neB p_q_601) nm0) p_a__592
  have p_a__593 := kf_604.1 a__593 _ (nmc (p_a__593.neB p_q_601) nm0) p_a__593
  have p_q_601 := z_z_630
  have p_ta__605 := z_z_631
  have p_ag__606 := z_z_632
  have p_sc__607 := z_z_633
  have p_nw__608 := z_z_634
  have p_oa__615 := z_z_635
  have p_aa__616 := z_z_636
  have p_pa__609 := z_z_637
  have p_fe__610 := z_z_638
  have p_cl__611 := z_z_639
  have p_wo__612 := z_z_640
  have p_si__613 := z_z_641
  have p_we__614 := z_z_642
  have p_c__617 := z_z_643
  have p_c__618 := z_z_644
  have p_c__619 := z_z_645
  have p_c__620 := z_z_646
  have p_c__621 := z_z_647
  have p_s__622 := z_z_648
  have p_lf__625 := z_z_649
  have p_lt__626 := z_z_650
  have hk := hk.call kf_604 (fun b hb hp => (nmc (neL hp whkq_601) nm0))
  obtain ⟨LT, eLT⟩ : ∃ z, z = L_603 := ⟨_, rfl⟩
  have hkT : kp L_603 f_604 L_603 f_604 [h] := kp.rf
  have hpfT := hpf_654
  have pT_h := p_h
  have hLT : ∀ b, b ∈ LT → b ∈ L_603 := fun b z => by rw [eLT] at z; exact z
  have hinT : ∀ j, j < 30 → ∀ o, pf__629 j = some o → o ∈ LT := fun j hj o ho => by rw [eLT]; exact hpf_654.mem j hj o ho
  have hnwT : nw__608 ∈ LT := by rw [eLT]; exact p_nw__608.1
  refine pg_putF S Y hname ok_X11 0 (by decide) kf11_13 rfl rfl (fs' := [.ref q_601, .null, .null, .null, .null, .null, .null, .null, .null]) (v := .ref q_601) p_h rfl rfl rfl (Nat.le_of_ble_eq_true rfl) dX11_init_20 (fun f_688 H locs ef_688 Y => ?_)
  have p_q_588 := p_q_588.up ef_688 ((p_q_588.neK p_h (by decide)))
  have p_a__592 := p_a__592.up ef_688 ((p_a__592.neB p_h))
  have p_a__593 := p_a__593.up ef_688 ((p_a__593.neB p_h))
  have p_q_601 := p_q_601.up ef_688 ((p_q_601.neK p_h (by decide)))
  have p_ta__605 := p_ta__605.up ef_688 ((p_ta__605.neB p_h))
  have p_ag__606 := p_ag__606.up ef_688 ((p_ag__606.neB p_h))
  have p_sc__607 := p_sc__607.up ef_688 ((p_sc__607.neB p_h))
  have p_nw__608 := p_nw__608.up ef_688 ((p_nw__608.neK p_h (by decide)))
  have p_oa__615 := p_oa__615.up ef_688 ((p_oa__615.neB p_h))
  have p_aa__616 := p_aa__616.up ef_688 ((p_aa__616.neB p_h))
  have p_pa__609 := p_pa__609.up ef_688 ((p_pa__609.neB p_h))
  have p_fe__610 := p_fe__610.up ef_688 ((p_fe__610.neK p_h (by decide)))
  have p_cl__611 := p_cl__611.up ef_688 ((p_cl__611.neK p_h (by decide)))
  have p_wo__612 := p_wo__612.up ef_688 ((p_wo__612.neK p_h (by decide)))
  have p_si__613 := p_si__613.up ef_688 ((p_si__613.neK p_h (by decide)))
  have p_we__614 := p_we__614.up ef_688 ((p_we__614.neK p_h (by decide)))
  have p_c__617 := p_c__617.up ef_688 ((p_c__617.neB p_h))
  have p_c__618 := p_c__618.up ef_688 ((p_c__618.neB p_h))
  have p_c__619 := p_c__619.up ef_688 ((p_c__619.neB p_h))
  have p_c__620 := p_c__620.up ef_688 ((p_c__620.neB p_h))
  have p_c__621 := p_c__621.up ef_688 ((p_c__621.neB p_h))
  have p_s__622 := p_s__622.up ef_688 ((p_s__622.neK p_h (by decide)))
  have p_lf__625 := p_lf__625.up ef_688 ((p_lf__625.neB p_h))
  have p_lt__626 := p_lt__626.up ef_688 ((p_lt__626.neB p_h))
  have p_h := p_h.me ef_688
  have hk := hk.up ef_688 (by simp)
  have hkT := hkT.up ef_688 (by simp)
  refine lv_aload_n hx hb dX11_init_23 rfl (lv_at hl 1 rfl) ?_
  refine pg_new S Y ok_X10 kc11_10 kn10 ki10 (fs := [.null, .null, .null, .null, .null, .null, .null, .null, .null, .null, .int 0, .int 0, .int 0, .int 0, .int 0]) (by decide) (by decide) (by decide) dX11_init_24 (fun q_689 f_690 H nq_689 ef_690 Y => ?_)
  have whkq_689 := hk.notin nq_689
  have hk := hk.push ef_690 nq_689
  have whkTq_689 := hkT.notin nq_689
  have hkT := hkT.push ef_690 nq_689
  have p_h := p_h.push ef_690 nq_689
  have p_q_588 := p_q_588.push ef_690 nq_689
  have p_a__592 := p_a__592.push ef_690 nq_689
  have p_a__593 := p_a__593.push ef_690 nq_689
  have dq_601_q_689 := p_q_601.neQ nq_689
  have p_q_601 := p_q_601.push ef_690 nq_689
  have p_ta__605 := p_ta__605.push ef_690 nq_689
  have p_ag__606 := p_ag__606.push ef_690 nq_689
  have p_sc__607 := p_sc__607.push ef_690 nq_689
  have p_nw__608 := p_nw__608.push ef_690 nq_689
  have p_oa__615 := p_oa__615.push ef_690 nq_689
  have p_aa__616 := p_aa__616.push ef_690 nq_689
  have p_pa__609 := p_pa__609.push ef_690 nq_689
  have p_fe__610 := p_fe__610.push ef_690 nq_689
  have p_cl__611 := p_cl__611.push ef_690 nq_689
  have p_wo__612 := p_wo__612.push ef_690 nq_689
  have p_si__613 := p_si__613.push ef_690 nq_689
  have p_we__614 := p_we__614.push ef_690 nq_689
  have p_c__617 := p_c__617.push ef_690 nq_689
  have p_c__618 := p_c__618.push ef_690 nq_689
  have p_c__619 := p_c__619.push ef_690 nq_689
  have p_c__620 := p_c__620.push ef_690 nq_689
  have p_c__621 := p_c__621.push ef_690 nq_689
  have p_s__622 := p_s__622.push ef_690 nq_689
  have p_lf__625 := p_lf__625.push ef_690 nq_689
  have p_lt__626 := p_lt__626.push ef_690 nq_689
  have p_q_689 := pt.new (L := L_603) ef_690
  refine lv_dup hx hb dX11_init_27 rfl ?_
  have hsubT : ∀ b, b ∈ LT → b ∈ (L_603 ++ [q_689]) := fun b z => hkT.2 b (hLT b z)
  refine cIv (b := q_689) (As := []) (rest := [.ref q_689, .ref h]) S Y (c_X10_init (l := l) p_q_689) cw_X10_init km11_12 rfl ⟨Nat.le_of_ble_eq_true rfl, Nat.le_of_ble_eq_true rfl⟩ hl.1 rfl (Nat.le_of_ble_eq_true rfl) ⟨Nat.le_of_ble_eq_true rfl, Nat.le_of_ble_eq_true rfl⟩ dX11_init_28 (fun L_691 f_692 H locs hf_692 Y => ?_)
  obtain ⟨ta__693, ag__694, sc__695, nw__696, pa__697, fe__698, cl__699, wo__700, si__701, we__702, oa__703, aa__704, c__705, c__706, c__707, c__708, c__709, s__710, dg__711, nu__712, lf__713, lt__714, cs__715, sf__716, pf__717, kf_692, z_z_718, z_z_719, z_z_720, z_z_721, z_z_722, z_z_723, z_z_724, z_z_725, z_z_726, z_z_727, z_z_728, z_z_729, z_z_730, z_z_731, z_z_732, z_z_733, z_z_734, z_z_735, z_z_736, z_z_737, z_z_738, n1_739, n4_740, hsf_741, hpf_742, v_743, v_744, v_745, v_746, v_747, v_748, v_749, v_750, v_751, v_752, v_753, v_754, v_755, v_756, v_757⟩ := hf_692
  have d_758 := p_ta__605.neQ v_743
  have d_759 := p_ag__606.neQ v_743
  have w_760 := hk.notin v_743
  have w_761 := hkT.notin v_743
  have d_762 := p_ta__605.neQ v_744
  have d_763 := p_ag__606.neQ v_744
  have w_764 := hk.notin v_744
  have w_765 := hkT.notin v_744
  have d_766 := p_q_588.neQ v_745
  have d_767 := p_nw__608.neQ v_745
  have w_768 := hk.notin v_745
  have w_769 := hkT.notin v_745
  have d_770 := p_a__592.neQ v_746
  have d_771 := p_oa__615.neQ v_746
  have w_772 := hk.notin v_746
  have w_773 := hkT.notin v_746
  have d_774 := p_a__593.neQ v_747
  have d_775 := p_aa__616.neQ v_747
  have w_776 := hk.notin v_747
  have w_777 := hkT.notin v_747
  have d_778 := p_fe__610.neQ v_748
  have d_779 := p_cl__611.neQ v_748
  have d_780 := p_wo__612.neQ v_748
  have d_781 := p_si__613.neQ v_748
  have d_782 := p_we__614.neQ v_748
  have w_783 := hk.notin v_748
  have w_784 := hkT.notin v_748
  have d_785 := p_fe__610.neQ v_749
  have d_786 := p_cl__611.neQ v_749
  have d_787 := p_wo__612.neQ v_749
  have d_788 := p_si__613.neQ v_749
  have d_789 := p_we__614.neQ v_749
  have w_790 := hk.notin v_749
  have w_791 := hkT.notin v_749
  have d_792 := p_fe__610.neQ v_750
  have d_793 := p_cl__611.neQ v_750
  have d_794 := p_wo__612.neQ v_750
  have d_795 := p_si__613.neQ v_750
  have d_796 := p_we__614.neQ v_750
  have w_797 := hk.notin v_750
  have w_798 := hkT.notin v_750
  have d_799 := p_fe__610.neQ v_751
  have d_800 := p_cl__611.neQ v_751
  have d_801 := p_wo__612.neQ v_751
  have d_802 := p_si__613.neQ v_751
  have d_803 := p_we__614.neQ v_751
  have w_804 := hk.notin v_751
  have w_805 := hkT.notin v_751
  have d_806 := p_fe__610.neQ v_752
  have d_807 := p_cl__611.neQ v_752
  have d_808 := p_wo__612.neQ v_752
  have d_809 := p_si__613.neQ v_752
  have d_810 := p_we__614.neQ v_752
  have w_811 := hk.notin v_752
  have w_812 := hkT.notin v_752
  have d_813 := p_c__617.neQ v_753
  have d_814 := p_c__618.neQ v_753
  have d_815 := p_c__619.neQ v_753
  have d_816 := p_c__620.neQ v_753
  have d_817 := p_c__621.neQ v_753
  have w_818 := hk.notin v_753
  have w_819 := hkT.notin v_753
  have d_820 := p_c__617.neQ v_754
  have d_821 := p_c__618.neQ v_754
  have d_822 := p_c__619.neQ v_754
  have d_823 := p_c__620.neQ v_754
  have d_824 := p_c__621.neQ v_754
  have w_825 := hk.notin v_754
  have w_826 := hkT.notin v_754
  have d_827 := p_c__617.neQ v_755
  have d_828 := p_c__618.neQ v_755
  have d_829 := p_c__619.neQ v_755
  have d_830 := p_c__620.neQ v_755
  have d_831 := p_c__621.neQ v_755
  have w_832 := hk.notin v_755
  have w_833 := hkT.notin v_755
  have d_834 := p_c__617.neQ v_756
  have d_835 := p_c__618.neQ v_756
  have d_836 := p_c__619.neQ v_756
  have d_837 := p_c__620.neQ v_756
  have d_838 := p_c__621.neQ v_756
  have w_839 := hk.notin v_756
  have w_840 := hkT.notin v_756
  have d_841 := p_c__617.neQ v_757
  have d_842 := p_c__618.neQ v_757
  have d_843 := p_c__619.neQ v_757
  have d_844 := p_c__620.neQ v_757
  have d_845 := p_c__621.neQ v_757
  have w_846 := hk.notin v_757
  have w_847 := hkT.notin v_757
  have p_h := kf_692.1 h _ (nmc (p_h.neK p_q_689 (by decide)) nm0) p_h
  have p_q_588 := kf_692.1 q_588 _ (nmc (p_q_588.neK p_q_689 (by decide)) nm0) p_q_588
  have p_a__592 := kf_692.1 a__592 _ (nmc (p_a__592.neB p_q_689) nm0) p_a__592
  have p_a__593 := kf_692.1 a__593 _ (nmc (p_a__593.neB p_q_689) nm0) p_a__593
  have p_q_601 := kf_692.1 q_601 _ (nmc (dq_601_q_689) nm0) p_q_601
  have p_ta__605 := kf_692.1 ta__605 _ (nmc (p_ta__605.neB p_q_689) nm0) p_ta__605
  have p_ag__606 := kf_692.1 ag__606 _ (nmc (p_ag__606.neB p_q_689) nm0) p_ag__606
  have p_sc__607 := kf_692.1 sc__607 _ (nmc (p_sc__607.neB p_q_689) nm0) p_sc__607
  have p_nw__608 := kf_692.1 nw__608 _ (nmc (p_nw__608.neK p_q_689 (by decide)) nm0) p_nw__608
  have p_oa__615 := kf_692.1 oa__615 _ (nmc (p_oa__615.neB p_q_689) nm0) p_oa__615
  have p_aa__616 := kf_692.1 aa__616 _ (nmc (p_aa__616.neB p_q_689) nm0) p_aa__616
  have p_pa__609 := kf_692.1 pa__609 _ (nmc (p_pa__609.neB p_q_689) nm0) p_pa__609
  have p_fe__610 := kf_692.1 fe__610 _ (nmc (p_fe__610.neK p_q_689 (by decide)) nm0) p_fe__610
  have p_cl__611 := kf_692.1 cl__611 _ (nmc (p_cl__611.neK p_q_689 (by decide)) nm0) p_cl__611
  have p_wo__612 := kf_692.1 wo__612 _ (nmc (p_wo__612.neK p_q_689 (by decide)) nm0) p_wo__612
  have p_si__613 := kf_692.1 si__613 _ (nmc (p_si__613.neK p_q_689 (by decide)) nm0) p_si__613
  have p_we__614 := kf_692.1 we__614 _ (nmc (p_we__614.neK p_q_689 (by decide)) nm0) p_we__614
  have p_c__617 := kf_692.1 c__617 _ (nmc (p_c__617.neB p_q_689) nm0) p_c__617
  have p_c__618 := kf_692.1 c__618 _ (nmc (p_c__618.neB p_q_689) nm0) p_c__618
  have p_c__619 := kf_692.1 c__619 _ (nmc (p_c__619.neB p_q_689) nm0) p_c__619
  have p_c__620 := kf_692.1 c__620 _ (nmc (p_c__620.neB p_q_689) nm0) p_c__620
  have p_c__621 := kf_692.1 c__621 _ (nmc (p_c__621.neB p_q_689) nm0) p_c__621
  have p_s__622 := kf_692.1 s__622 _ (nmc (p_s__622.neK p_q_689 (by decide)) nm0) p_s__622
  have p_lf__625 := kf_692.1 lf__625 _ (nmc (p_lf__625.neB p_q_689) nm0) p_lf__625
  have p_lt__626 := kf_692.1 lt__626 _ (nmc (p_lt__626.neB p_q_689) nm0) p_lt__626
  have p_q_689 := z_z_718
  have p_ta__693 := z_z_719
  have p_ag__694 := z_z_720
  have p_sc__695 := z_z_721
  have p_nw__696 := z_z_722
  have p_oa__703 := z_z_723
  have p_aa__704 := z_z_724
  have p_pa__697 := z_z_725
  have p_fe__698 := z_z_726
  have p_cl__699 := z_z_727
  have p_wo__700 := z_z_728
  have p_si__701 := z_z_729
  have p_we__702 := z_z_730
  have p_c__705 := z_z_731
  have p_c__706 := z_z_732
  have p_c__707 := z_z_733
  have p_c__708 := z_z_734
  have p_c__709 := z_z_735
  have p_s__710 := z_z_736
  have p_lf__713 := z_z_737
  have p_lt__714 := z_z_738
  have hk := hk.call kf_692 (fun b hb hp => (nmc (neL hp whkq_689) nm0))
  have hkT := hkT.call kf_692 (fun b hb hp => (nmc (neL hp whkTq_689) nm0))
  have hkU : kp L_691 f_692 L_691 f_692 [h] := kp.rf
  have hpkU := hpf_742
  have pU_h := p_h
  have hknT : nw__696 ∉ LT := by rw [eLT]; exact w_769
  refine pg_putF S Y hname ok_X11 1 (by decide) kf11_19 rfl rfl (fs' := [.ref q_601, .ref q_689, .null, .null, .null, .null, .null, .null, .null]) (v := .ref q_689) p_h rfl rfl rfl (Nat.le_of_ble_eq_true rfl) dX11_init_31 (fun f_848 H locs ef_848 Y => ?_)
  have p_q_588 := p_q_588.up ef_848 ((p_q_588.neK p_h (by decide)))
  have p_a__592 := p_a__592.up ef_848 ((p_a__592.neB p_h))
  have p_a__593 := p_a__593.up ef_848 ((p_a__593.neB p_h))
  have p_q_601 := p_q_601.up ef_848 ((p_q_601.neK p_h (by decide)))
  have p_ta__605 := p_ta__605.up ef_848 ((p_ta__605.neB p_h))
  have p_ag__606 := p_ag__606.up ef_848 ((p_ag__606.neB p_h))
  have p_sc__607 := p_sc__607.up ef_848 ((p_sc__607.neB p_h))
  have p_nw__608 := p_nw__608.up ef_848 ((p_nw__608.neK p_h (by decide)))
  have p_oa__615 := p_oa__615.up ef_848 ((p_oa__615.neB p_h))
  have p_aa__616 := p_aa__616.up ef_848 ((p_aa__616.neB p_h))
  have p_pa__609 := p_pa__609.up ef_848 ((p_pa__609.neB p_h))
  have p_fe__610 := p_fe__610.up ef_848 ((p_fe__610.neK p_h (by decide)))
  have p_cl__611 := p_cl__611.up ef_848 ((p_cl__611.neK p_h (by decide)))
  have p_wo__612 := p_wo__612.up ef_848 ((p_wo__612.neK p_h (by decide)))
  have p_si__613 := p_si__613.up ef_848 ((p_si__613.neK p_h (by decide)))
  have p_we__614 := p_we__614.up ef_848 ((p_we__614.neK p_h (by decide)))
  have p_c__617 := p_c__617.up ef_848 ((p_c__617.neB p_h))
  have p_c__618 := p_c__618.up ef_848 ((p_c__618.neB p_h))
  have p_c__619 := p_c__619.up ef_848 ((p_c__619.neB p_h))
  have p_c__620 := p_c__620.up ef_848 ((p_c__620.neB p_h))
  have p_c__621 := p_c__621.up ef_848 ((p_c__621.neB p_h))
  have p_s__622 := p_s__622.up ef_848 ((p_s__622.neK p_h (by decide)))
  have p_lf__625 := p_lf__625.up ef_848 ((p_lf__625.neB p_h))
  have p_lt__626 := p_lt__626.up ef_848 ((p_lt__626.neB p_h))
  have p_q_689 := p_q_689.up ef_848 ((p_q_689.neK p_h (by decide)))
  have p_ta__693 := p_ta__693.up ef_848 ((p_ta__693.neB p_h))
  have p_ag__694 := p_ag__694.up ef_848 ((p_ag__694.neB p_h))
  have p_sc__695 := p_sc__695.up ef_848 ((p_sc__695.neB p_h))
  have p_nw__696 := p_nw__696.up ef_848 ((p_nw__696.neK p_h (by decide)))
  have p_oa__703 := p_oa__703.up ef_848 ((p_oa__703.neB p_h))
  have p_aa__704 := p_aa__704.up ef_848 ((p_aa__704.neB p_h))
  have p_pa__697 := p_pa__697.up ef_848 ((p_pa__697.neB p_h))
  have p_fe__698 := p_fe__698.up ef_848 ((p_fe__698.neK p_h (by decide)))
  have p_cl__699 := p_cl__699.up ef_848 ((p_cl__699.neK p_h (by decide)))
  have p_wo__700 := p_wo__700.up ef_848 ((p_wo__700.neK p_h (by decide)))
  have p_si__701 := p_si__701.up ef_848 ((p_si__701.neK p_h (by decide)))
  have p_we__702 := p_we__702.up ef_848 ((p_we__702.neK p_h (by decide)))
  have p_c__705 := p_c__705.up ef_848 ((p_c__705.neB p_h))
  have p_c__706 := p_c__706.up ef_848 ((p_c__706.neB p_h))
  have p_c__707 := p_c__707.up ef_848 ((p_c__707.neB p_h))
  have p_c__708 := p_c__708.up ef_848 ((p_c__708.neB p_h))
  have p_c__709 := p_c__709.up ef_848 ((p_c__709.neB p_h))
  have p_s__710 := p_s__710.up ef_848 ((p_s__710.neK p_h (by decide)))
  have p_lf__713 := p_lf__713.up ef_848 ((p_lf__713.neB p_h))
  have p_lt__714 := p_lt__714.up ef_848 ((p_lt__714.neB p_h))
  have p_h := p_h.me ef_848
  have hk := hk.up ef_848 (by simp)
  have hkT := hkT.up ef_848 (by simp)
  have hkU := hkU.up ef_848 (by simp)
  refine lv_aload_n hx hb dX11_init_34 rfl (lv_at hl 1 rfl) ?_
  refine pg_new S Y ok_X5 kc11_22 kn5 ki5 (fs := [.null, .null, .null, .null, .int 0, .int 0, .int 0, .int 0, .int 0, .int 0, .int 0, .null, .int 0, .int 0]) (by decide) (by decide) (by decide) dX11_init_35 (fun q_849 f_850 H nq_849 ef_850 Y => ?_)
  have whkq_849 := hk.notin nq_849
  have hk := hk.push ef_850 nq_849
  have whkTq_849 := hkT.notin nq_849
  have hkT := hkT.push ef_850 nq_849
  have whkUq_849 := hkU.notin nq_849
  have hkU := hkU.push ef_850 nq_849
  have p_h := p_h.push ef_850 nq_849
  have p_q_588 := p_q_588.push ef_850 nq_849
  have p_a__592 := p_a__592.push ef_850 nq_849
  have p_a__593 := p_a__593.push ef_850 nq_849
  have p_q_601 := p_q_601.push ef_850 nq_849
  have p_ta__605 := p_ta__605.push ef_850 nq_849
  have p_ag__606 := p_ag__606.push ef_850 nq_849
  have p_sc__607 := p_sc__607.push ef_850 nq_849
  have p_nw__608 := p_nw__608.push ef_850 nq_849
  have p_oa__615 := p_oa__615.push ef_850 nq_849
  have p_aa__616 := p_aa__616.push ef_850 nq_849
  have p_pa__609 := p_pa__609.push ef_850 nq_849
  have p_fe__610 := p_fe__610.push ef_850 nq_849
  have p_cl__611 := p_cl__611.push ef_850 nq_849
  have p_wo__612 := p_wo__612.push ef_850 nq_849
  have p_si__613 := p_si__613.push ef_850 nq_849
  have p_we__614 := p_we__614.push ef_850 nq_849
  have p_c__617 := p_c__617.push ef_850 nq_849
  have p_c__618 := p_c__618.push ef_850 nq_849
  have p_c__619 := p_c__619.push ef_850 nq_849
  have p_c__620 := p_c__620.push ef_850 nq_849
  have p_c__621 := p_c__621.push ef_850 nq_849
  have p_s__622 := p_s__622.push ef_850 nq_849
  have p_lf__625 := p_lf__625.push ef_850 nq_849
  have p_lt__626 := p_lt__626.push ef_850 nq_849
  have p_q_689 := p_q_689.push ef_850 nq_849
  have p_ta__693 := p_ta__693.push ef_850 nq_849
  have p_ag__694 := p_ag__694.push ef_850 nq_849
  have p_sc__695 := p_sc__695.push ef_850 nq_849
  have p_nw__696 := p_nw__696.push ef_850 nq_849
  have p_oa__703 := p_oa__703.push ef_850 nq_849
  have p_aa__704 := p_aa__704.push ef_850 nq_849
  have p_pa__697 := p_pa__697.push ef_850 nq_849
  have p_fe__698 := p_fe__698.push ef_850 nq_849
  have p_cl__699 := p_cl__699.push ef_850 nq_849
  have p_wo__700 := p_wo__700.push ef_850 nq_849
  have p_si__701 := p_si__701.push ef_850 nq_849
  have p_we__702 := p_we__702.push ef_850 nq_849
  have p_c__705 := p_c__705.push ef_850 nq_849
  have p_c__706 := p_c__706.push ef_850 nq_849
  have p_c__707 := p_c__707.push ef_850 nq_849
  have p_c__708 := p_c__708.push ef_850 nq_849
  have p_c__709 := p_c__709.push ef_850 nq_849
  have p_s__710 := p_s__710.push ef_850 nq_849
  have p_lf__713 := p_lf__713.push ef_850 nq_849
  have p_lt__714 := p_lt__714.push ef_850 nq_849
  have p_q_849 := pt.new (L := L_691) ef_850
  refine lv_dup hx hb dX11_init_38 rfl ?_
  refine cINv (b := q_849) (As := []) (rest := [.ref q_849, .ref h]) S Y (c_X5_init (l := l) p_q_849) cw_X5_init km11_24 rfl ⟨Nat.le_of_ble_eq_true rfl, Nat.le_of_ble_eq_true rfl⟩ hl.1 rfl (Nat.le_of_ble_eq_true rfl) ⟨Nat.le_of_ble_eq_true rfl, Nat.le_of_ble_eq_true rfl⟩ dX11_init_39 (fun L_851 f_852 H locs hf_852 Y => ?_)
  obtain ⟨a__853, a__854, a__855, a__856, kf_852, z_z_857, z_z_858, z_z_859, z_z_860, z_z_861, n1_862, n2_863, n3_864⟩ := hf_852
  have p_h := kf_852.1 h _ (nmc (p_h.neK p_q_849 (by decide)) nm0) p_h
  have p_q_588 := kf_852.1 q_588 _ (nmc (p_q_588.neK p_q_849 (by decide)) nm0) p_q_588
  have p_a__592 := kf_852.1 a__592 _ (nmc (p_a__592.neB p_q_849) nm0) p_a__592
  have p_a__593 := kf_852.1 a__593 _ (nmc (p_a__593.neB p_q_849) nm0) p_a__593
  have p_q_601 := kf_852.1 q_601 _ (nmc (p_q_601.neK p_q_849 (by decide)) nm0) p_q_601
  have p_ta__605 := kf_852.1 ta__605 _ (nmc (p_ta__605.neB p_q_849) nm0) p_ta__605
  have p_ag__606 := kf_852.1 ag__606 _ (nmc (p_ag__606.neB p_q_849) nm0) p_ag__606
  have p_sc__607 := kf_852.1 sc__607 _ (nmc (p_sc__607.neB p_q_849) nm0) p_sc__607
  have p_nw__608 := kf_852.1 nw__608 _ (nmc (p_nw__608.neK p_q_849 (by decide)) nm0) p_nw__608
  have p_oa__615 := kf_852.1 oa__615 _ (nmc (p_oa__615.neB p_q_849) nm0) p_oa__615
  have p_aa__616 := kf_852.1 aa__616 _ (nmc (p_aa__616.neB p_q_849) nm0) p_aa__616
  have p_pa__609 := kf_852.1 pa__609 _ (nmc (p_pa__609.neB p_q_849) nm0) p_pa__609
  have p_fe__610 := kf_852.1 fe__610 _ (nmc (p_fe__610.neK p_q_849 (by decide)) nm0) p_fe__610
  have p_cl__611 := kf_852.1 cl__611 _ (nmc (p_cl__611.neK p_q_849 (by decide)) nm0) p_cl__611
  have p_wo__612 := kf_852.1 wo__612 _ (nmc (p_wo__612.neK p_q_849 (by decide)) nm0) p_wo__612
  have p_si__613 := kf_852.1 si__613 _ (nmc (p_si__613.neK p_q_849 (by decide)) nm0) p_si__613
  have p_we__614 := kf_852.1 we__614 _ (nmc (p_we__614.neK p_q_849 (by decide)) nm0) p_we__614
  have p_c__617 := kf_852.1 c__617 _ (nmc (p_c__617.neB p_q_849) nm0) p_c__617
  have p_c__618 := kf_852.1 c__618 _ (nmc (p_c__618.neB p_q_849) nm0) p_c__618
  have p_c__619 := kf_852.1 c__619 _ (nmc (p_c__619.neB p_q_849) nm0) p_c__619
  have p_c__620 := kf_852.1 c__620 _ (nmc (p_c__620.neB p_q_849) nm0) p_c__620
  have p_c__621 := kf_852.1 c__621 _ (nmc (p_c__621.neB p_q_849) nm0) p_c__621
  have p_s__622 := kf_852.1 s__622 _ (nmc (p_s__622.neK p_q_849 (by decide)) nm0) p_s__622
  have p_lf__625 := kf_852.1 lf__625 _ (nmc (p_lf__625.neB p_q_849) nm0) p_lf__625
  have p_lt__626 := kf_852.1 lt__626 _ (nmc (p_lt__626.neB p_q_849) nm0) p_lt__626
  have p_q_689 := kf_852.1 q_689 _ (nmc (p_q_689.neK p_q_849 (by decide)) nm0) p_q_689
  have p_ta__693 := kf_852.1 ta__693 _ (nmc (p_ta__693.neB p_q_849) nm0) p_ta__693
  have p_ag__694 := kf_852.1 ag__694 _ (nmc (p_ag__694.neB p_q_849) nm0) p_ag__694
  have p_sc__695 := kf_852.1 sc__695 _ (nmc (p_sc__695.neB p_q_849) nm0) p_sc__695
  have p_nw__696 := kf_852.1 nw__696 _ (nmc (p_nw__696.neK p_q_849 (by decide)) nm0) p_nw__696
  have p_oa__703 := kf_852.1 oa__703 _ (nmc (p_oa__703.neB p_q_849) nm0) p_oa__703
  have p_aa__704 := kf_852.1 aa__704 _ (nmc (p_aa__704.neB p_q_849) nm0) p_aa__704
  have p_pa__697 := kf_852.1 pa__697 _ (nmc (p_pa__697.neB p_q_849) nm0) p_pa__697
  have p_fe__698 := kf_852.1 fe__698 _ (nmc (p_fe__698.neK p_q_849 (by decide)) nm0) p_fe__698
  have p_cl__699 := kf_852.1 cl__699 _ (nmc (p_cl__699.neK p_q_849 (by decide)) nm0) p_cl__699
  have p_wo__700 := kf_852.1 wo__700 _ (nmc (p_wo__700.neK p_q_849 (by decide)) nm0) p_wo__700
  have p_si__701 := kf_852.1 si__701 _ (nmc (p_si__701.neK p_q_849 (by decide)) nm0) p_si__701
  have p_we__702 := kf_852.1 we__702 _ (nmc (p_we__702.neK p_q_849 (by decide)) nm0) p_we__702
  have p_c__705 := kf_852.1 c__705 _ (nmc (p_c__705.neB p_q_849) nm0) p_c__705
  have p_c__706 := kf_852.1 c__706 _ (nmc (p_c__706.neB p_q_849) nm0) p_c__706
  have p_c__707 := kf_852.1 c__707 _ (nmc (p_c__707.neB p_q_849) nm0) p_c__707
  have p_c__708 := kf_852.1 c__708 _ (nmc (p_c__708.neB p_q_849) nm0) p_c__708
  have p_c__709 := kf_852.1 c__709 _ (nmc (p_c__709.neB p_q_849) nm0) p_c__709
  have p_s__710 := kf_852.1 s__710 _ (nmc (p_s__710.neK p_q_849 (by decide)) nm0) p_s__710
  have p_lf__713 := kf_852.1 lf__713 _ (nmc (p_lf__713.neB p_q_849) nm0) p_lf__713
  have p_lt__714 := kf_852.1 lt__714 _ (nmc (p_lt__714.neB p_q_849) nm0) p_lt__714
  have p_q_849 := z_z_857
  have p_a__853 := z_z_858
  have p_a__854 := z_z_859
  have p_a__855 := z_z_860
  have p_a__856 := z_z_861
  have hk := hk.call kf_852 (fun b hb hp => (nmc (neL hp whkq_849) nm0))
  have hkT := hkT.call kf_852 (fun b hb hp => (nmc (neL hp whkTq_849) nm0))
  have hkU := hkU.call kf_852 (fun b hb hp => (nmc (neL hp whkUq_849) nm0))
  refine pg_putF S Y hname ok_X11 2 (by decide) kf11_25 rfl rfl (fs' := [.ref q_601, .ref q_689, .ref q_849, .null, .null, .null, .null, .null, .null]) (v := .ref q_849) p_h rfl rfl rfl (Nat.le_of_ble_eq_true rfl) dX11_init_42 (fun f_865 H locs ef_865 Y => ?_)
  have p_q_588 := p_q_588.up ef_865 ((p_q_588.neK p_h (by decide)))
  have p_a__592 := p_a__592.up ef_865 ((p_a__592.neB p_h))
  have p_a__593 := p_a__593.up ef_865 ((p_a__593.neB p_h))
  have p_q_601 := p_q_601.up ef_865 ((p_q_601.neK p_h (by decide)))
  have p_ta__605 := p_ta__605.up ef_865 ((p_ta__605.neB p_h))
  have p_ag__606 := p_ag__606.up ef_865 ((p_ag__606.neB p_h))
  have p_sc__607 := p_sc__607.up ef_865 ((p_sc__607.neB p_h))
  have p_nw__608 := p_nw__608.up ef_865 ((p_nw__608.neK p_h (by decide)))
  have p_oa__615 := p_oa__615.up ef_865 ((p_oa__615.neB p_h))
  have p_aa__616 := p_aa__616.up ef_865 ((p_aa__616.neB p_h))
  have p_pa__609 := p_pa__609.up ef_865 ((p_pa__609.neB p_h))
  have p_fe__610 := p_fe__610.up ef_865 ((p_fe__610.neK p_h (by decide)))
  have p_cl__611 := p_cl__611.up ef_865 ((p_cl__611.neK p_h (by decide)))
  have p_wo__612 := p_wo__612.up ef_865 ((p_wo__612.neK p_h (by decide)))
  have p_si__613 := p_si__613.up ef_865 ((p_si__613.neK p_h (by decide)))
  have p_we__614 := p_we__614.up ef_865 ((p_we__614.neK p_h (by decide)))
  have p_c__617 := p_c__617.up ef_865 ((p_c__617.neB p_h))
  have p_c__618 := p_c__618.up ef_865 ((p_c__618.neB p_h))
  have p_c__619 := p_c__619.up ef_865 ((p_c__619.neB p_h))
  have p_c__620 := p_c__620.up ef_865 ((p_c__620.neB p_h))
  have p_c__621 := p_c__621.up ef_865 ((p_c__621.neB p_h))
  have p_s__622 := p_s__622.up ef_865 ((p_s__622.neK p_h (by decide)))
  have p_lf__625 := p_lf__625.up ef_865 ((p_lf__625.neB p_h))
  have p_lt__626 := p_lt__626.up ef_865 ((p_lt__626.neB p_h))
  have p_q_689 := p_q_689.up ef_865 ((p_q_689.neK p_h (by decide)))
  have p_ta__693 := p_ta__693.up ef_865 ((p_ta__693.neB p_h))
  have p_ag__694 := p_ag__694.up ef_865 ((p_ag__694.neB p_h))
  have p_sc__695 := p_sc__695.up ef_865 ((p_sc__695.neB p_h))
  have p_nw__696 := p_nw__696.up ef_865 ((p_nw__696.neK p_h (by decide)))
  have p_oa__703 := p_oa__703.up ef_865 ((p_oa__703.neB p_h))
  have p_aa__704 := p_aa__704.up ef_865 ((p_aa__704.neB p_h))
  have p_pa__697 := p_pa__697.up ef_865 ((p_pa__697.neB p_h))
  have p_fe__698 := p_fe__698.up ef_865 ((p_fe__698.neK p_h (by decide)))
  have p_cl__699 := p_cl__699.up ef_865 ((p_cl__699.neK p_h (by decide)))
  have p_wo__700 := p_wo__700.up ef_865 ((p_wo__700.neK p_h (by decide)))
  have p_si__701 := p_si__701.up ef_865 ((p_si__701.neK p_h (by decide)))
  have p_we__702 := p_we__702.up ef_865 ((p_we__702.neK p_h (by decide)))
  have p_c__705 := p_c__705.up ef_865 ((p_c__705.neB p_h))
  have p_c__706 := p_c__706.up ef_865 ((p_c__706.neB p_h))
  have p_c__707 := p_c__707.up ef_865 ((p_c__707.neB p_h))
  have p_c__708 := p_c__708.up ef_865 ((p_c__708.neB p_h))
  have p_c__709 := p_c__709.up ef_865 ((p_c__709.neB p_h))
  have p_s__710 := p_s__710.up ef_865 ((p_s__710.neK p_h (by decide)))
  have p_lf__713 := p_lf__713.up ef_865 ((p_lf__713.neB p_h))
  have p_lt__714 := p_lt__714.up ef_865 ((p_lt__714.neB p_h))
  have p_q_849 := p_q_849.up ef_865 ((p_q_849.neK p_h (by decide)))
  have p_a__853 := p_a__853.up ef_865 ((p_a__853.neB p_h))
  have p_a__854 := p_a__854.up ef_865 ((p_a__854.neB p_h))
  have p_a__855 := p_a__855.up ef_865 ((p_a__855.neB p_h))
  have p_a__856 := p_a__856.up ef_865 ((p_a__856.neB p_h))
  have p_h := p_h.me ef_865
  have hk := hk.up ef_865 (by simp)
  have hkT := hkT.up ef_865 (by simp)
  have hkU := hkU.up ef_865 (by simp)
  refine lv_aload_n hx hb dX11_init_45 rfl (lv_at hl 1 rfl) ?_
  refine pg_new S Y ok_X3 kc11_29 kn3 ki3 (fs := [.null, .null, .int 0]) (by decide) (by decide) (by decide) dX11_init_46 (fun q_866 f_867 H nq_866 ef_867 Y => ?_)
  have whkq_866 := hk.notin nq_866
  have hk := hk.push ef_867 nq_866
  have whkTq_866 := hkT.notin nq_866
  have hkT := hkT.push ef_867 nq_866
  have whkUq_866 := hkU.notin nq_866
  have hkU := hkU.push ef_867 nq_866
  have p_h := p_h.push ef_867 nq_866
  have p_q_588 := p_q_588.push ef_867 nq_866
  have p_a__592 := p_a__592.push ef_867 nq_866
  have p_a__593 := p_a__593.push ef_867 nq_866
  have p_q_601 := p_q_601.push ef_867 nq_866
  have p_ta__605 := p_ta__605.push ef_867 nq_866
  have p_ag__606 := p_ag__606.push ef_867 nq_866
  have p_sc__607 := p_sc__607.push ef_867 nq_866
  have p_nw__608 := p_nw__608.push ef_867 nq_866
  have p_oa__615 := p_oa__615.push ef_867 nq_866
  have p_aa__616 := p_aa__616.push ef_867 nq_866
  have p_pa__609 := p_pa__609.push ef_867 nq_866
  have p_fe__610 := p_fe__610.push ef_867 nq_866
  have p_cl__611 := p_cl__611.push ef_867 nq_866
  have p_wo__612 := p_wo__612.push ef_867 nq_866
  have p_si__613 := p_si__613.push ef_867 nq_866
  have p_we__614 := p_we__614.push ef_867 nq_866
  have p_c__617 := p_c__617.push ef_867 nq_866
  have p_c__618 := p_c__618.push ef_867 nq_866
  have p_c__619 := p_c__619.push ef_867 nq_866
  have p_c__620 := p_c__620.push ef_867 nq_866
  have p_c__621 := p_c__621.push ef_867 nq_866
  have p_s__622 := p_s__622.push ef_867 nq_866
  have p_lf__625 := p_lf__625.push ef_867 nq_866
  have p_lt__626 := p_lt__626.push ef_867 nq_866
  have p_q_689 := p_q_689.push ef_867 nq_866
  have p_ta__693 := p_ta__693.push ef_867 nq_866
  have p_ag__694 := p_ag__694.push ef_867 nq_866
  have p_sc__695 := p_sc__695.push ef_867 nq_866
  have p_nw__696 := p_nw__696.push ef_867 nq_866
  have p_oa__703 := p_oa__703.push ef_867 nq_866
  have p_aa__704 := p_aa__704.push ef_867 nq_866
  have p_pa__697 := p_pa__697.push ef_867 nq_866
  have p_fe__698 := p_fe__698.push ef_867 nq_866
  have p_cl__699 := p_cl__699.push ef_867 nq_866
  have p_wo__700 := p_wo__700.push ef_867 nq_866
  have p_si__701 := p_si__701.push ef_867 nq_866
  have p_we__702 := p_we__702.push ef_867 nq_866
  have p_c__705 := p_c__705.push ef_867 nq_866
  have p_c__706 := p_c__706.push ef_867 nq_866
  have p_c__707 := p_c__707.push ef_867 nq_866
  have p_c__708 := p_c__708.push ef_867 nq_866
  have p_c__709 := p_c__709.push ef_867 nq_866
  have p_s__710 := p_s__710.push ef_867 nq_866
  have p_lf__713 := p_lf__713.push ef_867 nq_866
  have p_lt__714 := p_lt__714.push ef_867 nq_866
  have p_q_849 := p_q_849.push ef_867 nq_866
  have p_a__853 := p_a__853.push ef_867 nq_866
  have p_a__854 := p_a__854.push ef_867 nq_866
  have p_a__855 := p_a__855.push ef_867 nq_866
  have p_a__856 := p_a__856.push ef_867 nq_866
  have p_q_866 := pt.new (L := L_851) ef_867
  refine lv_dup hx hb dX11_init_49 rfl ?_
  refine lv_aload_n hx hb dX11_init_50 rfl (lv_at hl 1 rfl) ?_
  refine pg_get S Y ok_X11 0 (by decide) kf11_13 (v := .ref q_601) p_h rfl dX11_init_51 ?_
  refine cIv (b := q_866) (As := [.ref q_601]) (rest := [.ref q_866, .ref h]) S Y (c_X3_init (l := l) p_q_866) cw_X3_init km11_31 rfl ⟨Nat.le_of_ble_eq_true rfl, Nat.le_of_ble_eq_true rfl⟩ hl.1 rfl (Nat.le_of_ble_eq_true rfl) ⟨Nat.le_of_ble_eq_true rfl, Nat.le_of_ble_eq_true rfl⟩ dX11_init_54 (fun L_868 f_869 H locs hf_869 Y => ?_)
  obtain ⟨a__870, kf_869, z_z_871⟩ := hf_869
  have p_h := kf_869.1 h _ (nmc (p_h.neK p_q_866 (by decide)) nm0) p_h
  have p_q_588 := kf_869.1 q_588 _ (nmc (p_q_588.neK p_q_866 (by decide)) nm0) p_q_588
  have p_a__592 := kf_869.1 a__592 _ (nmc (p_a__592.neB p_q_866) nm0) p_a__592
  have p_a__593 := kf_869.1 a__593 _ (nmc (p_a__593.neB p_q_866) nm0) p_a__593
  have p_q_601 := kf_869.1 q_601 _ (nmc (p_q_601.neK p_q_866 (by decide)) nm0) p_q_601
  have p_ta__605 := kf_869.1 ta__605 _ (nmc (p_ta__605.neB p_q_866) nm0) p_ta__605
  have p_ag__606 := kf_869.1 ag__606 _ (nmc (p_ag__606.neB p_q_866) nm0) p_ag__606
  have p_sc__607 := kf_869.1 sc__607 _ (nmc (p_sc__607.neB p_q_866) nm0) p_sc__607
  have p_nw__608 := kf_869.1 nw__608 _ (nmc (p_nw__608.neK p_q_866 (by decide)) nm0) p_nw__608
  have p_oa__615 := kf_869.1 oa__615 _ (nmc (p_oa__615.neB p_q_866) nm0) p_oa__615
  have p_aa__616 := kf_869.1 aa__616 _ (nmc (p_aa__616.neB p_q_866) nm0) p_aa__616
  have p_pa__609 := kf_869.1 pa__609 _ (nmc (p_pa__609.neB p_q_866) nm0) p_pa__609
  have p_fe__610 := kf_869.1 fe__610 _ (nmc (p_fe__610.neK p_q_866 (by decide)) nm0) p_fe__610
  have p_cl__611 := kf_869.1 cl__611 _ (nmc (p_cl__611.neK p_q_866 (by decide)) nm0) p_cl__611
  have p_wo__612 := kf_869.1 wo__612 _ (nmc (p_wo__612.neK p_q_866 (by decide)) nm0) p_wo__612
  have p_si__613 := kf_869.1 si__613 _ (nmc (p_si__613.neK p_q_866 (by decide)) nm0) p_si__613
  have p_we__614 := kf_869.1 we__614 _ (nmc (p_we__614.neK p_q_866 (by decide)) nm0) p_we__614
  have p_c__617 := kf_869.1 c__617 _ (nmc (p_c__617.neB p_q_866) nm0) p_c__617
  have p_c__618 := kf_869.1 c__618 _ (nmc (p_c__618.neB p_q_866) nm0) p_c__618
  have p_c__619 := kf_869.1 c__619 _ (nmc (p_c__619.neB p_q_866) nm0) p_c__619
  have p_c__620 := kf_869.1 c__620 _ (nmc (p_c__620.neB p_q_866) nm0) p_c__620
  have p_c__621 := kf_869.1 c__621 _ (nmc (p_c__621.neB p_q_866) nm0) p_c__621
  have p_s__622 := kf_869.1 s__622 _ (nmc (p_s__622.neK p_q_866 (by decide)) nm0) p_s__622
  have p_lf__625 := kf_869.1 lf__625 _ (nmc (p_lf__625.neB p_q_866) nm0) p_lf__625
  have p_lt__626 := kf_869.1 lt__626 _ (nmc (p_lt__626.neB p_q_866) nm0) p_lt__626
  have p_q_689 := kf_869.1 q_689 _ (nmc (p_q_689.neK p_q_866 (by decide)) nm0) p_q_689
  have p_ta__693 := kf_869.1 ta__693 _ (nmc (p_ta__693.neB p_q_866) nm0) p_ta__693
  have p_ag__694 := kf_869.1 ag__694 _ (nmc (p_ag__694.neB p_q_866) nm0) p_ag__694
  have p_sc__695 := kf_869.1 sc__695 _ (nmc (p_sc__695.neB p_q_866) nm0) p_sc__695
  have p_nw__696 := kf_869.1 nw__696 _ (nmc (p_nw__696.neK p_q_866 (by decide)) nm0) p_nw__696
  have p_oa__703 := kf_869.1 oa__703 _ (nmc (p_oa__703.neB p_q_866) nm0) p_oa__703
  have p_aa__704 := kf_869.1 aa__704 _ (nmc (p_aa__704.neB p_q_866) nm0) p_aa__704
  have p_pa__697 := kf_869.1 pa__697 _ (nmc (p_pa__697.neB p_q_866) nm0) p_pa__697
  have p_fe__698 := kf_869.1 fe__698 _ (nmc (p_fe__698.neK p_q_866 (by decide)) nm0) p_fe__698
  have p_cl__699 := kf_869.1 cl__699 _ (nmc (p_cl__699.neK p_q_866 (by decide)) nm0) p_cl__699
  have p_wo__700 := kf_869.1 wo__700 _ (nmc (p_wo__700.neK p_q_866 (by decide)) nm0) p_wo__700
  have p_si__701 := kf_869.1 si__701 _ (nmc (p_si__701.neK p_q_866 (by decide)) nm0) p_si__701
  have p_we__702 := kf_869.1 we__702 _ (nmc (p_we__702.neK p_q_866 (by decide)) nm0) p_we__702
  have p_c__705 := kf_869.1 c__705 _ (nmc (p_c__705.neB p_q_866) nm0) p_c__705
  have p_c__706 := kf_869.1 c__706 _ (nmc (p_c__706.neB p_q_866) nm0) p_c__706
  have p_c__707 := kf_869.1 c__707 _ (nmc (p_c__707.neB p_q_866) nm0) p_c__707
  have p_c__708 := kf_869.1 c__708 _ (nmc (p_c__708.neB p_q_866) nm0) p_c__708
  have p_c__709 := kf_869.1 c__709 _ (nmc (p_c__709.neB p_q_866) nm0) p_c__709
  have p_s__710 := kf_869.1 s__710 _ (nmc (p_s__710.neK p_q_866 (by decide)) nm0) p_s__710
  have p_lf__713 := kf_869.1 lf__713 _ (nmc (p_lf__713.neB p_q_866) nm0) p_lf__713
  have p_lt__714 := kf_869.1 lt__714 _ (nmc (p_lt__714.neB p_q_866) nm0) p_lt__714
  have p_q_849 := kf_869.1 q_849 _ (nmc (p_q_849.neK p_q_866 (by decide)) nm0) p_q_849
  have p_a__853 := kf_869.1 a__853 _ (nmc (p_a__853.neB p_q_866) nm0) p_a__853
  have p_a__854 := kf_869.1 a__854 _ (nmc (p_a__854.neB p_q_866) nm0) p_a__854
  have p_a__855 := kf_869.1 a__855 _ (nmc (p_a__855.neB p_q_866) nm0) p_a__855
  have p_a__856 := kf_869.1 a__856 _ (nmc (p_a__856.neB p_q_866) nm0) p_a__856
  have p_q_866 := z_z_871
  have hk := hk.call kf_869 (fun b hb hp => (nmc (neL hp whkq_866) nm0))
  have hkT := hkT.call kf_869 (fun b hb hp => (nmc (neL hp whkTq_866) nm0))
  have hkU := hkU.call kf_869 (fun b hb hp => (nmc (neL hp whkUq_866) nm0))
  refine pg_putF S Y hname ok_X11 3 (by decide) kf11_34 rfl rfl (fs' := [.ref q_601, .ref q_689, .ref q_849, .ref q_866, .null, .null, .null, .null, .null]) (v := .ref q_866) p_h rfl rfl rfl (Nat.le_of_ble_eq_true rfl) dX11_init_57 (fun f_872 H locs ef_872 Y => ?_)
  have p_q_588 := p_q_588.up ef_872 ((p_q_588.neK p_h (by decide)))
  have p_a__592 := p_a__592.up ef_872 ((p_a__592.neB p_h))
  have p_a__593 := p_a__593.up ef_872 ((p_a__593.neB p_h))
  have p_q_601 := p_q_601.up ef_872 ((p_q_601.neK p_h (by decide)))
  have p_ta__605 := p_ta__605.up ef_872 ((p_ta__605.neB p_h))
  have p_ag__606 := p_ag__606.up ef_872 ((p_ag__606.neB p_h))
  have p_sc__607 := p_sc__607.up ef_872 ((p_sc__607.neB p_h))
  have p_nw__608 := p_nw__608.up ef_872 ((p_nw__608.neK p_h (by decide)))
  have p_oa__615 := p_oa__615.up ef_872 ((p_oa__615.neB p_h))
  have p_aa__616 := p_aa__616.up ef_872 ((p_aa__616.neB p_h))
  have p_pa__609 := p_pa__609.up ef_872 ((p_pa__609.neB p_h))
  have p_fe__610 := p_fe__610.up ef_872 ((p_fe__610.neK p_h (by decide)))
  have p_cl__611 := p_cl__611.up ef_872 ((p_cl__611.neK p_h (by decide)))
  have p_wo__612 := p_wo__612.up ef_872 ((p_wo__612.neK p_h (by decide)))
  have p_si__613 := p_si__613.up ef_872 ((p_si__613.neK p_h (by decide)))
  have p_we__614 := p_we__614.up ef_872 ((p_we__614.neK p_h (by decide)))
  have p_c__617 := p_c__617.up ef_872 ((p_c__617.neB p_h))
  have p_c__618 := p_c__618.up ef_872 ((p_c__618.neB p_h))
  have p_c__619 := p_c__619.up ef_872 ((p_c__619.neB p_h))
  have p_c__620 := p_c__620.up ef_872 ((p_c__620.neB p_h))
  have p_c__621 := p_c__621.up ef_872 ((p_c__621.neB p_h))
  have p_s__622 := p_s__622.up ef_872 ((p_s__622.neK p_h (by decide)))
  have p_lf__625 := p_lf__625.up ef_872 ((p_lf__625.neB p_h))
  have p_lt__626 := p_lt__626.up ef_872 ((p_lt__626.neB p_h))
  have p_q_689 := p_q_689.up ef_872 ((p_q_689.neK p_h (by decide)))
  have p_ta__693 := p_ta__693.up ef_872 ((p_ta__693.neB p_h))
  have p_ag__694 := p_ag__694.up ef_872 ((p_ag__694.neB p_h))
  have p_sc__695 := p_sc__695.up ef_872 ((p_sc__695.neB p_h))
  have p_nw__696 := p_nw__696.up ef_872 ((p_nw__696.neK p_h (by decide)))
  have p_oa__703 := p_oa__703.up ef_872 ((p_oa__703.neB p_h))
  have p_aa__704 := p_aa__704.up ef_872 ((p_aa__704.neB p_h))
  have p_pa__697 := p_pa__697.up ef_872 ((p_pa__697.neB p_h))
  have p_fe__698 := p_fe__698.up ef_872 ((p_fe__698.neK p_h (by decide)))
  have p_cl__699 := p_cl__699.up ef_872 ((p_cl__699.neK p_h (by decide)))
  have p_wo__700 := p_wo__700.up ef_872 ((p_wo__700.neK p_h (by decide)))
  have p_si__701 := p_si__701.up ef_872 ((p_si__701.neK p_h (by decide)))
  have p_we__702 := p_we__702.up ef_872 ((p_we__702.neK p_h (by decide)))
  have p_c__705 := p_c__705.up ef_872 ((p_c__705.neB p_h))
  have p_c__706 := p_c__706.up ef_872 ((p_c__706.neB p_h))
  have p_c__707 := p_c__707.up ef_872 ((p_c__707.neB p_h))
  have p_c__708 := p_c__708.up ef_872 ((p_c__708.neB p_h))
  have p_c__709 := p_c__709.up ef_872 ((p_c__709.neB p_h))
  have p_s__710 := p_s__710.up ef_872 ((p_s__710.neK p_h (by decide)))
  have p_lf__713 := p_lf__713.up ef_872 ((p_lf__713.neB p_h))
  have p_lt__714 := p_lt__714.up ef_872 ((p_lt__714.neB p_h))
  have p_q_849 := p_q_849.up ef_872 ((p_q_849.neK p_h (by decide)))
  have p_a__853 := p_a__853.up ef_872 ((p_a__853.neB p_h))
  have p_a__854 := p_a__854.up ef_872 ((p_a__854.neB p_h))
  have p_a__855 := p_a__855.up ef_872 ((p_a__855.neB p_h))
  have p_a__856 := p_a__856.up ef_872 ((p_a__856.neB p_h))
  have p_q_866 := p_q_866.up ef_872 ((p_q_866.neK p_h (by decide)))
  have p_h := p_h.me ef_872
  have hk := hk.up ef_872 (by simp)
  have hkT := hkT.up ef_872 (by simp)
  have hkU := hkU.up ef_872 (by simp)
  refine lv_aload_n hx hb dX11_init_60 rfl (lv_at hl 1 rfl) ?_
  refine pg_new S Y ok_X6 kc11_38 kn6 ki6 (fs := [.null, .int 0]) (by decide) (by decide) (by decide) dX11_init_61 (fun q_873 f_874 H nq_873 ef_874 Y => ?_)
  have whkq_873 := hk.notin nq_873
  have hk := hk.push ef_874 nq_873
  have whkTq_873 := hkT.notin nq_873
  have hkT := hkT.push ef_874 nq_873
  have whkUq_873 := hkU.notin nq_873
  have hkU := hkU.push ef_874 nq_873
  have p_h := p_h.push ef_874 nq_873
  have p_q_588 := p_q_588.push ef_874 nq_873
  have p_a__592 := p_a__592.push ef_874 nq_873
  have p_a__593 := p_a__593.push ef_874 nq_873
  have p_q_601 := p_q_601.push ef_874 nq_873
  have p_ta__605 := p_ta__605.push ef_874 nq_873
  have p_ag__606 := p_ag__606.push ef_874 nq_873
  have p_sc__607 := p_sc__607.push ef_874 nq_873
  have p_nw__608 := p_nw__608.push ef_874 nq_873
  have p_oa__615 := p_oa__615.push ef_874 nq_873
  have p_aa__616 := p_aa__616.push ef_874 nq_873
  have p_pa__609 := p_pa__609.push ef_874 nq_873
  have p_fe__610 := p_fe__610.push ef_874 nq_873
  have p_cl__611 := p_cl__611.push ef_874 nq_873
  have p_wo__612 := p_wo__612.push ef_874 nq_873
  have p_si__613 := p_si__613.push ef_874 nq_873
  have p_we__614 := p_we__614.push ef_874 nq_873
  have p_c__617 := p_c__617.push ef_874 nq_873
  have p_c__618 := p_c__618.push ef_874 nq_873
  have p_c__619 := p_c__619.push ef_874 nq_873
  have p_c__620 := p_c__620.push ef_874 nq_873
  have p_c__621 := p_c__621.push ef_874 nq_873
  have p_s__622 := p_s__622.push ef_874 nq_873
  have p_lf__625 := p_lf__625.push ef_874 nq_873
  have p_lt__626 := p_lt__626.push ef_874 nq_873
  have p_q_689 := p_q_689.push ef_874 nq_873
  have p_ta__693 := p_ta__693.push ef_874 nq_873
  have p_ag__694 := p_ag__694.push ef_874 nq_873
  have p_sc__695 := p_sc__695.push ef_874 nq_873
  have p_nw__696 := p_nw__696.push ef_874 nq_873
  have p_oa__703 := p_oa__703.push ef_874 nq_873
  have p_aa__704 := p_aa__704.push ef_874 nq_873
  have p_pa__697 := p_pa__697.push ef_874 nq_873
  have p_fe__698 := p_fe__698.push ef_874 nq_873
  have p_cl__699 := p_cl__699.push ef_874 nq_873
  have p_wo__700 := p_wo__700.push ef_874 nq_873
  have p_si__701 := p_si__701.push ef_874 nq_873
  have p_we__702 := p_we__702.push ef_874 nq_873
  have p_c__705 := p_c__705.push ef_874 nq_873
  have p_c__706 := p_c__706.push ef_874 nq_873
  have p_c__707 := p_c__707.push ef_874 nq_873
  have p_c__708 := p_c__708.push ef_874 nq_873
  have p_c__709 := p_c__709.push ef_874 nq_873
  have p_s__710 := p_s__710.push ef_874 nq_873
  have p_lf__713 := p_lf__713.push ef_874 nq_873
  have p_lt__714 := p_lt__714.push ef_874 nq_873
  have p_q_849 := p_q_849.push ef_874 nq_873
  have p_a__853 := p_a__853.push ef_874 nq_873
  have p_a__854 := p_a__854.push ef_874 nq_873
  have p_a__855 := p_a__855.push ef_874 nq_873
  have p_a__856 := p_a__856.push ef_874 nq_873
  have p_q_866 := p_q_866.push ef_874 nq_873
  have p_q_873 := pt.new (L := L_868) ef_874
  refine lv_dup hx hb dX11_init_64 rfl ?_
  refine lv_aload_n hx hb dX11_init_65 rfl (lv_at hl 1 rfl) ?_
  refine pg_get S Y ok_X11 0 (by decide) kf11_13 (v := .ref q_601) p_h rfl dX11_init_66 ?_
  refine cIv (b := q_873) (As := [.ref q_601]) (rest := [.ref q_873, .ref h]) S Y (c_X6_init (l := l) p_q_873) cw_X6_init km11_40 rfl ⟨Nat.le_of_ble_eq_true rfl, Nat.le_of_ble_eq_true rfl⟩ hl.1 rfl (Nat.le_of_ble_eq_true rfl) ⟨Nat.le_of_ble_eq_true rfl, Nat.le_of_ble_eq_true rfl⟩ dX11_init_69 (fun L_875 f_876 H locs hf_876 Y => ?_)
  obtain ⟨kf_876, z_z_877⟩ := hf_876
  have p_h := kf_876.1 h _ (nmc (p_h.neK p_q_873 (by decide)) nm0) p_h
  have p_q_588 := kf_876.1 q_588 _ (nmc (p_q_588.neK p_q_873 (by decide)) nm0) p_q_588
  have p_a__592 := kf_876.1 a__592 _ (nmc (p_a__592.neB p_q_873) nm0) p_a__592
  have p_a__593 := kf_876.1 a__593 _ (nmc (p_a__593.neB p_q_873) nm0) p_a__593
  have p_q_601 := kf_876.1 q_601 _ (nmc (p_q_601.neK p_q_873 (by decide)) nm0) p_q_601
  have p_ta__605 := kf_876.1 ta__605 _ (nmc (p_ta__605.neB p_q_873) nm0) p_ta__605
  have p_ag__606 := kf_876.1 ag__606 _ (nmc (p_ag__606.neB p_q_873) nm0) p_ag__606
  have p_sc__607 := kf_876.1 sc__607 _ (nmc (p_sc__607.neB p_q_873) nm0) p_sc__607
  have p_nw__608 := kf_876.1 nw__608 _ (nmc (p_nw__608.neK p_q_873 (by decide)) nm0) p_nw__608
  have p_oa__615 := kf_876.1 oa__615 _ (nmc (p_oa__615.neB p_q_873) nm0) p_oa__615
  have p_aa__616 := kf_876.1 aa__616 _ (nmc (p_aa__616.neB p_q_873) nm0) p_aa__616
  have p_pa__609 := kf_876.1 pa__609 _ (nmc (p_pa__609.neB p_q_873) nm0) p_pa__609
  have p_fe__610 := kf_876.1 fe__610 _ (nmc (p_fe__610.neK p_q_873 (by decide)) nm0) p_fe__610
  have p_cl__611 := kf_876.1 cl__611 _ (nmc (p_cl__611.neK p_q_873 (by decide)) nm0) p_cl__611
  have p_wo__612 := kf_876.1 wo__612 _ (nmc (p_wo__612.neK p_q_873 (by decide)) nm0) p_wo__612
  have p_si__613 := kf_876.1 si__613 _ (nmc (p_si__613.neK p_q_873 (by decide)) nm0) p_si__613
  have p_we__614 := kf_876.1 we__614 _ (nmc (p_we__614.neK p_q_873 (by decide)) nm0) p_we__614
  have p_c__617 := kf_876.1 c__617 _ (nmc (p_c__617.neB p_q_873) nm0) p_c__617
  have p_c__618 := kf_876.1 c__618 _ (nmc (p_c__618.neB p_q_873) nm0) p_c__618
  have p_c__619 := kf_876.1 c__619 _ (nmc (p_c__619.neB p_q_873) nm0) p_c__619
  have p_c__620 := kf_876.1 c__620 _ (nmc (p_c__620.neB p_q_873) nm0) p_c__620
  have p_c__621 := kf_876.1 c__621 _ (nmc (p_c__621.neB p_q_873) nm0) p_c__621
  have p_s__622 := kf_876.1 s__622 _ (nmc (p_s__622.neK p_q_873 (by decide)) nm0) p_s__622
  have p_lf__625 := kf_876.1 lf__625 _ (nmc (p_lf__625.neB p_q_873) nm0) p_lf__625
  have p_lt__626 := kf_876.1 lt__626 _ (nmc (p_lt__626.neB p_q_873) nm0) p_lt__626
  have p_q_689 := kf_876.1 q_689 _ (nmc (p_q_689.neK p_q_873 (by decide)) nm0) p_q_689
  have p_ta__693 := kf_876.1 ta__693 _ (nmc (p_ta__693.neB p_q_873) nm0) p_ta__693
  have p_ag__694 := kf_876.1 ag__694 _ (nmc (p_ag__694.neB p_q_873) nm0) p_ag__694
  have p_sc__695 := kf_876.1 sc__695 _ (nmc (p_sc__695.neB p_q_873) nm0) p_sc__695
  have p_nw__696 := kf_876.1 nw__696 _ (nmc (p_nw__696.neK p_q_873 (by decide)) nm0) p_nw__696
  have p_oa__703 := kf_876.1 oa__703 _ (nmc (p_oa__703.neB p_q_873) nm0) p_oa__703
  have p_aa__704 := kf_876.1 aa__704 _ (nmc (p_aa__704.neB p_q_873) nm0) p_aa__704
  have p_pa__697 := kf_876.1 pa__697 _ (nmc (p_pa__697.neB p_q_873) nm0) p_pa__697
  have p_fe__698 := kf_876.1 fe__698 _ (nmc (p_fe__698.neK p_q_873 (by decide)) nm0) p_fe__698
  have p_cl__699 := kf_876.1 cl__699 _ (nmc (p_cl__699.neK p_q_873 (by decide)) nm0) p_cl__699
  have p_wo__700 := kf_876.1 wo__700 _ (nmc (p_wo__700.neK p_q_873 (by decide)) nm0) p_wo__700
  have p_si__701 := kf_876.1 si__701 _ (nmc (p_si__701.neK p_q_873 (by decide)) nm0) p_si__701
  have p_we__702 := kf_876.1 we__702 _ (nmc (p_we__702.neK p_q_873 (by decide)) nm0) p_we__702
  have p_c__705 := kf_876.1 c__705 _ (nmc (p_c__705.neB p_q_873) nm0) p_c__705
  have p_c__706 := kf_876.1 c__706 _ (nmc (p_c__706.neB p_q_873) nm0) p_c__706
  have p_c__707 := kf_876.1 c__707 _ (nmc (p_c__707.neB p_q_873) nm0) p_c__707
  have p_c__708 := kf_876.1 c__708 _ (nmc (p_c__708.neB p_q_873) nm0) p_c__708
  have p_c__709 := kf_876.1 c__709 _ (nmc (p_c__709.neB p_q_873) nm0) p_c__709
  have p_s__710 := kf_876.1 s__710 _ (nmc (p_s__710.neK p_q_873 (by decide)) nm0) p_s__710
  have p_lf__713 := kf_876.1 lf__713 _ (nmc (p_lf__713.neB p_q_873) nm0) p_lf__713
  have p_lt__714 := kf_876.1 lt__714 _ (nmc (p_lt__714.neB p_q_873) nm0) p_lt__714
  have p_q_849 := kf_876.1 q_849 _ (nmc (p_q_849.neK p_q_873 (by decide)) nm0) p_q_849
  have p_a__853 := kf_876.1 a__853 _ (nmc (p_a__853.neB p_q_873) nm0) p_a__853
  have p_a__854 := kf_876.1 a__854 _ (nmc (p_a__854.neB p_q_873) nm0) p_a__854
  have p_a__855 := kf_876.1 a__855 _ (nmc (p_a__855.neB p_q_873) nm0) p_a__855
  have p_a__856 := kf_876.1 a__856 _ (nmc (p_a__856.neB p_q_873) nm0) p_a__856
  have p_q_866 := kf_876.1 q_866 _ (nmc (p_q_866.neK p_q_873 (by decide)) nm0) p_q_866
  have p_q_873 := z_z_877
  have hk := hk.call kf_876 (fun b hb hp => (nmc (neL hp whkq_873) nm0))
  have hkT := hkT.call kf_876 (fun b hb hp => (nmc (neL hp whkTq_873) nm0))
  have hkU := hkU.call kf_876 (fun b hb hp => (nmc (neL hp whkUq_873) nm0))
  refine pg_putF S Y hname ok_X11 4 (by decide) kf11_41 rfl rfl (fs' := [.ref q_601, .ref q_689, .ref q_849, .ref q_866, .ref q_873, .null, .null, .null, .null]) (v := .ref q_873) p_h rfl rfl rfl (Nat.le_of_ble_eq_true rfl) dX11_init_72 (fun f_878 H locs ef_878 Y => ?_)
  have p_q_588 := p_q_588.up ef_878 ((p_q_588.neK p_h (by decide)))
  have p_a__592 := p_a__592.up ef_878 ((p_a__592.neB p_h))
  have p_a__593 := p_a__593.up ef_878 ((p_a__593.neB p_h))
  have p_q_601 := p_q_601.up ef_878 ((p_q_601.neK p_h (by decide)))
  have p_ta__605 := p_ta__605.up ef_878 ((p_ta__605.neB p_h))
  have p_ag__606 := p_ag__606.up ef_878 ((p_ag__606.neB p_h))
  have p_sc__607 := p_sc__607.up ef_878 ((p_sc__607.neB p_h))
  have p_nw__608 := p_nw__608.up ef_878 ((p_nw__608.neK p_h (by decide)))
  have p_oa__615 := p_oa__615.up ef_878 ((p_oa__615.neB p_h))
  have p_aa__616 := p_aa__616.up ef_878 ((p_aa__616.neB p_h))
  have p_pa__609 := p_pa__609.up ef_878 ((p_pa__609.neB p_h))
  have p_fe__610 := p_fe__610.up ef_878 ((p_fe__610.neK p_h (by decide)))
  have p_cl__611 := p_cl__611.up ef_878 ((p_cl__611.neK p_h (by decide)))
  have p_wo__612 := p_wo__612.up ef_878 ((p_wo__612.neK p_h (by decide)))
  have p_si__613 := p_si__613.up ef_878 ((p_si__613.neK p_h (by decide)))
  have p_we__614 := p_we__614.up ef_878 ((p_we__614.neK p_h (by decide)))
  have p_c__617 := p_c__617.up ef_878 ((p_c__617.neB p_h))
  have p_c__618 := p_c__618.up ef_878 ((p_c__618.neB p_h))
  have p_c__619 := p_c__619.up ef_878 ((p_c__619.neB p_h))
  have p_c__620 := p_c__620.up ef_878 ((p_c__620.neB p_h))
  have p_c__621 := p_c__621.up ef_878 ((p_c__621.neB p_h))
  have p_s__622 := p_s__622.up ef_878 ((p_s__622.neK p_h (by decide)))
  have p_lf__625 := p_lf__625.up ef_878 ((p_lf__625.neB p_h))
  have p_lt__626 := p_lt__626.up ef_878 ((p_lt__626.neB p_h))
  have p_q_689 := p_q_689.up ef_878 ((p_q_689.neK p_h (by decide)))
  have p_ta__693 := p_ta__693.up ef_878 ((p_ta__693.neB p_h))
  have p_ag__694 := p_ag__694.up ef_878 ((p_ag__694.neB p_h))
  have p_sc__695 := p_sc__695.up ef_878 ((p_sc__695.neB p_h))
  have p_nw__696 := p_nw__696.up ef_878 ((p_nw__696.neK p_h (by decide)))
  have p_oa__703 := p_oa__703.up ef_878 ((p_oa__703.neB p_h))
  have p_aa__704 := p_aa__704.up ef_878 ((p_aa__704.neB p_h))
  have p_pa__697 := p_pa__697.up ef_878 ((p_pa__697.neB p_h))
  have p_fe__698 := p_fe__698.up ef_878 ((p_fe__698.neK p_h (by decide)))
  have p_cl__699 := p_cl__699.up ef_878 ((p_cl__699.neK p_h (by decide)))
  have p_wo__700 := p_wo__700.up ef_878 ((p_wo__700.neK p_h (by decide)))
  have p_si__701 := p_si__701.up ef_878 ((p_si__701.neK p_h (by decide)))
  have p_we__702 := p_we__702.up ef_878 ((p_we__702.neK p_h (by decide)))
  have p_c__705 := p_c__705.up ef_878 ((p_c__705.neB p_h))
  have p_c__706 := p_c__706.up ef_878 ((p_c__706.neB p_h))
  have p_c__707 := p_c__707.up ef_878 ((p_c__707.neB p_h))
  have p_c__708 := p_c__708.up ef_878 ((p_c__708.neB p_h))
  have p_c__709 := p_c__709.up ef_878 ((p_c__709.neB p_h))
  have p_s__710 := p_s__710.up ef_878 ((p_s__710.neK p_h (by decide)))
  have p_lf__713 := p_lf__713.up ef_878 ((p_lf__713.neB p_h))
  have p_lt__714 := p_lt__714.up ef_878 ((p_lt__714.neB p_h))
  have p_q_849 := p_q_849.up ef_878 ((p_q_849.neK p_h (by decide)))
  have p_a__853 := p_a__853.up ef_878 ((p_a__853.neB p_h))
  have p_a__854 := p_a__854.up ef_878 ((p_a__854.neB p_h))
  have p_a__855 := p_a__855.up ef_878 ((p_a__855.neB p_h))
  have p_a__856 := p_a__856.up ef_878 ((p_a__856.neB p_h))
  have p_q_866 := p_q_866.up ef_878 ((p_q_866.neK p_h (by decide)))
  have p_q_873 := p_q_873.up ef_878 ((p_q_873.neK p_h (by decide)))
  have p_h := p_h.me ef_878
  have hk := hk.up ef_878 (by simp)
  have hkT := hkT.up ef_878 (by simp)
  have hkU := hkU.up ef_878 (by simp)
  refine lv_aload_n hx hb dX11_init_75 rfl (lv_at hl 1 rfl) ?_
  refine pg_new S Y ok_X1 kc11_45 kn1 ki1 (fs := [.null, .null, .null, .null, .int 0]) (by decide) (by decide) (by decide) dX11_init_76 (fun q_879 f_880 H nq_879 ef_880 Y => ?_)
  have whkq_879 := hk.notin nq_879
  have hk := hk.push ef_880 nq_879
  have whkTq_879 := hkT.notin nq_879
  have hkT := hkT.push ef_880 nq_879
  have whkUq_879 := hkU.notin nq_879
  have hkU := hkU.push ef_880 nq_879
  have p_h := p_h.push ef_880 nq_879
  have p_q_588 := p_q_588.push ef_880 nq_879
  have p_a__592 := p_a__592.push ef_880 nq_879
  have p_a__593 := p_a__593.push ef_880 nq_879
  have p_q_601 := p_q_601.push ef_880 nq_879
  have p_ta__605 := p_ta__605.push ef_880 nq_879
  have p_ag__606 := p_ag__606.push ef_880 nq_879
  have p_sc__607 := p_sc__607.push ef_880 nq_879
  have p_nw__608 := p_nw__608.push ef_880 nq_879
  have p_oa__615 := p_oa__615.push ef_880 nq_879
  have p_aa__616 := p_aa__616.push ef_880 nq_879
  have p_pa__609 := p_pa__609.push ef_880 nq_879
  have p_fe__610 := p_fe__610.push ef_880 nq_879
  have p_cl__611 := p_cl__611.push ef_880 nq_879
  have p_wo__612 := p_wo__612.push ef_880 nq_879
  have p_si__613 := p_si__613.push ef_880 nq_879
  have p_we__614 := p_we__614.push ef_880 nq_879
  have p_c__617 := p_c__617.push ef_880 nq_879
  have p_c__618 := p_c__618.push ef_880 nq_879
  have p_c__619 := p_c__619.push ef_880 nq_879
  have p_c__620 := p_c__620.push ef_880 nq_879
  have p_c__621 := p_c__621.push ef_880 nq_879
  have p_s__622 := p_s__622.push ef_880 nq_879
  have p_lf__625 := p_lf__625.push ef_880 nq_879
  have p_lt__626 := p_lt__626.push ef_880 nq_879
  have p_q_689 := p_q_689.push ef_880 nq_879
  have p_ta__693 := p_ta__693.push ef_880 nq_879
  have p_ag__694 := p_ag__694.push ef_880 nq_879
  have p_sc__695 := p_sc__695.push ef_880 nq_879
  have p_nw__696 := p_nw__696.push ef_880 nq_879
  have p_oa__703 := p_oa__703.push ef_880 nq_879
  have p_aa__704 := p_aa__704.push ef_880 nq_879
  have p_pa__697 := p_pa__697.push ef_880 nq_879
  have p_fe__698 := p_fe__698.push ef_880 nq_879
  have p_cl__699 := p_cl__699.push ef_880 nq_879
  have p_wo__700 := p_wo__700.push ef_880 nq_879
  have p_si__701 := p_si__701.push ef_880 nq_879
  have p_we__702 := p_we__702.push ef_880 nq_879
  have p_c__705 := p_c__705.push ef_880 nq_879
  have p_c__706 := p_c__706.push ef_880 nq_879
  have p_c__707 := p_c__707.push ef_880 nq_879
  have p_c__708 := p_c__708.push ef_880 nq_879
  have p_c__709 := p_c__709.push ef_880 nq_879
  have p_s__710 := p_s__710.push ef_880 nq_879
  have p_lf__713 := p_lf__713.push ef_880 nq_879
  have p_lt__714 := p_lt__714.push ef_880 nq_879
  have p_q_849 := p_q_849.push ef_880 nq_879
  have p_a__853 := p_a__853.push ef_880 nq_879
  have p_a__854 := p_a__854.push ef_880 nq_879
  have p_a__855 := p_a__855.push ef_880 nq_879
  have p_a__856 := p_a__856.push ef_880 nq_879
  have p_q_866 := p_q_866.push ef_880 nq_879
  have p_q_873 := p_q_873.push ef_880 nq_879
  have p_q_879 := pt.new (L := L_875) ef_880
  refine lv_dup hx hb dX11_init_79 rfl ?_
  refine lv_aload_n hx hb dX11_init_80 rfl (lv_at hl 1 rfl) ?_
  refine pg_get S Y ok_X11 0 (by decide) kf11_13 (v := .ref q_601) p_h rfl dX11_init_81 ?_
  refine lv_aload_n hx hb dX11_init_84 rfl (lv_at hl 1 rfl) ?_
  refine pg_get S Y ok_X11 3 (by decide) kf11_34 (v := .ref q_866) p_h rfl dX11_init_85 ?_
  refine lv_aload_n hx hb dX11_init_88 rfl (lv_at hl 1 rfl) ?_
  refine pg_get S Y ok_X11 4 (by decide) kf11_41 (v := .ref q_873) p_h rfl dX11_init_89 ?_
  refine cIv (b := q_879) (As := [.ref q_601, .ref q_866, .ref q_873]) (rest := [.ref q_879, .ref h]) S Y (c_X1_init (l := l) p_q_879) cw_X1_init km11_47 rfl ⟨Nat.le_of_ble_eq_true rfl, Nat.le_of_ble_eq_true rfl⟩ hl.1 rfl (Nat.le_of_ble_eq_true rfl) ⟨Nat.le_of_ble_eq_true rfl, Nat.le_of_ble_eq_true rfl⟩ dX11_init_92 (fun L_881 f_882 H locs hf_882 Y => ?_)
  obtain ⟨a__883, kf_882, z_z_884⟩ := hf_882
  have p_h := kf_882.1 h _ (nmc (p_h.neK p_q_879 (by decide)) nm0) p_h
  have p_q_588 := kf_882.1 q_588 _ (nmc (p_q_588.neK p_q_879 (by decide)) nm0) p_q_588
  have p_a__592 := kf_882.1 a__592 _ (nmc (p_a__592.neB p_q_879) nm0) p_a__592
  have p_a__593 := kf_882.1 a__593 _ (nmc (p_a__593.neB p_q_879) nm0) p_a__593
  have p_q_601 := kf_882.1 q_601 _ (nmc (p_q_601.neK p_q_879 (by decide)) nm0) p_q_601
  have p_ta__605 := kf_882.1 ta__605 _ (nmc (p_ta__605.neB p_q_879) nm0) p_ta__605
  have p_ag__606 := kf_882.1 ag__606 _ (nmc (p_ag__606.neB p_q_879) nm0) p_ag__606
  have p_sc__607 := kf_882.1 sc__607 _ (nmc (p_sc__607.neB p_q_879) nm0) p_sc__607
  have p_nw__608 := kf_882.1 nw__608 _ (nmc (p_nw__608.neK p_q_879 (by decide)) nm0) p_nw__608
  have p_oa__615 := kf_882.1 oa__615 _ (nmc (p_oa__615.neB p_q_879) nm0) p_oa__615
  have p_aa__616 := kf_882.1 aa__616 _ (nmc (p_aa__616.neB p_q_879) nm0) p_aa__616
  have p_pa__609 := kf_882.1 pa__609 _ (nmc (p_pa__609.neB p_q_879) nm0) p_pa__609
  have p_fe__610 := kf_882.1 fe__610 _ (nmc (p_fe__610.neK p_q_879 (by decide)) nm0) p_fe__610
  have p_cl__611 := kf_882.1 cl__611 _ (nmc (p_cl__611.neK p_q_879 (by decide)) nm0) p_cl__611
  have p_wo__612 := kf_882.1 wo__612 _ (nmc (p_wo__612.neK p_q_879 (by decide)) nm0) p_wo__612
  have p_si__613 := kf_882.1 si__613 _ (nmc (p_si__613.neK p_q_879 (by decide)) nm0) p_si__613
  have p_we__614 := kf_882.1 we__614 _ (nmc (p_we__614.neK p_q_879 (by decide)) nm0) p_we__614
  have p_c__617 := kf_882.1 c__617 _ (nmc (p_c__617.neB p_q_879) nm0) p_c__617
  have p_c__618 := kf_882.1 c__618 _ (nmc (p_c__618.neB p_q_879) nm0) p_c__618
  have p_c__619 := kf_882.1 c__619 _ (nmc (p_c__619.neB p_q_879) nm0) p_c__619
  have p_c__620 := kf_882.1 c__620 _ (nmc (p_c__620.neB p_q_879) nm0) p_c__620
  have p_c__621 := kf_882.1 c__621 _ (nmc (p_c__621.neB p_q_879) nm0) p_c__621
  have p_s__622 := kf_882.1 s__622 _ (nmc (p_s__622.neK p_q_879 (by decide)) nm0) p_s__622
  have p_lf__625 := kf_882.1 lf__625 _ (nmc (p_lf__625.neB p_q_879) nm0) p_lf__625
  have p_lt__626 := kf_882.1 lt__626 _ (nmc (p_lt__626.neB p_q_879) nm0) p_lt__626
  have p_q_689 := kf_882.1 q_689 _ (nmc (p_q_689.neK p_q_879 (by decide)) nm0) p_q_689
  have p_ta__693 := kf_882.1 ta__693 _ (nmc (p_ta__693.neB p_q_879) nm0) p_ta__693
  have p_ag__694 := kf_882.1 ag__694 _ (nmc (p_ag__694.neB p_q_879) nm0) p_ag__694
  have p_sc__695 := kf_882.1 sc__695 _ (nmc (p_sc__695.neB p_q_879) nm0) p_sc__695
  have p_nw__696 := kf_882.1 nw__696 _ (nmc (p_nw__696.neK p_q_879 (by decide)) nm0) p_nw__696
  have p_oa__703 := kf_882.1 oa__703 _ (nmc (p_oa__703.neB p_q_879) nm0) p_oa__703
  have p_aa__704 := kf_882.1 aa__704 _ (nmc (p_aa__704.neB p_q_879) nm0) p_aa__704
  have p_pa__697 := kf_882.1 pa__697 _ (nmc (p_pa__697.neB p_q_879) nm0) p_pa__697
  have p_fe__698 := kf_882.1 fe__698 _ (nmc (p_fe__698.neK p_q_879 (by decide)) nm0) p_fe__698
  have p_cl__699 := kf_882.1 cl__699 _ (nmc (p_cl__699.neK p_q_879 (by decide)) nm0) p_cl__699
  have p_wo__700 := kf_882.1 wo__700 _ (nmc (p_wo__700.neK p_q_879 (by decide)) nm0) p_wo__700
  have p_si__701 := kf_882.1 si__701 _ (nmc (p_si__701.neK p_q_879 (by decide)) nm0) p_si__701
  have p_we__702 := kf_882.1 we__702 _ (nmc (p_we__702.neK p_q_879 (by decide)) nm0) p_we__702
  have p_c__705 := kf_882.1 c__705 _ (nmc (p_c__705.neB p_q_879) nm0) p_c__705
  have p_c__706 := kf_882.1 c__706 _ (nmc (p_c__706.neB p_q_879) nm0) p_c__706
  have p_c__707 := kf_882.1 c__707 _ (nmc (p_c__707.neB p_q_879) nm0) p_c__707
  have p_c__708 := kf_882.1 c__708 _ (nmc (p_c__708.neB p_q_879) nm0) p_c__708
  have p_c__709 := kf_882.1 c__709 _ (nmc (p_c__709.neB p_q_879) nm0) p_c__709
  have p_s__710 := kf_882.1 s__710 _ (nmc (p_s__710.neK p_q_879 (by decide)) nm0) p_s__710
  have p_lf__713 := kf_882.1 lf__713 _ (nmc (p_lf__713.neB p_q_879) nm0) p_lf__713
  have p_lt__714 := kf_882.1 lt__714 _ (nmc (p_lt__714.neB p_q_879) nm0) p_lt__714
  have p_q_849 := kf_882.1 q_849 _ (nmc (p_q_849.neK p_q_879 (by decide)) nm0) p_q_849
  have p_a__853 := kf_882.1 a__853 _ (nmc (p_a__853.neB p_q_879) nm0) p_a__853
  have p_a__854 := kf_882.1 a__854 _ (nmc (p_a__854.neB p_q_879) nm0) p_a__854
  have p_a__855 := kf_882.1 a__855 _ (nmc (p_a__855.neB p_q_879) nm0) p_a__855
  have p_a__856 := kf_882.1 a__856 _ (nmc (p_a__856.neB p_q_879) nm0) p_a__856
  have p_q_866 := kf_882.1 q_866 _ (nmc (p_q_866.neK p_q_879 (by decide)) nm0) p_q_866
  have p_q_873 := kf_882.1 q_873 _ (nmc (p_q_873.neK p_q_879 (by decide)) nm0) p_q_873
  have p_q_879 := z_z_884
  have hk := hk.call kf_882 (fun b hb hp => (nmc (neL hp whkq_879) nm0))
  have hkT := hkT.call kf_882 (fun b hb hp => (nmc (neL hp whkTq_879) nm0))
  have hkU := hkU.call kf_882 (fun b hb hp => (nmc (neL hp whkUq_879) nm0))
  refine pg_putF S Y hname ok_X11 5 (by decide) kf11_50 rfl rfl (fs' := [.ref q_601, .ref q_689, .ref q_849, .ref q_866, .ref q_873, .ref q_879, .null, .null, .null]) (v := .ref q_879) p_h rfl rfl rfl (Nat.le_of_ble_eq_true rfl) dX11_init_95 (fun f_885 H locs ef_885 Y => ?_)
  have p_q_588 := p_q_588.up ef_885 ((p_q_588.neK p_h (by decide)))
  have p_a__592 := p_a__592.up ef_885 ((p_a__592.neB p_h))
  have p_a__593 := p_a__593.up ef_885 ((p_a__593.neB p_h))
  have p_q_601 := p_q_601.up ef_885 ((p_q_601.neK p_h (by decide)))
  have p_ta__605 := p_ta__605.up ef_885 ((p_ta__605.neB p_h))
  have p_ag__606 := p_ag__606.up ef_885 ((p_ag__606.neB p_h))
  have p_sc__607 := p_sc__607.up ef_885 ((p_sc__607.neB p_h))
  have p_nw__608 := p_nw__608.up ef_885 ((p_nw__608.neK p_h (by decide)))
  have p_oa__615 := p_oa__615.up ef_885 ((p_oa__615.neB p_h))
  have p_aa__616 := p_aa__616.up ef_885 ((p_aa__616.neB p_h))
  have p_pa__609 := p_pa__609.up ef_885 ((p_pa__609.neB p_h))
  have p_fe__610 := p_fe__610.up ef_885 ((p_fe__610.neK p_h (by decide)))
  have p_cl__611 := p_cl__611.up ef_885 ((p_cl__611.neK p_h (by decide)))
  have p_wo__612 := p_wo__612.up ef_885 ((p_wo__612.neK p_h (by decide)))
  have p_si__613 := p_si__613.up ef_885 ((p_si__613.neK p_h (by decide)))
  have p_we__614 := p_we__614.up ef_885 ((p_we__614.neK p_h (by decide)))
  have p_c__617 := p_c__617.up ef_885 ((p_c__617.neB p_h))
  have p_c__618 := p_c__618.up ef_885 ((p_c__618.neB p_h))
  have p_c__619 := p_c__619.up ef_885 ((p_c__619.neB p_h))
  have p_c__620 := p_c__620.up ef_885 ((p_c__620.neB p_h))
  have p_c__621 := p_c__621.up ef_885 ((p_c__621.neB p_h))
  have p_s__622 := p_s__622.up ef_885 ((p_s__622.neK p_h (by decide)))
  have p_lf__625 := p_lf__625.up ef_885 ((p_lf__625.neB p_h))
  have p_lt__626 := p_lt__626.up ef_885 ((p_lt__626.neB p_h))
  have p_q_689 := p_q_689.up ef_885 ((p_q_689.neK p_h (by decide)))
  have p_ta__693 := p_ta__693.up ef_885 ((p_ta__693.neB p_h))
  have p_ag__694 := p_ag__694.up ef_885 ((p_ag__694.neB p_h))
  have p_sc__695 := p_sc__695.up ef_885 ((p_sc__695.neB p_h))
  have p_nw__696 := p_nw__696.up ef_885 ((p_nw__696.neK p_h (by decide)))
  have p_oa__703 := p_oa__703.up ef_885 ((p_oa__703.neB p_h))
  have p_aa__704 := p_aa__704.up ef_885 ((p_aa__704.neB p_h))
  have p_pa__697 := p_pa__697.up ef_885 ((p_pa__697.neB p_h))
  have p_fe__698 := p_fe__698.up ef_885 ((p_fe__698.neK p_h (by decide)))
  have p_cl__699 := p_cl__699.up ef_885 ((p_cl__699.neK p_h (by decide)))
  have p_wo__700 := p_wo__700.up ef_885 ((p_wo__700.neK p_h (by decide)))
  have p_si__701 := p_si__701.up ef_885 ((p_si__701.neK p_h (by decide)))
  have p_we__702 := p_we__702.up ef_885 ((p_we__702.neK p_h (by decide)))
  have p_c__705 := p_c__705.up ef_885 ((p_c__705.neB p_h))
  have p_c__706 := p_c__706.up ef_885 ((p_c__706.neB p_h))
  have p_c__707 := p_c__707.up ef_885 ((p_c__707.neB p_h))
  have p_c__708 := p_c__708.up ef_885 ((p_c__708.neB p_h))
  have p_c__709 := p_c__709.up ef_885 ((p_c__709.neB p_h))
  have p_s__710 := p_s__710.up ef_885 ((p_s__710.neK p_h (by decide)))
  have p_lf__713 := p_lf__713.up ef_885 ((p_lf__713.neB p_h))
  have p_lt__714 := p_lt__714.up ef_885 ((p_lt__714.neB p_h))
  have p_q_849 := p_q_849.up ef_885 ((p_q_849.neK p_h (by decide)))
  have p_a__853 := p_a__853.up ef_885 ((p_a__853.neB p_h))
  have p_a__854 := p_a__854.up ef_885 ((p_a__854.neB p_h))
  have p_a__855 := p_a__855.up ef_885 ((p_a__855.neB p_h))
  have p_a__856 := p_a__856.up ef_885 ((p_a__856.neB p_h))
  have p_q_866 := p_q_866.up ef_885 ((p_q_866.neK p_h (by decide)))
  have p_q_873 := p_q_873.up ef_885 ((p_q_873.neK p_h (by decide)))
  have p_q_879 := p_q_879.up ef_885 ((p_q_879.neK p_h (by decide)))
  have p_h := p_h.me ef_885
  have hk := hk.up ef_885 (by simp)
  have hkT := hkT.up ef_885 (by simp)
  have hkU := hkU.up ef_885 (by simp)
  refine lv_aload_n hx hb dX11_init_98 rfl (lv_at hl 1 rfl) ?_
  refine pg_new S Y ok_X2 kc11_54 kn2 ki2 (fs := [.null, .null, .null, .null]) (by decide) (by decide) (by decide) dX11_init_99 (fun q_886 f_887 H nq_886 ef_887 Y => ?_)
  have whkq_886 := hk.notin nq_886
  have hk := hk.push ef_887 nq_886
  have whkTq_886 := hkT.notin nq_886
  have hkT := hkT.push ef_887 nq_886
  have whkUq_886 := hkU.notin nq_886
  have hkU := hkU.push ef_887 nq_886
  have p_h := p_h.push ef_887 nq_886
  have p_q_588 := p_q_588.push ef_887 nq_886
  have p_a__592 := p_a__592.push ef_887 nq_886
  have p_a__593 := p_a__593.push ef_887 nq_886
  have p_q_601 := p_q_601.push ef_887 nq_886
  have p_ta__605 := p_ta__605.push ef_887 nq_886
  have p_ag__606 := p_ag__606.push ef_887 nq_886
  have p_sc__607 := p_sc__607.push ef_887 nq_886
  have p_nw__608 := p_nw__608.push ef_887 nq_886
  have p_oa__615 := p_oa__615.push ef_887 nq_886
  have p_aa__616 := p_aa__616.push ef_887 nq_886
  have p_pa__609 := p_pa__609.push ef_887 nq_886
  have p_fe__610 := p_fe__610.push ef_887 nq_886
  have p_cl__611 := p_cl__611.push ef_887 nq_886
  have p_wo__612 := p_wo__612.push ef_887 nq_886
  have p_si__613 := p_si__613.push ef_887 nq_886
  have p_we__614 := p_we__614.push ef_887 nq_886
  have p_c__617 := p_c__617.push ef_887 nq_886
  have p_c__618 := p_c__618.push ef_887 nq_886
  have p_c__619 := p_c__619.push ef_887 nq_886
  have p_c__620 := p_c__620.push ef_887 nq_886
  have p_c__621 := p_c__621.push ef_887 nq_886
  have p_s__622 := p_s__622.push ef_887 nq_886
  have p_lf__625 := p_lf__625.push ef_887 nq_886
  have p_lt__626 := p_lt__626.push ef_887 nq_886
  have p_q_689 := p_q_689.push ef_887 nq_886
  have p_ta__693 := p_ta__693.push ef_887 nq_886
  have p_ag__694 := p_ag__694.push ef_887 nq_886
  have p_sc__695 := p_sc__695.push ef_887 nq_886
  have p_nw__696 := p_nw__696.push ef_887 nq_886
  have p_oa__703 := p_oa__703.push ef_887 nq_886
  have p_aa__704 := p_aa__704.push ef_887 nq_886
  have p_pa__697 := p_pa__697.push ef_887 nq_886
  have p_fe__698 := p_fe__698.push ef_887 nq_886
  have p_cl__699 := p_cl__699.push ef_887 nq_886
  have p_wo__700 := p_wo__700.push ef_887 nq_886
  have p_si__701 := p_si__701.push ef_887 nq_886
  have p_we__702 := p_we__702.push ef_887 nq_886
  have p_c__705 := p_c__705.push ef_887 nq_886
  have p_c__706 := p_c__706.push ef_887 nq_886
  have p_c__707 := p_c__707.push ef_887 nq_886
  have p_c__708 := p_c__708.push ef_887 nq_886
  have p_c__709 := p_c__709.push ef_887 nq_886
  have p_s__710 := p_s__710.push ef_887 nq_886
  have p_lf__713 := p_lf__713.push ef_887 nq_886
  have p_lt__714 := p_lt__714.push ef_887 nq_886
  have p_q_849 := p_q_849.push ef_887 nq_886
  have p_a__853 := p_a__853.push ef_887 nq_886
  have p_a__854 := p_a__854.push ef_887 nq_886
  have p_a__855 := p_a__855.push ef_887 nq_886
  have p_a__856 := p_a__856.push ef_887 nq_886
  have p_q_866 := p_q_866.push ef_887 nq_886
  have p_q_873 := p_q_873.push ef_887 nq_886
  have p_q_879 := p_q_879.push ef_887 nq_886
  have p_q_886 := pt.new (L := L_881) ef_887
  refine lv_dup hx hb dX11_init_102 rfl ?_
  refine lv_aload_n hx hb dX11_init_103 rfl (lv_at hl 1 rfl) ?_
  refine pg_get S Y ok_X11 0 (by decide) kf11_13 (v := .ref q_601) p_h rfl dX11_init_104 ?_
  refine lv_aload_n hx hb dX11_init_107 rfl (lv_at hl 1 rfl) ?_
  refine pg_get S Y ok_X11 3 (by decide) kf11_34 (v := .ref q_866) p_h rfl dX11_init_108 ?_
  refine lv_aload_n hx hb dX11_init_111 rfl (lv_at hl 1 rfl) ?_
  refine pg_get S Y ok_X11 5 (by decide) kf11_50 (v := .ref q_879) p_h rfl dX11_init_112 ?_
  refine lv_aload_n hx hb dX11_init_115 rfl (lv_at hl 0 rfl) ?_
  refine cIv (b := q_886) (As := [.ref q_601, .ref q_866, .ref q_879, .ref q_588]) (rest := [.ref q_886, .ref h]) S Y (c_X2_init (l := l) p_q_886) cw_X2_init km11_56 rfl ⟨Nat.le_of_ble_eq_true rfl, Nat.le_of_ble_eq_true rfl⟩ hl.1 rfl (Nat.le_of_ble_eq_true rfl) ⟨Nat.le_of_ble_eq_true rfl, Nat.le_of_ble_eq_true rfl⟩ dX11_init_116 (fun L_888 f_889 H locs hf_889 Y => ?_)
  obtain ⟨kf_889, z_z_890⟩ := hf_889
  have p_h := kf_889.1 h _ (nmc (p_h.neK p_q_886 (by decide)) nm0) p_h
  have p_q_588 := kf_889.1 q_588 _ (nmc (p_q_588.neK p_q_886 (by decide)) nm0) p_q_588
  have p_a__592 := kf_889.1 a__592 _ (nmc (p_a__592.neB p_q_886) nm0) p_a__592
  have p_a__593 := kf_889.1 a__593 _ (nmc (p_a__593.neB p_q_886) nm0) p_a__593
  have p_q_601 := kf_889.1 q_601 _ (nmc (p_q_601.neK p_q_886 (by decide)) nm0) p_q_601
  have p_ta__605 := kf_889.1 ta__605 _ (nmc (p_ta__605.neB p_q_886) nm0) p_ta__605
  have p_ag__606 := kf_889.1 ag__606 _ (nmc (p_ag__606.neB p_q_886) nm0) p_ag__606
  have p_sc__607 := kf_889.1 sc__607 _ (nmc (p_sc__607.neB p_q_886) nm0) p_sc__607
  have p_nw__608 := kf_889.1 nw__608 _ (nmc (p_nw__608.neK p_q_886 (by decide)) nm0) p_nw__608
  have p_oa__615 := kf_889.1 oa__615 _ (nmc (p_oa__615.neB p_q_886) nm0) p_oa__615
  have p_aa__616 := kf_889.1 aa__616 _ (nmc (p_aa__616.neB p_q_886) nm0) p_aa__616
  have p_pa__609 := kf_889.1 pa__609 _ (nmc (p_pa__609.neB p_q_886) nm0) p_pa__609
  have p_fe__610 := kf_889.1 fe__610 _ (nmc (p_fe__610.neK p_q_886 (by decide)) nm0) p_fe__610
  have p_cl__611 := kf_889.1 cl__611 _ (nmc (p_cl__611.neK p_q_886 (by decide)) nm0) p_cl__611
  have p_wo__612 := kf_889.1 wo__612 _ (nmc (p_wo__612.neK p_q_886 (by decide)) nm0) p_wo__612
  have p_si__613 := kf_889.1 si__613 _ (nmc (p_si__613.neK p_q_886 (by decide)) nm0) p_si__613
  have p_we__614 := kf_889.1 we__614 _ (nmc (p_we__614.neK p_q_886 (by decide)) nm0) p_we__614
  have p_c__617 := kf_889.1 c__617 _ (nmc (p_c__617.neB p_q_886) nm0) p_c__617
  have p_c__618 := kf_889.1 c__618 _ (nmc (p_c__618.neB p_q_886) nm0) p_c__618
  have p_c__619 := kf_889.1 c__619 _ (nmc (p_c__619.neB p_q_886) nm0) p_c__619
  have p_c__620 := kf_889.1 c__620 _ (nmc (p_c__620.neB p_q_886) nm0) p_c__620
  have p_c__621 := kf_889.1 c__621 _ (nmc (p_c__621.neB p_q_886) nm0) p_c__621
  have p_s__622 := kf_889.1 s__622 _ (nmc (p_s__622.neK p_q_886 (by decide)) nm0) p_s__622
  have p_lf__625 := kf_889.1 lf__625 _ (nmc (p_lf__625.neB p_q_886) nm0) p_lf__625
  have p_lt__626 := kf_889.1 lt__626 _ (nmc (p_lt__626.neB p_q_886) nm0) p_lt__626
  have p_q_689 := kf_889.1 q_689 _ (nmc (p_q_689.neK p_q_886 (by decide)) nm0) p_q_689
  have p_ta__693 := kf_889.1 ta__693 _ (nmc (p_ta__693.neB p_q_886) nm0) p_ta__693
  have p_ag__694 := kf_889.1 ag__694 _ (nmc (p_ag__694.neB p_q_886) nm0) p_ag__694
  have p_sc__695 := kf_889.1 sc__695 _ (nmc (p_sc__695.neB p_q_886) nm0) p_sc__695
  have p_nw__696 := kf_889.1 nw__696 _ (nmc (p_nw__696.neK p_q_886 (by decide)) nm0) p_nw__696
  have p_oa__703 := kf_889.1 oa__703 _ (nmc (p_oa__703.neB p_q_886) nm0) p_oa__703
  have p_aa__704 := kf_889.1 aa__704 _ (nmc (p_aa__704.neB p_q_886) nm0) p_aa__704
  have p_pa__697 := kf_889.1 pa__697 _ (nmc (p_pa__697.neB p_q_886) nm0) p_pa__697
  have p_fe__698 := kf_889.1 fe__698 _ (nmc (p_fe__698.neK p_q_886 (by decide)) nm0) p_fe__698
  have p_cl__699 := kf_889.1 cl__699 _ (nmc (p_cl__699.neK p_q_886 (by decide)) nm0) p_cl__699
  have p_wo__700 := kf_889.1 wo__700 _ (nmc (p_wo__700.neK p_q_886 (by decide)) nm0) p_wo__700
  have p_si__701 := kf_889.1 si__701 _ (nmc (p_si__701.neK p_q_886 (by decide)) nm0) p_si__701
  have p_we__702 := kf_889.1 we__702 _ (nmc (p_we__702.neK p_q_886 (by decide)) nm0) p_we__702
  have p_c__705 := kf_889.1 c__705 _ (nmc (p_c__705.neB p_q_886) nm0) p_c__705
  have p_c__706 := kf_889.1 c__706 _ (nmc (p_c__706.neB p_q_886) nm0) p_c__706
  have p_c__707 := kf_889.1 c__707 _ (nmc (p_c__707.neB p_q_886) nm0) p_c__707
  have p_c__708 := kf_889.1 c__708 _ (nmc (p_c__708.neB p_q_886) nm0) p_c__708
  have p_c__709 := kf_889.1 c__709 _ (nmc (p_c__709.neB p_q_886) nm0) p_c__709
  have p_s__710 := kf_889.1 s__710 _ (nmc (p_s__710.neK p_q_886 (by decide)) nm0) p_s__710
  have p_lf__713 := kf_889.1 lf__713 _ (nmc (p_lf__713.neB p_q_886) nm0) p_lf__713
  have p_lt__714 := kf_889.1 lt__714 _ (nmc (p_lt__714.neB p_q_886) nm0) p_lt__714
  have p_q_849 := kf_889.1 q_849 _ (nmc (p_q_849.neK p_q_886 (by decide)) nm0) p_q_849
  have p_a__853 := kf_889.1 a__853 _ (nmc (p_a__853.neB p_q_886) nm0) p_a__853
  have p_a__854 := kf_889.1 a__854 _ (nmc (p_a__854.neB p_q_886) nm0) p_a__854
  have p_a__855 := kf_889.1 a__855 _ (nmc (p_a__855.neB p_q_886) nm0) p_a__855
  have p_a__856 := kf_889.1 a__856 _ (nmc (p_a__856.neB p_q_886) nm0) p_a__856
  have p_q_866 := kf_889.1 q_866 _ (nmc (p_q_866.neK p_q_886 (by decide)) nm0) p_q_866
  have p_q_873 := kf_889.1 q_873 _ (nmc (p_q_873.neK p_q_886 (by decide)) nm0) p_q_873
  have p_q_879 := kf_889.1 q_879 _ (nmc (p_q_879.neK p_q_886 (by decide)) nm0) p_q_879
  have p_q_886 := z_z_890
  have hk := hk.call kf_889 (fun b hb hp => (nmc (neL hp whkq_886) nm0))
  have hkT := hkT.call kf_889 (fun b hb hp => (nmc (neL hp whkTq_886) nm0))
  have hkU := hkU.call kf_889 (fun b hb hp => (nmc (neL hp whkUq_886) nm0))
  refine pg_putF S Y hname ok_X11 6 (by decide) kf11_59 rfl rfl (fs' := [.ref q_601, .ref q_689, .ref q_849, .ref q_866, .ref q_873, .ref q_879, .ref q_886, .null, .null]) (v := .ref q_886) p_h rfl rfl rfl (Nat.le_of_ble_eq_true rfl) dX11_init_119 (fun f_891 H locs ef_891 Y => ?_)
  have p_q_588 := p_q_588.up ef_891 ((p_q_588.neK p_h (by decide)))
  have p_a__592 := p_a__592.up ef_891 ((p_a__592.neB p_h))
  have p_a__593 := p_a__593.up ef_891 ((p_a__593.neB p_h))
  have p_q_601 := p_q_601.up ef_891 ((p_q_601.neK p_h (by decide)))
  have p_ta__605 := p_ta__605.up ef_891 ((p_ta__605.neB p_h))
  have p_ag__606 := p_ag__606.up ef_891 ((p_ag__606.neB p_h))
  have p_sc__607 := p_sc__607.up ef_891 ((p_sc__607.neB p_h))
  have p_nw__608 := p_nw__608.up ef_891 ((p_nw__608.neK p_h (by decide)))
  have p_oa__615 := p_oa__615.up ef_891 ((p_oa__615.neB p_h))
  have p_aa__616 := p_aa__616.up ef_891 ((p_aa__616.neB p_h))
  have p_pa__609 := p_pa__609.up ef_891 ((p_pa__609.neB p_h))
  have p_fe__610 := p_fe__610.up ef_891 ((p_fe__610.neK p_h (by decide)))
  have p_cl__611 := p_cl__611.up ef_891 ((p_cl__611.neK p_h (by decide)))
  have p_wo__612 := p_wo__612.up ef_891 ((p_wo__612.neK p_h (by decide)))
  have p_si__613 := p_si__613.up ef_891 ((p_si__613.neK p_h (by decide)))
  have p_we__614 := p_we__614.up ef_891 ((p_we__614.neK p_h (by decide)))
  have p_c__617 := p_c__617.up ef_891 ((p_c__617.neB p_h))
  have p_c__618 := p_c__618.up ef_891 ((p_c__618.neB p_h))
  have p_c__619 := p_c__619.up ef_891 ((p_c__619.neB p_h))
  have p_c__620 := p_c__620.up ef_891 ((p_c__620.neB p_h))
  have p_c__621 := p_c__621.up ef_891 ((p_c__621.neB p_h))
  have p_s__622 := p_s__622.up ef_891 ((p_s__622.neK p_h (by decide)))
  have p_lf__625 := p_lf__625.up ef_891 ((p_lf__625.neB p_h))
  have p_lt__626 := p_lt__626.up ef_891 ((p_lt__626.neB p_h))
  have p_q_689 := p_q_689.up ef_891 ((p_q_689.neK p_h (by decide)))
  have p_ta__693 := p_ta__693.up ef_891 ((p_ta__693.neB p_h))
  have p_ag__694 := p_ag__694.up ef_891 ((p_ag__694.neB p_h))
  have p_sc__695 := p_sc__695.up ef_891 ((p_sc__695.neB p_h))
  have p_nw__696 := p_nw__696.up ef_891 ((p_nw__696.neK p_h (by decide)))
  have p_oa__703 := p_oa__703.up ef_891 ((p_oa__703.neB p_h))
  have p_aa__704 := p_aa__704.up ef_891 ((p_aa__704.neB p_h))
  have p_pa__697 := p_pa__697.up ef_891 ((p_pa__697.neB p_h))
  have p_fe__698 := p_fe__698.up ef_891 ((p_fe__698.neK p_h (by decide)))
  have p_cl__699 := p_cl__699.up ef_891 ((p_cl__699.neK p_h (by decide)))
  have p_wo__700 := p_wo__700.up ef_891 ((p_wo__700.neK p_h (by decide)))
  have p_si__701 := p_si__701.up ef_891 ((p_si__701.neK p_h (by decide)))
  have p_we__702 := p_we__702.up ef_891 ((p_we__702.neK p_h (by decide)))
  have p_c__705 := p_c__705.up ef_891 ((p_c__705.neB p_h))
  have p_c__706 := p_c__706.up ef_891 ((p_c__706.neB p_h))
  have p_c__707 := p_c__707.up ef_891 ((p_c__707.neB p_h))
  have p_c__708 := p_c__708.up ef_891 ((p_c__708.neB p_h))
  have p_c__709 := p_c__709.up ef_891 ((p_c__709.neB p_h))
  have p_s__710 := p_s__710.up ef_891 ((p_s__710.neK p_h (by decide)))
  have p_lf__713 := p_lf__713.up ef_891 ((p_lf__713.neB p_h))
  have p_lt__714 := p_lt__714.up ef_891 ((p_lt__714.neB p_h))
  have p_q_849 := p_q_849.up ef_891 ((p_q_849.neK p_h (by decide)))
  have p_a__853 := p_a__853.up ef_891 ((p_a__853.neB p_h))
  have p_a__854 := p_a__854.up ef_891 ((p_a__854.neB p_h))
  have p_a__855 := p_a__855.up ef_891 ((p_a__855.neB p_h))
  have p_a__856 := p_a__856.up ef_891 ((p_a__856.neB p_h))
  have p_q_866 := p_q_866.up ef_891 ((p_q_866.neK p_h (by decide)))
  have p_q_873 := p_q_873.up ef_891 ((p_q_873.neK p_h (by decide)))
  have p_q_879 := p_q_879.up ef_891 ((p_q_879.neK p_h (by decide)))
  have p_q_886 := p_q_886.up ef_891 ((p_q_886.neK p_h (by decide)))
  have p_h := p_h.me ef_891
  have hk := hk.up ef_891 (by simp)
  have hkT := hkT.up ef_891 (by simp)
  have hkU := hkU.up ef_891 (by simp)
  refine lv_aload_n hx hb dX11_init_122 rfl (lv_at hl 1 rfl) ?_
  refine pg_new S Y ok_X8 kc11_63 kn8 ki8 (fs := [.null, .null, .null, .null, .null, .null, .null, .int 0, .int 0, .int 0]) (by decide) (by decide) (by decide) dX11_init_123 (fun q_892 f_893 H nq_892 ef_893 Y => ?_)
  have whkq_892 := hk.notin nq_892
  have hk := hk.push ef_893 nq_892
  have whkTq_892 := hkT.notin nq_892
  have hkT := hkT.push ef_893 nq_892
  have whkUq_892 := hkU.notin nq_892
  have hkU := hkU.push ef_893 nq_892
  have p_h := p_h.push ef_893 nq_892
  have p_q_588 := p_q_588.push ef_893 nq_892
  have p_a__592 := p_a__592.push ef_893 nq_892
  have p_a__593 := p_a__593.push ef_893 nq_892
  have p_q_601 := p_q_601.push ef_893 nq_892
  have p_ta__605 := p_ta__605.push ef_893 nq_892
  have p_ag__606 := p_ag__606.push ef_893 nq_892
  have p_sc__607 := p_sc__607.push ef_893 nq_892
  have p_nw__608 := p_nw__608.push ef_893 nq_892
  have p_oa__615 := p_oa__615.push ef_893 nq_892
  have p_aa__616 := p_aa__616.push ef_893 nq_892
  have p_pa__609 := p_pa__609.push ef_893 nq_892
  have p_fe__610 := p_fe__610.push ef_893 nq_892
  have p_cl__611 := p_cl__611.push ef_893 nq_892
  have p_wo__612 := p_wo__612.push ef_893 nq_892
  have p_si__613 := p_si__613.push ef_893 nq_892
  have p_we__614 := p_we__614.push ef_893 nq_892
  have p_c__617 := p_c__617.push ef_893 nq_892
  have p_c__618 := p_c__618.push ef_893 nq_892
  have p_c__619 := p_c__619.push ef_893 nq_892
  have p_c__620 := p_c__620.push ef_893 nq_892
  have p_c__621 := p_c__621.push ef_893 nq_892
  have p_s__622 := p_s__622.push ef_893 nq_892
  have p_lf__625 := p_lf__625.push ef_893 nq_892
  have p_lt__626 := p_lt__626.push ef_893 nq_892
  have p_q_689 := p_q_689.push ef_893 nq_892
  have p_ta__693 := p_ta__693.push ef_893 nq_892
  have p_ag__694 := p_ag__694.push ef_893 nq_892
  have p_sc__695 := p_sc__695.push ef_893 nq_892
  have p_nw__696 := p_nw__696.push ef_893 nq_892
  have p_oa__703 := p_oa__703.push ef_893 nq_892
  have p_aa__704 := p_aa__704.push ef_893 nq_892
  have p_pa__697 := p_pa__697.push ef_893 nq_892
  have p_fe__698 := p_fe__698.push ef_893 nq_892
  have p_cl__699 := p_cl__699.push ef_893 nq_892
  have p_wo__700 := p_wo__700.push ef_893 nq_892
  have p_si__701 := p_si__701.push ef_893 nq_892
  have p_we__702 := p_we__702.push ef_893 nq_892
  have p_c__705 := p_c__705.push ef_893 nq_892
  have p_c__706 := p_c__706.push ef_893 nq_892
  have p_c__707 := p_c__707.push ef_893 nq_892
  have p_c__708 := p_c__708.push ef_893 nq_892
  have p_c__709 := p_c__709.push ef_893 nq_892
  have p_s__710 := p_s__710.push ef_893 nq_892
  have p_lf__713 := p_lf__713.push ef_893 nq_892
  have p_lt__714 := p_lt__714.push ef_893 nq_892
  have p_q_849 := p_q_849.push ef_893 nq_892
  have p_a__853 := p_a__853.push ef_893 nq_892
  have p_a__854 := p_a__854.push ef_893 nq_892
  have p_a__855 := p_a__855.push ef_893 nq_892
  have p_a__856 := p_a__856.push ef_893 nq_892
  have p_q_866 := p_q_866.push ef_893 nq_892
  have p_q_873 := p_q_873.push ef_893 nq_892
  have p_q_879 := p_q_879.push ef_893 nq_892
  have p_q_886 := p_q_886.push ef_893 nq_892
  have p_q_892 := pt.new (L := L_888) ef_893
  refine lv_dup hx hb dX11_init_126 rfl ?_
  refine lv_aload_n hx hb dX11_init_127 rfl (lv_at hl 1 rfl) ?_
  refine pg_get S Y ok_X11 0 (by decide) kf11_13 (v := .ref q_601) p_h rfl dX11_init_128 ?_
  refine lv_aload_n hx hb dX11_init_131 rfl (lv_at hl 1 rfl) ?_
  refine pg_get S Y ok_X11 3 (by decide) kf11_34 (v := .ref q_866) p_h rfl dX11_init_132 ?_
  refine lv_aload_n hx hb dX11_init_135 rfl (lv_at hl 0 rfl) ?_
  refine cIv (b := q_892) (As := [.ref q_601, .ref q_866, .ref q_588]) (rest := [.ref q_892, .ref h]) S Y (c_X8_init (l := l) p_q_892) cw_X8_init km11_65 rfl ⟨Nat.le_of_ble_eq_true rfl, Nat.le_of_ble_eq_true rfl⟩ hl.1 rfl (Nat.le_of_ble_eq_true rfl) ⟨Nat.le_of_ble_eq_true rfl, Nat.le_of_ble_eq_true rfl⟩ dX11_init_136 (fun L_894 f_895 H locs hf_895 Y => ?_)
  have kf_895 := hf_895
  have p_h := kf_895.1 h _ (nmc (p_h.neK p_q_892 (by decide)) nm0) p_h
  have p_q_588 := kf_895.1 q_588 _ (nmc (p_q_588.neK p_q_892 (by decide)) nm0) p_q_588
  have p_a__592 := kf_895.1 a__592 _ (nmc (p_a__592.neB p_q_892) nm0) p_a__592
  have p_a__593 := kf_895.1 a__593 _ (nmc (p_a__593.neB p_q_892) nm0) p_a__593
  have p_q_601 := kf_895.1 q_601 _ (nmc (p_q_601.neK p_q_892 (by decide)) nm0) p_q_601
  have p_ta__605 := kf_895.1 ta__605 _ (nmc (p_ta__605.neB p_q_892) nm0) p_ta__605
  have p_ag__606 := kf_895.1 ag__606 _ (nmc (p_ag__606.neB p_q_892) nm0) p_ag__606
  have p_sc__607 := kf_895.1 sc__607 _ (nmc (p_sc__607.neB p_q_892) nm0) p_sc__607
  have p_nw__608 := kf_895.1 nw__608 _ (nmc (p_nw__608.neK p_q_892 (by decide)) nm0) p_nw__608
  have p_oa__615 := kf_895.1 oa__615 _ (nmc (p_oa__615.neB p_q_892) nm0) p_oa__615
  have p_aa__616 := kf_895.1 aa__616 _ (nmc (p_aa__616.neB p_q_892) nm0) p_aa__616
  have p_pa__609 := kf_895.1 pa__609 _ (nmc (p_pa__609.neB p_q_892) nm0) p_pa__609
  have p_fe__610 := kf_895.1 fe__610 _ (nmc (p_fe__610.neK p_q_892 (by decide)) nm0) p_fe__610
  have p_cl__611 := kf_895.1 cl__611 _ (nmc (p_cl__611.neK p_q_892 (by decide)) nm0) p_cl__611
  have p_wo__612 := kf_895.1 wo__612 _ (nmc (p_wo__612.neK p_q_892 (by decide)) nm0) p_wo__612
  have p_si__613 := kf_895.1 si__613 _ (nmc (p_si__613.neK p_q_892 (by decide)) nm0) p_si__613
  have p_we__614 := kf_895.1 we__614 _ (nmc (p_we__614.neK p_q_892 (by decide)) nm0) p_we__614
  have p_c__617 := kf_895.1 c__617 _ (nmc (p_c__617.neB p_q_892) nm0) p_c__617
  have p_c__618 := kf_895.1 c__618 _ (nmc (p_c__618.neB p_q_892) nm0) p_c__618
  have p_c__619 := kf_895.1 c__619 _ (nmc (p_c__619.neB p_q_892) nm0) p_c__619
  have p_c__620 := kf_895.1 c__620 _ (nmc (p_c__620.neB p_q_892) nm0) p_c__620
  have p_c__621 := kf_895.1 c__621 _ (nmc (p_c__621.neB p_q_892) nm0) p_c__621
  have p_s__622 := kf_895.1 s__622 _ (nmc (p_s__622.neK p_q_892 (by decide)) nm0) p_s__622
  have p_lf__625 := kf_895.1 lf__625 _ (nmc (p_lf__625.neB p_q_892) nm0) p_lf__625
  have p_lt__626 := kf_895.1 lt__626 _ (nmc (p_lt__626.neB p_q_892) nm0) p_lt__626
  have p_q_689 := kf_895.1 q_689 _ (nmc (p_q_689.neK p_q_892 (by decide)) nm0) p_q_689
  have p_ta__693 := kf_895.1 ta__693 _ (nmc (p_ta__693.neB p_q_892) nm0) p_ta__693
  have p_ag__694 := kf_895.1 ag__694 _ (nmc (p_ag__694.neB p_q_892) nm0) p_ag__694
  have p_sc__695 := kf_895.1 sc__695 _ (nmc (p_sc__695.neB p_q_892) nm0) p_sc__695
  have p_nw__696 := kf_895.1 nw__696 _ (nmc (p_nw__696.neK p_q_892 (by decide)) nm0) p_nw__696
  have p_oa__703 := kf_895.1 oa__703 _ (nmc (p_oa__703.neB p_q_892) nm0) p_oa__703
  have p_aa__704 := kf_895.1 aa__704 _ (nmc (p_aa__704.neB p_q_892) nm0) p_aa__704
  have p_pa__697 := kf_895.1 pa__697 _ (nmc (p_pa__697.neB p_q_892) nm0) p_pa__697
  have p_fe__698 := kf_895.1 fe__698 _ (nmc (p_fe__698.neK p_q_892 (by decide)) nm0) p_fe__698
  have p_cl__699 := kf_895.1 cl__699 _ (nmc (p_cl__699.neK p_q_892 (by decide)) nm0) p_cl__699
  have p_wo__700 := kf_895.1 wo__700 _ (nmc (p_wo__700.neK p_q_892 (by decide)) nm0) p_wo__700
  have p_si__701 := kf_895.1 si__701 _ (nmc (p_si__701.neK p_q_892 (by decide)) nm0) p_si__701
  have p_we__702 := kf_895.1 we__702 _ (nmc (p_we__702.neK p_q_892 (by decide)) nm0) p_we__702
  have p_c__705 := kf_895.1 c__705 _ (nmc (p_c__705.neB p_q_892) nm0) p_c__705
  have p_c__706 := kf_895.1 c__706 _ (nmc (p_c__706.neB p_q_892) nm0) p_c__706
  have p_c__707 := kf_895.1 c__707 _ (nmc (p_c__707.neB p_q_892) nm0) p_c__707
  have p_c__708 := kf_895.1 c__708 _ (nmc (p_c__708.neB p_q_892) nm0) p_c__708
  have p_c__709 := kf_895.1 c__709 _ (nmc (p_c__709.neB p_q_892) nm0) p_c__709
  have p_s__710 := kf_895.1 s__710 _ (nmc (p_s__710.neK p_q_892 (by decide)) nm0) p_s__710
  have p_lf__713 := kf_895.1 lf__713 _ (nmc (p_lf__713.neB p_q_892) nm0) p_lf__713
  have p_lt__714 := kf_895.1 lt__714 _ (nmc (p_lt__714.neB p_q_892) nm0) p_lt__714
  have p_q_849 := kf_895.1 q_849 _ (nmc (p_q_849.neK p_q_892 (by decide)) nm0) p_q_849
  have p_a__853 := kf_895.1 a__853 _ (nmc (p_a__853.neB p_q_892) nm0) p_a__853
  have p_a__854 := kf_895.1 a__854 _ (nmc (p_a__854.neB p_q_892) nm0) p_a__854
  have p_a__855 := kf_895.1 a__855 _ (nmc (p_a__855.neB p_q_892) nm0) p_a__855
  have p_a__856 := kf_895.1 a__856 _ (nmc (p_a__856.neB p_q_892) nm0) p_a__856
  have p_q_866 := kf_895.1 q_866 _ (nmc (p_q_866.neK p_q_892 (by decide)) nm0) p_q_866
  have p_q_873 := kf_895.1 q_873 _ (nmc (p_q_873.neK p_q_892 (by decide)) nm0) p_q_873
  have p_q_879 := kf_895.1 q_879 _ (nmc (p_q_879.neK p_q_892 (by decide)) nm0) p_q_879
  have p_q_886 := kf_895.1 q_886 _ (nmc (p_q_886.neK p_q_892 (by decide)) nm0) p_q_886
  have hk := hk.call kf_895 (fun b hb hp => (nmc (neL hp whkq_892) nm0))
  have hkT := hkT.call kf_895 (fun b hb hp => (nmc (neL hp whkTq_892) nm0))
  have hkU := hkU.call kf_895 (fun b hb hp => (nmc (neL hp whkUq_892) nm0))
  refine pg_putF S Y hname ok_X11 7 (by decide) kf11_68 rfl rfl (fs' := [.ref q_601, .ref q_689, .ref q_849, .ref q_866, .ref q_873, .ref q_879, .ref q_886, .ref q_892, .null]) (v := .ref q_892) p_h rfl rfl rfl (Nat.le_of_ble_eq_true rfl) dX11_init_139 (fun f_896 H locs ef_896 Y => ?_)
  have p_q_588 := p_q_588.up ef_896 ((p_q_588.neK p_h (by decide)))
  have p_a__592 := p_a__592.up ef_896 ((p_a__592.neB p_h))
  have p_a__593 := p_a__593.up ef_896 ((p_a__593.neB p_h))
  have p_q_601 := p_q_601.up ef_896 ((p_q_601.neK p_h (by decide)))
  have p_ta__605 := p_ta__605.up ef_896 ((p_ta__605.neB p_h))
  have p_ag__606 := p_ag__606.up ef_896 ((p_ag__606.neB p_h))
  have p_sc__607 := p_sc__607.up ef_896 ((p_sc__607.neB p_h))
  have p_nw__608 := p_nw__608.up ef_896 ((p_nw__608.neK p_h (by decide)))
  have p_oa__615 := p_oa__615.up ef_896 ((p_oa__615.neB p_h))
  have p_aa__616 := p_aa__616.up ef_896 ((p_aa__616.neB p_h))
  have p_pa__609 := p_pa__609.up ef_896 ((p_pa__609.neB p_h))
  have p_fe__610 := p_fe__610.up ef_896 ((p_fe__610.neK p_h (by decide)))
  have p_cl__611 := p_cl__611.up ef_896 ((p_cl__611.neK p_h (by decide)))
  have p_wo__612 := p_wo__612.up ef_896 ((p_wo__612.neK p_h (by decide)))
  have p_si__613 := p_si__613.up ef_896 ((p_si__613.neK p_h (by decide)))
  have p_we__614 := p_we__614.up ef_896 ((p_we__614.neK p_h (by decide)))
  have p_c__617 := p_c__617.up ef_896 ((p_c__617.neB p_h))
  have p_c__618 := p_c__618.up ef_896 ((p_c__618.neB p_h))
  have p_c__619 := p_c__619.up ef_896 ((p_c__619.neB p_h))
  have p_c__620 := p_c__620.up ef_896 ((p_c__620.neB p_h))
  have p_c__621 := p_c__621.up ef_896 ((p_c__621.neB p_h))
  have p_s__622 := p_s__622.up ef_896 ((p_s__622.neK p_h (by decide)))
  have p_lf__625 := p_lf__625.up ef_896 ((p_lf__625.neB p_h))
  have p_lt__626 := p_lt__626.up ef_896 ((p_lt__626.neB p_h))
  have p_q_689 := p_q_689.up ef_896 ((p_q_689.neK p_h (by decide)))
  have p_ta__693 := p_ta__693.up ef_896 ((p_ta__693.neB p_h))
  have p_ag__694 := p_ag__694.up ef_896 ((p_ag__694.neB p_h))
  have p_sc__695 := p_sc__695.up ef_896 ((p_sc__695.neB p_h))
  have p_nw__696 := p_nw__696.up ef_896 ((p_nw__696.neK p_h (by decide)))
  have p_oa__703 := p_oa__703.up ef_896 ((p_oa__703.neB p_h))
  have p_aa__704 := p_aa__704.up ef_896 ((p_aa__704.neB p_h))
  have p_pa__697 := p_pa__697.up ef_896 ((p_pa__697.neB p_h))
  have p_fe__698 := p_fe__698.up ef_896 ((p_fe__698.neK p_h (by decide)))
  have p_cl__699 := p_cl__699.up ef_896 ((p_cl__699.neK p_h (by decide)))
  have p_wo__700 := p_wo__700.up ef_896 ((p_wo__700.neK p_h (by decide)))
  have p_si__701 := p_si__701.up ef_896 ((p_si__701.neK p_h (by decide)))
  have p_we__702 := p_we__702.up ef_896 ((p_we__702.neK p_h (by decide)))
  have p_c__705 := p_c__705.up ef_896 ((p_c__705.neB p_h))
  have p_c__706 := p_c__706.up ef_896 ((p_c__706.neB p_h))
  have p_c__707 := p_c__707.up ef_896 ((p_c__707.neB p_h))
  have p_c__708 := p_c__708.up ef_896 ((p_c__708.neB p_h))
  have p_c__709 := p_c__709.up ef_896 ((p_c__709.neB p_h))
  have p_s__710 := p_s__710.up ef_896 ((p_s__710.neK p_h (by decide)))
  have p_lf__713 := p_lf__713.up ef_896 ((p_lf__713.neB p_h))
  have p_lt__714 := p_lt__714.up ef_896 ((p_lt__714.neB p_h))
  have p_q_849 := p_q_849.up ef_896 ((p_q_849.neK p_h (by decide)))
  have p_a__853 := p_a__853.up ef_896 ((p_a__853.neB p_h))
  have p_a__854 := p_a__854.up ef_896 ((p_a__854.neB p_h))
  have p_a__855 := p_a__855.up ef_896 ((p_a__855.neB p_h))
  have p_a__856 := p_a__856.up ef_896 ((p_a__856.neB p_h))
  have p_q_866 := p_q_866.up ef_896 ((p_q_866.neK p_h (by decide)))
  have p_q_873 := p_q_873.up ef_896 ((p_q_873.neK p_h (by decide)))
  have p_q_879 := p_q_879.up ef_896 ((p_q_879.neK p_h (by decide)))
  have p_q_886 := p_q_886.up ef_896 ((p_q_886.neK p_h (by decide)))
  have p_h := p_h.me ef_896
  have hk := hk.up ef_896 (by simp)
  have hkT := hkT.up ef_896 (by simp)
  have hkU := hkU.up ef_896 (by simp)
  refine lv_aload_n hx hb dX11_init_142 rfl (lv_at hl 1 rfl) ?_
  refine pg_new S Y ok_X0 kc11_72 kn0 ki0 (fs := [.null, .null, .null]) (by decide) (by decide) (by decide) dX11_init_143 (fun q_897 f_898 H nq_897 ef_898 Y => ?_)
  have whkq_897 := hk.notin nq_897
  have hk := hk.push ef_898 nq_897
  have whkTq_897 := hkT.notin nq_897
  have hkT := hkT.push ef_898 nq_897
  have whkUq_897 := hkU.notin nq_897
  have hkU := hkU.push ef_898 nq_897
  have p_h := p_h.push ef_898 nq_897
  have p_q_588 := p_q_588.push ef_898 nq_897
  have p_a__592 := p_a__592.push ef_898 nq_897
  have p_a__593 := p_a__593.push ef_898 nq_897
  have p_q_601 := p_q_601.push ef_898 nq_897
  have p_ta__605 := p_ta__605.push ef_898 nq_897
  have p_ag__606 := p_ag__606.push ef_898 nq_897
  have p_sc__607 := p_sc__607.push ef_898 nq_897
  have p_nw__608 := p_nw__608.push ef_898 nq_897
  have p_oa__615 := p_oa__615.push ef_898 nq_897
  have p_aa__616 := p_aa__616.push ef_898 nq_897
  have p_pa__609 := p_pa__609.push ef_898 nq_897
  have p_fe__610 := p_fe__610.push ef_898 nq_897
  have p_cl__611 := p_cl__611.push ef_898 nq_897
  have p_wo__612 := p_wo__612.push ef_898 nq_897
  have p_si__613 := p_si__613.push ef_898 nq_897
  have p_we__614 := p_we__614.push ef_898 nq_897
  have p_c__617 := p_c__617.push ef_898 nq_897
  have p_c__618 := p_c__618.push ef_898 nq_897
  have p_c__619 := p_c__619.push ef_898 nq_897
  have p_c__620 := p_c__620.push ef_898 nq_897
  have p_c__621 := p_c__621.push ef_898 nq_897
  have p_s__622 := p_s__622.push ef_898 nq_897
  have p_lf__625 := p_lf__625.push ef_898 nq_897
  have p_lt__626 := p_lt__626.push ef_898 nq_897
  have p_q_689 := p_q_689.push ef_898 nq_897
  have p_ta__693 := p_ta__693.push ef_898 nq_897
  have p_ag__694 := p_ag__694.push ef_898 nq_897
  have p_sc__695 := p_sc__695.push ef_898 nq_897
  have p_nw__696 := p_nw__696.push ef_898 nq_897
  have p_oa__703 := p_oa__703.push ef_898 nq_897
  have p_aa__704 := p_aa__704.push ef_898 nq_897
  have p_pa__697 := p_pa__697.push ef_898 nq_897
  have p_fe__698 := p_fe__698.push ef_898 nq_897
  have p_cl__699 := p_cl__699.push ef_898 nq_897
  have p_wo__700 := p_wo__700.push ef_898 nq_897
  have p_si__701 := p_si__701.push ef_898 nq_897
  have p_we__702 := p_we__702.push ef_898 nq_897
  have p_c__705 := p_c__705.push ef_898 nq_897
  have p_c__706 := p_c__706.push ef_898 nq_897
  have p_c__707 := p_c__707.push ef_898 nq_897
  have p_c__708 := p_c__708.push ef_898 nq_897
  have p_c__709 := p_c__709.push ef_898 nq_897
  have p_s__710 := p_s__710.push ef_898 nq_897
  have p_lf__713 := p_lf__713.push ef_898 nq_897
  have p_lt__714 := p_lt__714.push ef_898 nq_897
  have p_q_849 := p_q_849.push ef_898 nq_897
  have p_a__853 := p_a__853.push ef_898 nq_897
  have p_a__854 := p_a__854.push ef_898 nq_897
  have p_a__855 := p_a__855.push ef_898 nq_897
  have p_a__856 := p_a__856.push ef_898 nq_897
  have p_q_866 := p_q_866.push ef_898 nq_897
  have p_q_873 := p_q_873.push ef_898 nq_897
  have p_q_879 := p_q_879.push ef_898 nq_897
  have p_q_886 := p_q_886.push ef_898 nq_897
  have p_q_897 := pt.new (L := L_894) ef_898
  refine lv_dup hx hb dX11_init_146 rfl ?_
  refine lv_aload_n hx hb dX11_init_147 rfl (lv_at hl 1 rfl) ?_
  refine pg_get S Y ok_X11 0 (by decide) kf11_13 (v := .ref q_601) p_h rfl dX11_init_148 ?_
  refine cIv (b := q_897) (As := [.ref q_601]) (rest := [.ref q_897, .ref h]) S Y (c_X0_init (l := l) p_q_897) cw_X0_init km11_74 rfl ⟨Nat.le_of_ble_eq_true rfl, Nat.le_of_ble_eq_true rfl⟩ hl.1 rfl (Nat.le_of_ble_eq_true rfl) ⟨Nat.le_of_ble_eq_true rfl, Nat.le_of_ble_eq_true rfl⟩ dX11_init_151 (fun L_899 f_900 H locs hf_900 Y => ?_)
  obtain ⟨a__901, a__902, kf_900, z_z_903⟩ := hf_900
  have p_h := kf_900.1 h _ (nmc (p_h.neK p_q_897 (by decide)) nm0) p_h
  have p_q_588 := kf_900.1 q_588 _ (nmc (p_q_588.neK p_q_897 (by decide)) nm0) p_q_588
  have p_a__592 := kf_900.1 a__592 _ (nmc (p_a__592.neB p_q_897) nm0) p_a__592
  have p_a__593 := kf_900.1 a__593 _ (nmc (p_a__593.neB p_q_897) nm0) p_a__593
  have p_q_601 := kf_900.1 q_601 _ (nmc (p_q_601.neK p_q_897 (by decide)) nm0) p_q_601
  have p_ta__605 := kf_900.1 ta__605 _ (nmc (p_ta__605.neB p_q_897) nm0) p_ta__605
  have p_ag__606 := kf_900.1 ag__606 _ (nmc (p_ag__606.neB p_q_897) nm0) p_ag__606
  have p_sc__607 := kf_900.1 sc__607 _ (nmc (p_sc__607.neB p_q_897) nm0) p_sc__607
  have p_nw__608 := kf_900.1 nw__608 _ (nmc (p_nw__608.neK p_q_897 (by decide)) nm0) p_nw__608
  have p_oa__615 := kf_900.1 oa__615 _ (nmc (p_oa__615.neB p_q_897) nm0) p_oa__615
  have p_aa__616 := kf_900.1 aa__616 _ (nmc (p_aa__616.neB p_q_897) nm0) p_aa__616
  have p_pa__609 := kf_900.1 pa__609 _ (nmc (p_pa__609.neB p_q_897) nm0) p_pa__609
  have p_fe__610 := kf_900.1 fe__610 _ (nmc (p_fe__610.neK p_q_897 (by decide)) nm0) p_fe__610
  have p_cl__611 := kf_900.1 cl__611 _ (nmc (p_cl__611.neK p_q_897 (by decide)) nm0) p_cl__611
  have p_wo__612 := kf_900.1 wo__612 _ (nmc (p_wo__612.neK p_q_897 (by decide)) nm0) p_wo__612
  have p_si__613 := kf_900.1 si__613 _ (nmc (p_si__613.neK p_q_897 (by decide)) nm0) p_si__613
  have p_we__614 := kf_900.1 we__614 _ (nmc (p_we__614.neK p_q_897 (by decide)) nm0) p_we__614
  have p_c__617 := kf_900.1 c__617 _ (nmc (p_c__617.neB p_q_897) nm0) p_c__617
  have p_c__618 := kf_900.1 c__618 _ (nmc (p_c__618.neB p_q_897) nm0) p_c__618
  have p_c__619 := kf_900.1 c__619 _ (nmc (p_c__619.neB p_q_897) nm0) p_c__619
  have p_c__620 := kf_900.1 c__620 _ (nmc (p_c__620.neB p_q_897) nm0) p_c__620
  have p_c__621 := kf_900.1 c__621 _ (nmc (p_c__621.neB p_q_897) nm0) p_c__621
  have p_s__622 := kf_900.1 s__622 _ (nmc (p_s__622.neK p_q_897 (by decide)) nm0) p_s__622
  have p_lf__625 := kf_900.1 lf__625 _ (nmc (p_lf__625.neB p_q_897) nm0) p_lf__625
  have p_lt__626 := kf_900.1 lt__626 _ (nmc (p_lt__626.neB p_q_897) nm0) p_lt__626
  have p_q_689 := kf_900.1 q_689 _ (nmc (p_q_689.neK p_q_897 (by decide)) nm0) p_q_689
  have p_ta__693 := kf_900.1 ta__693 _ (nmc (p_ta__693.neB p_q_897) nm0) p_ta__693
  have p_ag__694 := kf_900.1 ag__694 _ (nmc (p_ag__694.neB p_q_897) nm0) p_ag__694
  have p_sc__695 := kf_900.1 sc__695 _ (nmc (p_sc__695.neB p_q_897) nm0) p_sc__695
  have p_nw__696 := kf_900.1 nw__696 _ (nmc (p_nw__696.neK p_q_897 (by decide)) nm0) p_nw__696
  have p_oa__703 := kf_900.1 oa__703 _ (nmc (p_oa__703.neB p_q_897) nm0) p_oa__703
  have p_aa__704 := kf_900.1 aa__704 _ (nmc (p_aa__704.neB p_q_897) nm0) p_aa__704
  have p_pa__697 := kf_900.1 pa__697 _ (nmc (p_pa__697.neB p_q_897) nm0) p_pa__697
  have p_fe__698 := kf_900.1 fe__698 _ (nmc (p_fe__698.neK p_q_897 (by decide)) nm0) p_fe__698
  have p_cl__699 := kf_900.1 cl__699 _ (nmc (p_cl__699.neK p_q_897 (by decide)) nm0) p_cl__699
  have p_wo__700 := kf_900.1 wo__700 _ (nmc (p_wo__700.neK p_q_897 (by decide)) nm0) p_wo__700
  have p_si__701 := kf_900.1 si__701 _ (nmc (p_si__701.neK p_q_897 (by decide)) nm0) p_si__701
  have p_we__702 := kf_900.1 we__702 _ (nmc (p_we__702.neK p_q_897 (by decide)) nm0) p_we__702
  have p_c__705 := kf_900.1 c__705 _ (nmc (p_c__705.neB p_q_897) nm0) p_c__705
  have p_c__706 := kf_900.1 c__706 _ (nmc (p_c__706.neB p_q_897) nm0) p_c__706
  have p_c__707 := kf_900.1 c__707 _ (nmc (p_c__707.neB p_q_897) nm0) p_c__707
  have p_c__708 := kf_900.1 c__708 _ (nmc (p_c__708.neB p_q_897) nm0) p_c__708
  have p_c__709 := kf_900.1 c__709 _ (nmc (p_c__709.neB p_q_897) nm0) p_c__709
  have p_s__710 := kf_900.1 s__710 _ (nmc (p_s__710.neK p_q_897 (by decide)) nm0) p_s__710
  have p_lf__713 := kf_900.1 lf__713 _ (nmc (p_lf__713.neB p_q_897) nm0) p_lf__713
  have p_lt__714 := kf_900.1 lt__714 _ (nmc (p_lt__714.neB p_q_897) nm0) p_lt__714
  have p_q_849 := kf_900.1 q_849 _ (nmc (p_q_849.neK p_q_897 (by decide)) nm0) p_q_849
  have p_a__853 := kf_900.1 a__853 _ (nmc (p_a__853.neB p_q_897) nm0) p_a__853
  have p_a__854 := kf_900.1 a__854 _ (nmc (p_a__854.neB p_q_897) nm0) p_a__854
  have p_a__855 := kf_900.1 a__855 _ (nmc (p_a__855.neB p_q_897) nm0) p_a__855
  have p_a__856 := kf_900.1 a__856 _ (nmc (p_a__856.neB p_q_897) nm0) p_a__856
  have p_q_866 := kf_900.1 q_866 _ (nmc (p_q_866.neK p_q_897 (by decide)) nm0) p_q_866
  have p_q_873 := kf_900.1 q_873 _ (nmc (p_q_873.neK p_q_897 (by decide)) nm0) p_q_873
  have p_q_879 := kf_900.1 q_879 _ (nmc (p_q_879.neK p_q_897 (by decide)) nm0) p_q_879
  have p_q_886 := kf_900.1 q_886 _ (nmc (p_q_886.neK p_q_897 (by decide)) nm0) p_q_886
  have p_q_897 := z_z_903
  have hk := hk.call kf_900 (fun b hb hp => (nmc (neL hp whkq_897) nm0))
  have hkT := hkT.call kf_900 (fun b hb hp => (nmc (neL hp whkTq_897) nm0))
  have hkU := hkU.call kf_900 (fun b hb hp => (nmc (neL hp whkUq_897) nm0))
  refine pg_putF S Y hname ok_X11 8 (by decide) kf11_75 rfl rfl (fs' := [.ref q_601, .ref q_689, .ref q_849, .ref q_866, .ref q_873, .ref q_879, .ref q_886, .ref q_892, .ref q_897]) (v := .ref q_897) p_h rfl rfl rfl (Nat.le_of_ble_eq_true rfl) dX11_init_154 (fun f_904 H locs ef_904 Y => ?_)
  have p_q_588 := p_q_588.up ef_904 ((p_q_588.neK p_h (by decide)))
  have p_a__592 := p_a__592.up ef_904 ((p_a__592.neB p_h))
  have p_a__593 := p_a__593.up ef_904 ((p_a__593.neB p_h))
  have p_q_601 := p_q_601.up ef_904 ((p_q_601.neK p_h (by decide)))
  have p_ta__605 := p_ta__605.up ef_904 ((p_ta__605.neB p_h))
  have p_ag__606 := p_ag__606.up ef_904 ((p_ag__606.neB p_h))
  have p_sc__607 := p_sc__607.up ef_904 ((p_sc__607.neB p_h))
  have p_nw__608 := p_nw__608.up ef_904 ((p_nw__608.neK p_h (by decide)))
  have p_oa__615 := p_oa__615.up ef_904 ((p_oa__615.neB p_h))
  have p_aa__616 := p_aa__616.up ef_904 ((p_aa__616.neB p_h))
  have p_pa__609 := p_pa__609.up ef_904 ((p_pa__609.neB p_h))
  have p_fe__610 := p_fe__610.up ef_904 ((p_fe__610.neK p_h (by decide)))
  have p_cl__611 := p_cl__611.up ef_904 ((p_cl__611.neK p_h (by decide)))
  have p_wo__612 := p_wo__612.up ef_904 ((p_wo__612.neK p_h (by decide)))
  have p_si__613 := p_si__613.up ef_904 ((p_si__613.neK p_h (by decide)))
  have p_we__614 := p_we__614.up ef_904 ((p_we__614.neK p_h (by decide)))
  have p_c__617 := p_c__617.up ef_904 ((p_c__617.neB p_h))
  have p_c__618 := p_c__618.up ef_904 ((p_c__618.neB p_h))
  have p_c__619 := p_c__619.up ef_904 ((p_c__619.neB p_h))
  have p_c__620 := p_c__620.up ef_904 ((p_c__620.neB p_h))
  have p_c__621 := p_c__621.up ef_904 ((p_c__621.neB p_h))
  have p_s__622 := p_s__622.up ef_904 ((p_s__622.neK p_h (by decide)))
  have p_lf__625 := p_lf__625.up ef_904 ((p_lf__625.neB p_h))
  have p_lt__626 := p_lt__626.up ef_904 ((p_lt__626.neB p_h))
  have p_q_689 := p_q_689.up ef_904 ((p_q_689.neK p_h (by decide)))
  have p_ta__693 := p_ta__693.up ef_904 ((p_ta__693.neB p_h))
  have p_ag__694 := p_ag__694.up ef_904 ((p_ag__694.neB p_h))
  have p_sc__695 := p_sc__695.up ef_904 ((p_sc__695.neB p_h))
  have p_nw__696 := p_nw__696.up ef_904 ((p_nw__696.neK p_h (by decide)))
  have p_oa__703 := p_oa__703.up ef_904 ((p_oa__703.neB p_h))
  have p_aa__704 := p_aa__704.up ef_904 ((p_aa__704.neB p_h))
  have p_pa__697 := p_pa__697.up ef_904 ((p_pa__697.neB p_h))
  have p_fe__698 := p_fe__698.up ef_904 ((p_fe__698.neK p_h (by decide)))
  have p_cl__699 := p_cl__699.up ef_904 ((p_cl__699.neK p_h (by decide)))
  have p_wo__700 := p_wo__700.up ef_904 ((p_wo__700.neK p_h (by decide)))
  have p_si__701 := p_si__701.up ef_904 ((p_si__701.neK p_h (by decide)))
  have p_we__702 := p_we__702.up ef_904 ((p_we__702.neK p_h (by decide)))
  have p_c__705 := p_c__705.up ef_904 ((p_c__705.neB p_h))
  have p_c__706 := p_c__706.up ef_904 ((p_c__706.neB p_h))
  have p_c__707 := p_c__707.up ef_904 ((p_c__707.neB p_h))
  have p_c__708 := p_c__708.up ef_904 ((p_c__708.neB p_h))
  have p_c__709 := p_c__709.up ef_904 ((p_c__709.neB p_h))
  have p_s__710 := p_s__710.up ef_904 ((p_s__710.neK p_h (by decide)))
  have p_lf__713 := p_lf__713.up ef_904 ((p_lf__713.neB p_h))
  have p_lt__714 := p_lt__714.up ef_904 ((p_lt__714.neB p_h))
  have p_q_849 := p_q_849.up ef_904 ((p_q_849.neK p_h (by decide)))
  have p_a__853 := p_a__853.up ef_904 ((p_a__853.neB p_h))
  have p_a__854 := p_a__854.up ef_904 ((p_a__854.neB p_h))
  have p_a__855 := p_a__855.up ef_904 ((p_a__855.neB p_h))
  have p_a__856 := p_a__856.up ef_904 ((p_a__856.neB p_h))
  have p_q_866 := p_q_866.up ef_904 ((p_q_866.neK p_h (by decide)))
  have p_q_873 := p_q_873.up ef_904 ((p_q_873.neK p_h (by decide)))
  have p_q_879 := p_q_879.up ef_904 ((p_q_879.neK p_h (by decide)))
  have p_q_886 := p_q_886.up ef_904 ((p_q_886.neK p_h (by decide)))
  have p_q_897 := p_q_897.up ef_904 ((p_q_897.neK p_h (by decide)))
  have p_h := p_h.me ef_904
  have hk := hk.up ef_904 (by simp)
  have hkT := hkT.up ef_904 (by simp)
  have hkU := hkU.up ef_904 (by simp)
  exact prV (post := fun L1 f1 => ∃ w : Nat, ∃ ta : Nat, ∃ ag : Nat, ∃ sc : Nat, ∃ nw : Nat, ∃ pa : Nat, ∃ fe : Nat, ∃ cl : Nat, ∃ wo : Nat, ∃ si : Nat, ∃ we : Nat, ∃ oa : Nat, ∃ aa : Nat, ∃ c1 : Nat, ∃ c2 : Nat, ∃ c3 : Nat, ∃ c4 : Nat, ∃ c5 : Nat, ∃ s0 : Nat, ∃ dg : Nat, ∃ nu : Nat, ∃ lf : Nat, ∃ lt : Nat, ∃ cs : Nat, ∃ sf : Nat → Option Nat, ∃ pf : Nat → Option Nat, ∃ k : Nat, ∃ k_ta : Nat, ∃ k_ag : Nat, ∃ k_sc : Nat, ∃ k_nw : Nat, ∃ k_pa : Nat, ∃ k_fe : Nat, ∃ k_cl : Nat, ∃ k_wo : Nat, ∃ k_si : Nat, ∃ k_we : Nat, ∃ k_oa : Nat, ∃ k_aa : Nat, ∃ k_c1 : Nat, ∃ k_c2 : Nat, ∃ k_c3 : Nat, ∃ k_c4 : Nat, ∃ k_c5 : Nat, ∃ k_s0 : Nat, ∃ k_dg : Nat, ∃ k_nu : Nat, ∃ k_lf : Nat, ∃ k_lt : Nat, ∃ k_cs : Nat, ∃ k_sf : Nat → Option Nat, ∃ k_pf : Nat → Option Nat, ∃ sl : Nat, ∃ slo : Nat, ∃ sla : Nat, ∃ rd : Nat, ∃ tp : Nat, ∃ ki : Nat, ∃ pl : Nat, ∃ va : Nat, ∃ jd : Nat, ∃ jst : Nat, ∃ rg : Nat, ∃ dd : Nat, ∃ mo : Nat, ∃ fo : Nat, ∃ su : Nat, ∃ ch : Nat, ∃ pr : Nat, ∃ kn : Nat, ∃ LT : List Nat, kp L f L1 f1 [h] ∧ pt L1 f1 h (.inr (11, [.ref w, .ref k, .ref rd, .ref jd, .ref rg, .ref dd, .ref fo, .ref su, .ref ch])) ∧ pt L1 f1 w (.inr (10, [.ref ta, .ref ag, .ref sc, .ref nw, .ref pa, .ref fe, .ref cl, .ref wo, .ref si, .ref we, .int 0, .int 0, .int (-1), .int 0, .int 0])) ∧ pt L1 f1 ta (.inl (G.2 0, 6, .inl (fun _ => 0))) ∧ pt L1 f1 ag (.inl (G.2 0, 6, .inl (fun _ => 0))) ∧ pt L1 f1 sc (.inl (G.2 4, 4, .inr (.inr (.inr (.inr sf))))) ∧ pt L1 f1 nw (.inr (4, [.ref oa, .ref aa, .int 0, .int 0, .int 0, .int 0, .int 137])) ∧ pt L1 f1 oa (.inl (G.2 0, 98, .inl (fun _ => 0))) ∧ pt L1 f1 aa (.inl (G.2 0, 90, .inl (fun _ => 0))) ∧ pt L1 f1 pa (.inl (G.2 3, 30, .inr (.inr (.inr (.inr pf))))) ∧ pt L1 f1 fe (.inr (9, [.ref c1, .int 6, .int 0])) ∧ pt L1 f1 cl (.inr (9, [.ref c2, .int 8, .int 0])) ∧ pt L1 f1 wo (.inr (9, [.ref c3, .int 8, .int 0])) ∧ pt L1 f1 si (.inr (9, [.ref c4, .int 8, .int 0])) ∧ pt L1 f1 we (.inr (9, [.ref c5, .int 8, .int 0])) ∧ pt L1 f1 c1 (.inl (G.2 0, 24, .inl (fun _ => 0))) ∧ pt L1 f1 c2 (.inl (G.2 0, 24, .inl (fun _ => 0))) ∧ pt L1 f1 c3 (.inl (G.2 0, 24, .inl (fun _ => 0))) ∧ pt L1 f1 c4 (.inl (G.2 0, 24, .inl (fun _ => 0))) ∧ pt L1 f1 c5 (.inl (G.2 0, 24, .inl (fun _ => 0))) ∧ pt L1 f1 s0 (.inr (7, [.ref dg, .ref nu, .ref lf, .ref lt, .ref cs, .int 0, .int 0])) ∧ pt L1 f1 lf (.inl (G.2 0, 3, .inl (fun _ => 0))) ∧ pt L1 f1 lt (.inl (G.2 0, 3, .inl (fun _ => 0))) ∧ pt L1 f1 k (.inr (10, [.ref k_ta, .ref k_ag, .ref k_sc, .ref k_nw, .ref k_pa, .ref k_fe, .ref k_cl, .ref k_wo, .ref k_si, .ref k_we, .int 0, .int 0, .int (-1), .int 0, .int 0])) ∧ pt L1 f1 k_ta (.inl (G.2 0, 6, .inl (fun _ => 0))) ∧ pt L1 f1 k_ag (.inl (G.2 0, 6, .inl (fun _ => 0))) ∧ pt L1 f1 k_sc (.inl (G.2 4, 4, .inr (.inr (.inr (.inr k_sf))))) ∧ pt L1 f1 k_nw (.inr (4, [.ref k_oa, .ref k_aa, .int 0, .int 0, .int 0, .int 0, .int 137])) ∧ pt L1 f1 k_oa (.inl (G.2 0, 98, .inl (fun _ => 0))) ∧ pt L1 f1 k_aa (.inl (G.2 0, 90, .inl (fun _ => 0))) ∧ pt L1 f1 k_pa (.inl (G.2 3, 30, .inr (.inr (.inr (.inr k_pf))))) ∧ pt L1 f1 k_fe (.inr (9, [.ref k_c1, .int 6, .int 0])) ∧ pt L1 f1 k_cl (.inr (9, [.ref k_c2, .int 8, .int 0])) ∧ pt L1 f1 k_wo (.inr (9, [.ref k_c3, .int 8, .int 0])) ∧ pt L1 f1 k_si (.inr (9, [.ref k_c4, .int 8, .int 0])) ∧ pt L1 f1 k_we (.inr (9, [.ref k_c5, .int 8, .int 0])) ∧ pt L1 f1 k_c1 (.inl (G.2 0, 24, .inl (fun _ => 0))) ∧ pt L1 f1 k_c2 (.inl (G.2 0, 24, .inl (fun _ => 0))) ∧ pt L1 f1 k_c3 (.inl (G.2 0, 24, .inl (fun _ => 0))) ∧ pt L1 f1 k_c4 (.inl (G.2 0, 24, .inl (fun _ => 0))) ∧ pt L1 f1 k_c5 (.inl (G.2 0, 24, .inl (fun _ => 0))) ∧ pt L1 f1 k_s0 (.inr (7, [.ref k_dg, .ref k_nu, .ref k_lf, .ref k_lt, .ref k_cs, .int 0, .int 0])) ∧ pt L1 f1 k_lf (.inl (G.2 0, 3, .inl (fun _ => 0))) ∧ pt L1 f1 k_lt (.inl (G.2 0, 3, .inl (fun _ => 0))) ∧ pt L1 f1 sl (.inr (4, [.ref slo, .ref sla, .int 0, .int 0, .int 0, .int 0, .int 137])) ∧ pt L1 f1 slo (.inl (G.2 0, 98, .inl (fun _ => 0))) ∧ pt L1 f1 sla (.inl (G.2 0, 90, .inl (fun _ => 0))) ∧ pt L1 f1 rd (.inr (5, [.ref tp, .ref ki, .ref pl, .ref va, .int 0, .int 0, .int 0, .int 0, .int 0, .int 0, .int 0, .null, .int (-1), .int (-1)])) ∧ pt L1 f1 tp (.inl (G.2 0, 300, .inl (fun _ => 0))) ∧ pt L1 f1 ki (.inl (G.2 0, 301, .inl (fun _ => 0))) ∧ pt L1 f1 pl (.inl (G.2 0, 301, .inl (fun _ => 0))) ∧ pt L1 f1 va (.inl (G.2 0, 301, .inl (fun _ => 0))) ∧ pt L1 f1 jd (.inr (3, [.ref w, .ref jst, .int 0])) ∧ pt L1 f1 rg (.inr (6, [.ref w, .int 0])) ∧ pt L1 f1 dd (.inr (1, [.ref w, .ref jd, .ref rg, .ref mo, .int 0])) ∧ pt L1 f1 fo (.inr (2, [.ref w, .ref jd, .ref dd, .ref sl])) ∧ pt L1 f1 ch (.inr (0, [.ref w, .ref pr, .ref kn])) ∧ ta ≠ ag ∧ lf ≠ lt ∧ sf 0 = some s0 ∧ pastOK G L nw L1 f1 pf 30 ∧ pastOK G LT k_nw L1 f1 k_pf 30 ∧ ki ≠ pl ∧ ki ≠ va ∧ pl ≠ va ∧ sl ≠ nw ∧ (∀ j, j < 30 → ∀ o, pf j = some o → o ∈ LT) ∧ nw ∈ LT ∧ k_nw ∉ LT ∧ w ≠ k) S Y (by decide) (by decide) hA1 ⟨q_601, ta__605, ag__606, sc__607, nw__608, pa__609, fe__610, cl__611, wo__612, si__613, we__614, oa__615, aa__616, c__617, c__618, c__619, c__620, c__621, s__622, dg__623, nu__624, lf__625, lt__626, cs__627, sf__628, pf__629, q_689, ta__693, ag__694, sc__695, nw__696, pa__697, fe__698, cl__699, wo__700, si__701, we__702, oa__703, aa__704, c__705, c__706, c__707, c__708, c__709, s__710, dg__711, nu__712, lf__713, lt__714, cs__715, sf__716, pf__717, q_588, a__592, a__593, q_849, a__853, a__854, a__855, a__856, q_866, a__870, q_873, q_879, a__883, q_886, q_892, q_897, a__901, a__902, LT, hk, p_h, p_q_601, p_ta__605, p_ag__606, p_sc__607, p_nw__608, p_oa__615, p_aa__616, p_pa__609, p_fe__610, p_cl__611, p_wo__612, p_si__613, p_we__614, p_c__617, p_c__618, p_c__619, p_c__620, p_c__621, p_s__622, p_lf__625, p_lt__626, p_q_689, p_ta__693, p_ag__694, p_sc__695, p_nw__696, p_oa__703, p_aa__704, p_pa__697, p_fe__698, p_cl__699, p_wo__700, p_si__701, p_we__702, p_c__705, p_c__706, p_c__707, p_c__708, p_c__709, p_s__710, p_lf__713, p_lt__714, p_q_588, p_a__592, p_a__593, p_q_849, p_a__853, p_a__854, p_a__855, p_a__856, p_q_866, p_q_873, p_q_879, p_q_886, p_q_897, n1_651, n4_652, hsf_653, (pastOK.outer hsub0 (hpfT.keep hkT (keepsH pT_h))), (pastOK.outer (fun b z => by exact hsubT b z) (hpkU.keep hkU (keepsH pU_h))), (n1_862), (n2_863), (n3_864), (d_672), hinT, hnwT, hknT, (dq_601_q_689)⟩ dX11_init_157
