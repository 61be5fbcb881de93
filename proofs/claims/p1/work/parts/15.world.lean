theorem dX10_init_0 : decode cX10_init 0 = .ok (.aload_n 0, 1) := by decide +kernel
theorem dX10_init_1 : decode cX10_init 1 = .ok (.invokespecial 3, 3) := by decide +kernel
theorem km10_3 : inW (Cond.methodLink RX10 3 objectInit) := ⟨List.mem_of_getElem? (i := 203) (by decide +kernel), by decide +kernel⟩
theorem dX10_init_4 : decode cX10_init 4 = .ok (.aload_n 0, 1) := by decide +kernel
theorem dX10_init_5 : decode cX10_init 5 = .ok (.bipush 6, 2) := by decide +kernel
theorem dX10_init_7 : decode cX10_init 7 = .ok (.newarray .int, 2) := by decide +kernel
theorem dX10_init_9 : decode cX10_init 9 = .ok (.putfield 9, 3) := by decide +kernel
theorem dX10_init_12 : decode cX10_init 12 = .ok (.aload_n 0, 1) := by decide +kernel
theorem dX10_init_13 : decode cX10_init 13 = .ok (.bipush 6, 2) := by decide +kernel
theorem dX10_init_15 : decode cX10_init 15 = .ok (.newarray .int, 2) := by decide +kernel
theorem dX10_init_17 : decode cX10_init 17 = .ok (.putfield 15, 3) := by decide +kernel
theorem dX10_init_20 : decode cX10_init 20 = .ok (.aload_n 0, 1) := by decide +kernel
theorem dX10_init_21 : decode cX10_init 21 = .ok (.iconst 4, 1) := by decide +kernel
theorem dX10_init_22 : decode cX10_init 22 = .ok (.anewarray 18, 3) := by decide +kernel
theorem kc10_18 : inW (Cond.classLink RX10 18 RX7) := ⟨List.mem_of_getElem? (i := 204) (by decide +kernel), by decide +kernel⟩
theorem dX10_init_25 : decode cX10_init 25 = .ok (.putfield 20, 3) := by decide +kernel
theorem dX10_init_28 : decode cX10_init 28 = .ok (.aload_n 0, 1) := by decide +kernel
theorem dX10_init_29 : decode cX10_init 29 = .ok (.new 24, 3) := by decide +kernel
theorem kc10_24 : inW (Cond.classLink RX10 24 RX4) := ⟨List.mem_of_getElem? (i := 206) (by decide +kernel), by decide +kernel⟩
theorem kn4 : inW (Cond.instantiable RX4 7) := ⟨List.mem_of_getElem? (i := 154) (by decide +kernel), by decide +kernel⟩
theorem ki4 : inW (Cond.initialized RX4) := ⟨List.mem_of_getElem? (i := 125) (by decide +kernel), by decide +kernel⟩
theorem dX10_init_32 : decode cX10_init 32 = .ok (.dup, 1) := by decide +kernel
theorem dX10_init_33 : decode cX10_init 33 = .ok (.invokespecial 26, 3) := by decide +kernel
theorem cw_X4_init : CWi yX4_init cX4_init 1 0 := ⟨⟨⟨List.mem_of_getElem? (i := 125) (by decide +kernel), by decide +kernel⟩, ⟨List.mem_of_getElem? (i := 157) (by decide +kernel), by decide +kernel⟩, by decide +kernel⟩, ⟨List.mem_of_getElem? (i := 156) (by decide +kernel), by decide +kernel⟩, rfl⟩
theorem km10_26 : inW (Cond.methodLinkNest RX10 26 yX4_init "KneeOaths") := ⟨List.mem_of_getElem? (i := 207) (by decide +kernel), by decide +kernel⟩
theorem dX10_init_36 : decode cX10_init 36 = .ok (.putfield 27, 3) := by decide +kernel
theorem kf10_27 : inW (Cond.fieldLink RX10 27 "KneeOaths$World" "now" "LKneeOaths$Ledger;") := ⟨List.mem_of_getElem? (i := 264) (by decide +kernel), by decide +kernel⟩
theorem dX10_init_39 : decode cX10_init 39 = .ok (.aload_n 0, 1) := by decide +kernel
theorem dX10_init_40 : decode cX10_init 40 = .ok (.bipush 30, 2) := by decide +kernel
theorem dX10_init_42 : decode cX10_init 42 = .ok (.anewarray 24, 3) := by decide +kernel
theorem dX10_init_45 : decode cX10_init 45 = .ok (.putfield 31, 3) := by decide +kernel
theorem kf10_31 : inW (Cond.fieldLink RX10 31 "KneeOaths$World" "past" "[LKneeOaths$Ledger;") := ⟨List.mem_of_getElem? (i := 272) (by decide +kernel), by decide +kernel⟩
theorem dX10_init_48 : decode cX10_init 48 = .ok (.aload_n 0, 1) := by decide +kernel
theorem dX10_init_49 : decode cX10_init 49 = .ok (.new 35, 3) := by decide +kernel
theorem kc10_35 : inW (Cond.classLink RX10 35 RX9) := ⟨List.mem_of_getElem? (i := 209) (by decide +kernel), by decide +kernel⟩
theorem kn9 : inW (Cond.instantiable RX9 3) := ⟨List.mem_of_getElem? (i := 210) (by decide +kernel), by decide +kernel⟩
theorem ki9 : inW (Cond.initialized RX9) := ⟨List.mem_of_getElem? (i := 127) (by decide +kernel), by decide +kernel⟩
theorem dX10_init_52 : decode cX10_init 52 = .ok (.dup, 1) := by decide +kernel
theorem dX10_init_53 : decode cX10_init 53 = .ok (.bipush 6, 2) := by decide +kernel
theorem dX10_init_55 : decode cX10_init 55 = .ok (.invokespecial 37, 3) := by decide +kernel
theorem cw_X9_init : CWi yX9_init cX9_init 2 1 := ⟨⟨⟨List.mem_of_getElem? (i := 127) (by decide +kernel), by decide +kernel⟩, ⟨List.mem_of_getElem? (i := 213) (by decide +kernel), by decide +kernel⟩, by decide +kernel⟩, ⟨List.mem_of_getElem? (i := 212) (by decide +kernel), by decide +kernel⟩, rfl⟩
theorem km10_37 : inW (Cond.methodLink RX10 37 yX9_init) := ⟨List.mem_of_getElem? (i := 211) (by decide +kernel), by decide +kernel⟩
theorem dX10_init_58 : decode cX10_init 58 = .ok (.putfield 40, 3) := by decide +kernel
theorem kf10_40 : inW (Cond.fieldLink RX10 40 "KneeOaths$World" "feelings" "LKneeOaths$Told;") := ⟨List.mem_of_getElem? (i := 273) (by decide +kernel), by decide +kernel⟩
theorem dX10_init_61 : decode cX10_init 61 = .ok (.aload_n 0, 1) := by decide +kernel
theorem dX10_init_62 : decode cX10_init 62 = .ok (.new 35, 3) := by decide +kernel
theorem dX10_init_65 : decode cX10_init 65 = .ok (.dup, 1) := by decide +kernel
theorem dX10_init_66 : decode cX10_init 66 = .ok (.bipush 8, 2) := by decide +kernel
theorem dX10_init_68 : decode cX10_init 68 = .ok (.invokespecial 37, 3) := by decide +kernel
theorem dX10_init_71 : decode cX10_init 71 = .ok (.putfield 44, 3) := by decide +kernel
theorem kf10_44 : inW (Cond.fieldLink RX10 44 "KneeOaths$World" "clashes" "LKneeOaths$Told;") := ⟨List.mem_of_getElem? (i := 276) (by decide +kernel), by decide +kernel⟩
theorem dX10_init_74 : decode cX10_init 74 = .ok (.aload_n 0, 1) := by decide +kernel
theorem dX10_init_75 : decode cX10_init 75 = .ok (.new 35, 3) := by decide +kernel
theorem dX10_init_78 : decode cX10_init 78 = .ok (.dup, 1) := by decide +kernel
theorem dX10_init_79 : decode cX10_init 79 = .ok (.bipush 8, 2) := by decide +kernel
theorem dX10_init_81 : decode cX10_init 81 = .ok (.invokespecial 37, 3) := by decide +kernel
theorem dX10_init_84 : decode cX10_init 84 = .ok (.putfield 47, 3) := by decide +kernel
theorem kf10_47 : inW (Cond.fieldLink RX10 47 "KneeOaths$World" "words" "LKneeOaths$Told;") := ⟨List.mem_of_getElem? (i := 279) (by decide +kernel), by decide +kernel⟩
theorem dX10_init_87 : decode cX10_init 87 = .ok (.aload_n 0, 1) := by decide +kernel
theorem dX10_init_88 : decode cX10_init 88 = .ok (.new 35, 3) := by decide +kernel
theorem dX10_init_91 : decode cX10_init 91 = .ok (.dup, 1) := by decide +kernel
theorem dX10_init_92 : decode cX10_init 92 = .ok (.bipush 8, 2) := by decide +kernel
theorem dX10_init_94 : decode cX10_init 94 = .ok (.invokespecial 37, 3) := by decide +kernel
theorem dX10_init_97 : decode cX10_init 97 = .ok (.putfield 50, 3) := by decide +kernel
theorem kf10_50 : inW (Cond.fieldLink RX10 50 "KneeOaths$World" "sights" "LKneeOaths$Told;") := ⟨List.mem_of_getElem? (i := 282) (by decide +kernel), by decide +kernel⟩
theorem dX10_init_100 : decode cX10_init 100 = .ok (.aload_n 0, 1) := by decide +kernel
theorem dX10_init_101 : decode cX10_init 101 = .ok (.new 35, 3) := by decide +kernel
theorem dX10_init_104 : decode cX10_init 104 = .ok (.dup, 1) := by decide +kernel
theorem dX10_init_105 : decode cX10_init 105 = .ok (.bipush 8, 2) := by decide +kernel
theorem dX10_init_107 : decode cX10_init 107 = .ok (.invokespecial 37, 3) := by decide +kernel
theorem dX10_init_110 : decode cX10_init 110 = .ok (.putfield 53, 3) := by decide +kernel
theorem kf10_53 : inW (Cond.fieldLink RX10 53 "KneeOaths$World" "wearings" "LKneeOaths$Told;") := ⟨List.mem_of_getElem? (i := 285) (by decide +kernel), by decide +kernel⟩
theorem dX10_init_113 : decode cX10_init 113 = .ok (.aload_n 0, 1) := by decide +kernel
theorem dX10_init_114 : decode cX10_init 114 = .ok (.iconst (-1), 1) := by decide +kernel
theorem dX10_init_115 : decode cX10_init 115 = .ok (.putfield 56, 3) := by decide +kernel
theorem dX10_init_118 : decode cX10_init 118 = .ok (.iconst 0, 1) := by decide +kernel
theorem dX10_init_119 : decode cX10_init 119 = .ok (.istore_n 1, 1) := by decide +kernel
theorem dX10_init_120 : decode cX10_init 120 = .ok (.iload_n 1, 1) := by decide +kernel
theorem dX10_init_121 : decode cX10_init 121 = .ok (.iconst 4, 1) := by decide +kernel
theorem dX10_init_122 : decode cX10_init 122 = .ok (.if_icmp .ge 22, 3) := by decide +kernel
theorem dX10_init_125 : decode cX10_init 125 = .ok (.aload_n 0, 1) := by decide +kernel
theorem dX10_init_126 : decode cX10_init 126 = .ok (.getfield 20, 3) := by decide +kernel
theorem dX10_init_129 : decode cX10_init 129 = .ok (.iload_n 1, 1) := by decide +kernel
theorem dX10_init_130 : decode cX10_init 130 = .ok (.new 18, 3) := by decide +kernel
theorem kn7 : inW (Cond.instantiable RX7 7) := ⟨List.mem_of_getElem? (i := 232) (by decide +kernel), by decide +kernel⟩
theorem ki7 : inW (Cond.initialized RX7) := ⟨List.mem_of_getElem? (i := 129) (by decide +kernel), by decide +kernel⟩
theorem dX10_init_133 : decode cX10_init 133 = .ok (.dup, 1) := by decide +kernel
theorem dX10_init_134 : decode cX10_init 134 = .ok (.invokespecial 60, 3) := by decide +kernel
theorem cw_X7_init : CWi yX7_init cX7_init 1 0 := ⟨⟨⟨List.mem_of_getElem? (i := 129) (by decide +kernel), by decide +kernel⟩, ⟨List.mem_of_getElem? (i := 235) (by decide +kernel), by decide +kernel⟩, by decide +kernel⟩, ⟨List.mem_of_getElem? (i := 234) (by decide +kernel), by decide +kernel⟩, rfl⟩
theorem km10_60 : inW (Cond.methodLinkNest RX10 60 yX7_init "KneeOaths") := ⟨List.mem_of_getElem? (i := 233) (by decide +kernel), by decide +kernel⟩
theorem dX10_init_137 : decode cX10_init 137 = .ok (.aastore, 1) := by decide +kernel
theorem dX10_init_138 : decode cX10_init 138 = .ok (.iinc 1 1, 3) := by decide +kernel
theorem dX10_init_141 : decode cX10_init 141 = .ok (.goto (-21), 3) := by decide +kernel
theorem dX10_init_144 : decode cX10_init 144 = .ok (.iconst 0, 1) := by decide +kernel
theorem dX10_init_145 : decode cX10_init 145 = .ok (.istore_n 1, 1) := by decide +kernel
theorem dX10_init_146 : decode cX10_init 146 = .ok (.iload_n 1, 1) := by decide +kernel
theorem dX10_init_147 : decode cX10_init 147 = .ok (.bipush 30, 2) := by decide +kernel
theorem dX10_init_149 : decode cX10_init 149 = .ok (.if_icmp .ge 22, 3) := by decide +kernel
theorem dX10_init_171 : decode cX10_init 171 = .ok (.return_, 1) := by decide +kernel
theorem dX10_init_152 : decode cX10_init 152 = .ok (.aload_n 0, 1) := by decide +kernel
theorem dX10_init_153 : decode cX10_init 153 = .ok (.getfield 31, 3) := by decide +kernel
theorem dX10_init_156 : decode cX10_init 156 = .ok (.iload_n 1, 1) := by decide +kernel
theorem dX10_init_157 : decode cX10_init 157 = .ok (.new 24, 3) := by decide +kernel
theorem dX10_init_160 : decode cX10_init 160 = .ok (.dup, 1) := by decide +kernel
theorem dX10_init_161 : decode cX10_init 161 = .ok (.invokespecial 26, 3) := by decide +kernel
theorem dX10_init_164 : decode cX10_init 164 = .ok (.aastore, 1) := by decide +kernel
theorem dX10_init_165 : decode cX10_init 165 = .ok (.iinc 1 1, 3) := by decide +kernel
theorem dX10_init_168 : decode cX10_init 168 = .ok (.goto (-22), 3) := by decide +kernel
theorem pastOK.new {G : GG} {L0 : List Nat} {nw : Nat} {L1 L2 : List Nat} {f1 f2 : HF} {pf : Nat → Option Nat} {i o a b : Nat} {g1 g2 : Nat → Int32} {v1 v2 v3 v4 v5 : Int32} {S : List Nat} (h : pastOK G L0 nw L1 f1 pf i) (k : kp L1 f1 L2 f2 S) (hS : ∀ (b : Nat) (e : va_E), pt L1 f1 b e → ((∃ x, e = .inr (4, x)) ∨ (∃ x, e = .inl (G.2 0, 98, x)) ∨ (∃ x, e = .inl (G.2 0, 90, x))) → b ∉ S) (h2 : o ∉ L0) (h3 : a ∉ L0) (h4 : b ∉ L0) (h5 : o ≠ nw) (h6 : pt L2 f2 o (.inr (4, [.ref a, .ref b, .int v1, .int v2, .int v3, .int v4, .int v5]))) (h7 : pt L2 f2 a (.inl (G.2 0, 98, .inl g1))) (h8 : pt L2 f2 b (.inl (G.2 0, 90, .inl g2))) {pf2 : Nat → Option Nat} (hpf : pf2 = va_up pf i (some o)) : pastOK G L0 nw L2 f2 pf2 (i + 1) := fun j hj => by
  have hK := h.keep k hS
  by_cases hji : j = i
  · subst hji
    exact ⟨o, a, b, g1, g2, v1, v2, v3, v4, v5, by rw [hpf]; exact va_up_self _ _ _, h2, h3, h4, h5, h6, h7, h8⟩
  · obtain ⟨o', a', b', g1', g2', w1, w2, w3, w4, w5, q1, qq⟩ := hK j (by omega)
    exact ⟨o', a', b', g1', g2', w1, w2, w3, w4, w5, by rw [hpf, va_up_ne _ _ hji]; exact q1, qq⟩
theorem keepsLA {G : GG} {L1 : List Nat} {f1 : HF} {pa : Nat} {pf : Nat → Option Nat} (hp : pt L1 f1 pa (.inl (G.2 3, 30, .inr (.inr (.inr (.inr pf)))))) : ∀ (b : Nat) (e : va_E), pt L1 f1 b e → ((∃ x, e = .inr (4, x)) ∨ (∃ x, e = .inl (G.2 0, 98, x)) ∨ (∃ x, e = .inl (G.2 0, 90, x))) → b ∉ [pa] := by
  intro b e hb h
  rcases h with ⟨x, rfl⟩ | ⟨x, rfl⟩ | ⟨x, rfl⟩
  · exact nmc (hb.neA hp) nm0
  · exact nmc (hb.neN hp (by decide)) nm0
  · exact nmc (hb.neN hp (by decide)) nm0
set_option maxHeartbeats 4000000 in
set_option maxRecDepth 100000 in
theorem c_X10_init {l : Launch} {G : GG} {L : List Nat} {f : HF} {h : Nat}  (p_h : pt L f h (.inr (10, [.null, .null, .null, .null, .null, .null, .null, .null, .null, .null, .int 0, .int 0, .int 0, .int 0, .int 0])))  : PMv l yX10_init cX10_init 2 2 131 9158 G [.ref h] L f (fun L1 f1 => ∃ ta : Nat, ∃ ag : Nat, ∃ sc : Nat, ∃ nw : Nat, ∃ pa : Nat, ∃ fe : Nat, ∃ cl : Nat, ∃ wo : Nat, ∃ si : Nat, ∃ we : Nat, ∃ oa : Nat, ∃ aa : Nat, ∃ c1 : Nat, ∃ c2 : Nat, ∃ c3 : Nat, ∃ c4 : Nat, ∃ c5 : Nat, ∃ s0 : Nat, ∃ dg : Nat, ∃ nu : Nat, ∃ lf : Nat, ∃ lt : Nat, ∃ cs : Nat, ∃ sf : Nat → Option Nat, ∃ pf : Nat → Option Nat, kp L f L1 f1 [h] ∧ pt L1 f1 h (.inr (10, [.ref ta, .ref ag, .ref sc, .ref nw, .ref pa, .ref fe, .ref cl, .ref wo, .ref si, .ref we, .int 0, .int 0, .int (-1), .int 0, .int 0])) ∧ pt L1 f1 ta (.inl (G.2 0, 6, .inl (fun _ => 0))) ∧ pt L1 f1 ag (.inl (G.2 0, 6, .inl (fun _ => 0))) ∧ pt L1 f1 sc (.inl (G.2 4, 4, .inr (.inr (.inr (.inr sf))))) ∧ pt L1 f1 nw (.inr (4, [.ref oa, .ref aa, .int 0, .int 0, .int 0, .int 0, .int 137])) ∧ pt L1 f1 oa (.inl (G.2 0, 98, .inl (fun _ => 0))) ∧ pt L1 f1 aa (.inl (G.2 0, 90, .inl (fun _ => 0))) ∧ pt L1 f1 pa (.inl (G.2 3, 30, .inr (.inr (.inr (.inr pf))))) ∧ pt L1 f1 fe (.inr (9, [.ref c1, .int 6, .int 0])) ∧ pt L1 f1 cl (.inr (9, [.ref c2, .int 8, .int 0])) ∧ pt L1 f1 wo (.inr (9, [.ref c3, .int 8, .int 0])) ∧ pt L1 f1 si (.inr (9, [.ref c4, .int 8, .int 0])) ∧ pt L1 f1 we (.inr (9, [.ref c5, .int 8, .int 0])) ∧ pt L1 f1 c1 (.inl (G.2 0, 24, .inl (fun _ => 0))) ∧ pt L1 f1 c2 (.inl (G.2 0, 24, .inl (fun _ => 0))) ∧ pt L1 f1 c3 (.inl (G.2 0, 24, .inl (fun _ => 0))) ∧ pt L1 f1 c4 (.inl (G.2 0, 24, .inl (fun _ => 0))) ∧ pt L1 f1 c5 (.inl (G.2 0, 24, .inl (fun _ => 0))) ∧ pt L1 f1 s0 (.inr (7, [.ref dg, .ref nu, .ref lf, .ref lt, .ref cs, .int 0, .int 0])) ∧ pt L1 f1 lf (.inl (G.2 0, 3, .inl (fun _ => 0))) ∧ pt L1 f1 lt (.inl (G.2 0, 3, .inl (fun _ => 0))) ∧ ta ≠ ag ∧ lf ≠ lt ∧ sf 0 = some s0 ∧ pastOK G L nw L1 f1 pf 30 ∧ ta ∉ L ∧ ag ∉ L ∧ nw ∉ L ∧ oa ∉ L ∧ aa ∉ L ∧ fe ∉ L ∧ cl ∉ L ∧ wo ∉ L ∧ si ∉ L ∧ we ∉ L ∧ c1 ∉ L ∧ c2 ∉ L ∧ c3 ∉ L ∧ c4 ∉ L ∧ c5 ∉ L) := by
  refine PMv.of (post := fun L1 f1 => ∃ ta : Nat, ∃ ag : Nat, ∃ sc : Nat, ∃ nw : Nat, ∃ pa : Nat, ∃ fe : Nat, ∃ cl : Nat, ∃ wo : Nat, ∃ si : Nat, ∃ we : Nat, ∃ oa : Nat, ∃ aa : Nat, ∃ c1 : Nat, ∃ c2 : Nat, ∃ c3 : Nat, ∃ c4 : Nat, ∃ c5 : Nat, ∃ s0 : Nat, ∃ dg : Nat, ∃ nu : Nat, ∃ lf : Nat, ∃ lt : Nat, ∃ cs : Nat, ∃ sf : Nat → Option Nat, ∃ pf : Nat → Option Nat, kp L f L1 f1 [h] ∧ pt L1 f1 h (.inr (10, [.ref ta, .ref ag, .ref sc, .ref nw, .ref pa, .ref fe, .ref cl, .ref wo, .ref si, .ref we, .int 0, .int 0, .int (-1), .int 0, .int 0])) ∧ pt L1 f1 ta (.inl (G.2 0, 6, .inl (fun _ => 0))) ∧ pt L1 f1 ag (.inl (G.2 0, 6, .inl (fun _ => 0))) ∧ pt L1 f1 sc (.inl (G.2 4, 4, .inr (.inr (.inr (.inr sf))))) ∧ pt L1 f1 nw (.inr (4, [.ref oa, .ref aa, .int 0, .int 0, .int 0, .int 0, .int 137])) ∧ pt L1 f1 oa (.inl (G.2 0, 98, .inl (fun _ => 0))) ∧ pt L1 f1 aa (.inl (G.2 0, 90, .inl (fun _ => 0))) ∧ pt L1 f1 pa (.inl (G.2 3, 30, .inr (.inr (.inr (.inr pf))))) ∧ pt L1 f1 fe (.inr (9, [.ref c1, .int 6, .int 0])) ∧ pt L1 f1 cl (.inr (9, [.ref c2, .int 8, .int 0])) ∧ pt L1 f1 wo (.inr (9, [.ref c3, .int 8, .int 0])) ∧ pt L1 f1 si (.inr (9, [.ref c4, .int 8, .int 0])) ∧ pt L1 f1 we (.inr (9, [.ref c5, .int 8, .int 0])) ∧ pt L1 f1 c1 (.inl (G.2 0, 24, .inl (fun _ => 0))) ∧ pt L1 f1 c2 (.inl (G.2 0, 24, .inl (fun _ => 0))) ∧ pt L1 f1 c3 (.inl (G.2 0, 24, .inl (fun _ => 0))) ∧ pt L1 f1 c4 (.inl (G.2 0, 24, .inl (fun _ => 0))) ∧ pt L1 f1 c5 (.inl (G.2 0, 24, .inl (fun _ => 0))) ∧ pt L1 f1 s0 (.inr (7, [.ref dg, .ref nu, .ref lf, .ref lt, .ref cs, .int 0, .int 0])) ∧ pt L1 f1 lf (.inl (G.2 0, 3, .inl (fun _ => 0))) ∧ pt L1 f1 lt (.inl (G.2 0, 3, .inl (fun _ => 0))) ∧ ta ≠ ag ∧ lf ≠ lt ∧ sf 0 = some s0 ∧ pastOK G L nw L1 f1 pf 30 ∧ ta ∉ L ∧ ag ∉ L ∧ nw ∉ L ∧ oa ∉ L ∧ aa ∉ L ∧ fe ∉ L ∧ cl ∉ L ∧ wo ∉ L ∧ si ∉ L ∧ we ∉ L ∧ c1 ∉ L ∧ c2 ∉ L ∧ c3 ∉ L ∧ c4 ∉ L ∧ c5 ∉ L) (own := RX10) (by decide) rfl (Nat.le_of_ble_eq_true rfl) (fun sz p e s m args below meth c A ls hA1 hname S Y hl => ?_)
  have hx := S.hx
  have hb := S.hb
  have hl : lv_has ls 2 [(0, .ref h)] := hl
  have hk : kp L f L f [h] := kp.rf
  refine lv_aload_n hx hb dX10_init_0 rfl (lv_at hl 0 rfl) ?_
  refine pObj S km10_3 kObj1 kObj2 hl.1 (Nat.le_of_ble_eq_true rfl) (Nat.le_of_ble_eq_true rfl) dX10_init_1 ?_
  refine lv_aload_n hx hb dX10_init_4 rfl (lv_at hl 0 rfl) ?_
  refine lv_bipush (v := 6) hx hb dX10_init_5 (by decide) ?_
  refine pg_newa S Y (ty := .int) rfl 0 rfl ka_int (N' := 6) (6, .inl (fun _ => 0)) (fun _ => rfl) (by decide) (by decide) (by decide) (by decide) (by decide) dX10_init_7 (fun q_421 f_422 H nq_421 ef_422 Y => ?_)
  have whkq_421 := hk.notin nq_421
  have hk := hk.push ef_422 nq_421
  have p_h := p_h.push ef_422 nq_421
  have p_q_421 := pt.new (L := L) ef_422
  refine pg_putF S Y hname ok_X10 0 (by decide) kf10_9 rfl rfl (fs' := [.ref q_421, .null, .null, .null, .null, .null, .null, .null, .null, .null, .int 0, .int 0, .int 0, .int 0, .int 0]) (v := .ref q_421) p_h rfl rfl rfl (Nat.le_of_ble_eq_true rfl) dX10_init_9 (fun f_423 H locs ef_423 Y => ?_)
  have p_q_421 := p_q_421.up ef_423 ((p_q_421.neB p_h))
  have p_h := p_h.me ef_423
  have hk := hk.up ef_423 (by simp)
  refine lv_aload_n hx hb dX10_init_12 rfl (lv_at hl 0 rfl) ?_
  refine lv_bipush (v := 6) hx hb dX10_init_13 (by decide) ?_
  refine pg_newa S Y (ty := .int) rfl 0 rfl ka_int (N' := 6) (6, .inl (fun _ => 0)) (fun _ => rfl) (by decide) (by decide) (by decide) (by decide) (by decide) dX10_init_15 (fun q_424 f_425 H nq_424 ef_425 Y => ?_)
  have whkq_424 := hk.notin nq_424
  have hk := hk.push ef_425 nq_424
  have p_h := p_h.push ef_425 nq_424
  have dq_421_q_424 := p_q_421.neQ nq_424
  have p_q_421 := p_q_421.push ef_425 nq_424
  have p_q_424 := pt.new (L := (L ++ [q_421])) ef_425
  refine pg_putF S Y hname ok_X10 1 (by decide) kf10_15 rfl rfl (fs' := [.ref q_421, .ref q_424, .null, .null, .null, .null, .null, .null, .null, .null, .int 0, .int 0, .int 0, .int 0, .int 0]) (v := .ref q_424) p_h rfl rfl rfl (Nat.le_of_ble_eq_true rfl) dX10_init_17 (fun f_426 H locs ef_426 Y => ?_)
  have p_q_421 := p_q_421.up ef_426 ((p_q_421.neB p_h))
  have p_q_424 := p_q_424.up ef_426 ((p_q_424.neB p_h))
  have p_h := p_h.me ef_426
  have hk := hk.up ef_426 (by simp)
  refine lv_aload_n hx hb dX10_init_20 rfl (lv_at hl 0 rfl) ?_
  refine lv_iconst (v := 4) hx hb dX10_init_21 (by decide) ?_
  refine pg_newq S Y kc10_18 (fun w => w.2.2) 4 rfl (N' := 4) (by decide) (by decide) (by decide) (by decide) (by decide) dX10_init_22 (fun q_427 f_428 H nq_427 ef_428 Y => ?_)
  have whkq_427 := hk.notin nq_427
  have hk := hk.push ef_428 nq_427
  have p_h := p_h.push ef_428 nq_427
  have p_q_421 := p_q_421.push ef_428 nq_427
  have p_q_424 := p_q_424.push ef_428 nq_427
  have p_q_427 := pt.new (L := ((L ++ [q_421]) ++ [q_424])) ef_428
  refine pg_putF S Y hname ok_X10 2 (by decide) kf10_20 rfl rfl (fs' := [.ref q_421, .ref q_424, .ref q_427, .null, .null, .null, .null, .null, .null, .null, .int 0, .int 0, .int 0, .int 0, .int 0]) (v := .ref q_427) p_h rfl rfl rfl (Nat.le_of_ble_eq_true rfl) dX10_init_25 (fun f_429 H locs ef_429 Y => ?_)
  have p_q_421 := p_q_421.up ef_429 ((p_q_421.neB p_h))
  have p_q_424 := p_q_424.up ef_429 ((p_q_424.neB p_h))
  have p_q_427 := p_q_427.up ef_429 ((p_q_427.neB p_h))
  have p_h := p_h.me ef_429
  have hk := hk.up ef_429 (by simp)
  refine lv_aload_n hx hb dX10_init_28 rfl (lv_at hl 0 rfl) ?_
  refine pg_new S Y ok_X4 kc10_24 kn4 ki4 (fs := [.null, .null, .int 0, .int 0, .int 0, .int 0, .int 0]) (by decide) (by decide) (by decide) dX10_init_29 (fun q_430 f_431 H nq_430 ef_431 Y => ?_)
  have whkq_430 := hk.notin nq_430
  have hk := hk.push ef_431 nq_430
  have p_h := p_h.push ef_431 nq_430
  have p_q_421 := p_q_421.push ef_431 nq_430
  have p_q_424 := p_q_424.push ef_431 nq_430
  have p_q_427 := p_q_427.push ef_431 nq_430
  have p_q_430 := pt.new (L := (((L ++ [q_421]) ++ [q_424]) ++ [q_427])) ef_431
  refine lv_dup hx hb dX10_init_32 rfl ?_
  refine cINv (b := q_430) (As := []) (rest := [.ref q_430, .ref h]) S Y (c_X4_init (l := l) p_q_430) cw_X4_init km10_26 rfl ⟨Nat.le_of_ble_eq_true rfl, Nat.le_of_ble_eq_true rfl⟩ hl.1 rfl (Nat.le_of_ble_eq_true rfl) ⟨Nat.le_of_ble_eq_true rfl, Nat.le_of_ble_eq_true rfl⟩ dX10_init_33 (fun L_432 f_433 H locs hf_433 Y => ?_)
  obtain ⟨a__434, a__435, kf_433, z_z_436, z_z_437, z_z_438, v_439, v_440⟩ := hf_433
  have w_441 := hk.notin v_439
  have w_442 := hk.notin v_440
  have p_h := kf_433.1 h _ (nmc (p_h.neK p_q_430 (by decide)) nm0) p_h
  have p_q_421 := kf_433.1 q_421 _ (nmc (p_q_421.neB p_q_430) nm0) p_q_421
  have p_q_424 := kf_433.1 q_424 _ (nmc (p_q_424.neB p_q_430) nm0) p_q_424
  have p_q_427 := kf_433.1 q_427 _ (nmc (p_q_427.neB p_q_430) nm0) p_q_427
  have p_q_430 := z_z_436
  have p_a__434 := z_z_437
  have p_a__435 := z_z_438
  have hk := hk.call kf_433 (fun b hb hp => (nmc (neL hp whkq_430) nm0))
  refine pg_putF S Y hname ok_X10 3 (by decide) kf10_27 rfl rfl (fs' := [.ref q_421, .ref q_424, .ref q_427, .ref q_430, .null, .null, .null, .null, .null, .null, .int 0, .int 0, .int 0, .int 0, .int 0]) (v := .ref q_430) p_h rfl rfl rfl (Nat.le_of_ble_eq_true rfl) dX10_init_36 (fun f_443 H locs ef_443 Y => ?_)
  have p_q_421 := p_q_421.up ef_443 ((p_q_421.neB p_h))
  have p_q_424 := p_q_424.up ef_443 ((p_q_424.neB p_h))
  have p_q_427 := p_q_427.up ef_443 ((p_q_427.neB p_h))
  have p_q_430 := p_q_430.up ef_443 ((p_q_430.neK p_h (by decide)))
  have p_a__434 := p_a__434.up ef_443 ((p_a__434.neB p_h))
  have p_a__435 := p_a__435.up ef_443 ((p_a__435.neB p_h))
  have p_h := p_h.me ef_443
  have hk := hk.up ef_443 (by simp)
  refine lv_aload_n hx hb dX10_init_39 rfl (lv_at hl 0 rfl) ?_
  refine lv_bipush (v := 30) hx hb dX10_init_40 (by decide) ?_
  refine pg_newq S Y kc10_24 (fun w => w.2.1) 3 rfl (N' := 30) (by decide) (by decide) (by decide) (by decide) (by decide) dX10_init_42 (fun q_444 f_445 H nq_444 ef_445 Y => ?_)
  have whkq_444 := hk.notin nq_444
  have hk := hk.push ef_445 nq_444
  have p_h := p_h.push ef_445 nq_444
  have p_q_421 := p_q_421.push ef_445 nq_444
  have p_q_424 := p_q_424.push ef_445 nq_444
  have p_q_427 := p_q_427.push ef_445 nq_444
  have p_q_430 := p_q_430.push ef_445 nq_444
  have p_a__434 := p_a__434.push ef_445 nq_444
  have p_a__435 := p_a__435.push ef_445 nq_444
  have p_q_444 := pt.new (L := L_432) ef_445
  refine pg_putF S Y hname ok_X10 4 (by decide) kf10_31 rfl rfl (fs' := [.ref q_421, .ref q_424, .ref q_427, .ref q_430, .ref q_444, .null, .null, .null, .null, .null, .int 0, .int 0, .int 0, .int 0, .int 0]) (v := .ref q_444) p_h rfl rfl rfl (Nat.le_of_ble_eq_true rfl) dX10_init_45 (fun f_446 H locs ef_446 Y => ?_)
  have p_q_421 := p_q_421.up ef_446 ((p_q_421.neB p_h))
  have p_q_424 := p_q_424.up ef_446 ((p_q_424.neB p_h))
  have p_q_427 := p_q_427.up ef_446 ((p_q_427.neB p_h))
  have p_q_430 := p_q_430.up ef_446 ((p_q_430.neK p_h (by decide)))
  have p_a__434 := p_a__434.up ef_446 ((p_a__434.neB p_h))
  have p_a__435 := p_a__435.up ef_446 ((p_a__435.neB p_h))
  have p_q_444 := p_q_444.up ef_446 ((p_q_444.neB p_h))
  have p_h := p_h.me ef_446
  have hk := hk.up ef_446 (by simp)
  refine lv_aload_n hx hb dX10_init_48 rfl (lv_at hl 0 rfl) ?_
  refine pg_new S Y ok_X9 kc10_35 kn9 ki9 (fs := [.null, .int 0, .int 0]) (by decide) (by decide) (by decide) dX10_init_49 (fun q_447 f_448 H nq_447 ef_448 Y => ?_)
  have whkq_447 := hk.notin nq_447
  have hk := hk.push ef_448 nq_447
  have p_h := p_h.push ef_448 nq_447
  have p_q_421 := p_q_421.push ef_448 nq_447
  have p_q_424 := p_q_424.push ef_448 nq_447
  have p_q_427 := p_q_427.push ef_448 nq_447
  have p_q_430 := p_q_430.push ef_448 nq_447
  have p_a__434 := p_a__434.push ef_448 nq_447
  have p_a__435 := p_a__435.push ef_448 nq_447
  have p_q_444 := p_q_444.push ef_448 nq_447
  have p_q_447 := pt.new (L := (L_432 ++ [q_444])) ef_448
  refine lv_dup hx hb dX10_init_52 rfl ?_
  refine lv_bipush (v := 6) hx hb dX10_init_53 (by decide) ?_
  refine cIv (b := q_447) (As := [.int 6]) (rest := [.ref q_447, .ref h]) S Y (c_told6 (l := l) p_q_447) cw_X9_init km10_37 rfl ⟨Nat.le_of_ble_eq_true rfl, Nat.le_of_ble_eq_true rfl⟩ hl.1 rfl (Nat.le_of_ble_eq_true rfl) ⟨Nat.le_of_ble_eq_true rfl, Nat.le_of_ble_eq_true rfl⟩ dX10_init_55 (fun L_449 f_450 H locs hf_450 Y => ?_)
  obtain ⟨a__451, kf_450, z_z_452, z_z_453, v_454⟩ := hf_450
  have w_455 := hk.notin v_454
  have p_h := kf_450.1 h _ (nmc (p_h.neK p_q_447 (by decide)) nm0) p_h
  have p_q_421 := kf_450.1 q_421 _ (nmc (p_q_421.neB p_q_447) nm0) p_q_421
  have p_q_424 := kf_450.1 q_424 _ (nmc (p_q_424.neB p_q_447) nm0) p_q_424
  have p_q_427 := kf_450.1 q_427 _ (nmc (p_q_427.neB p_q_447) nm0) p_q_427
  have p_q_430 := kf_450.1 q_430 _ (nmc (p_q_430.neK p_q_447 (by decide)) nm0) p_q_430
  have p_a__434 := kf_450.1 a__434 _ (nmc (p_a__434.neB p_q_447) nm0) p_a__434
  have p_a__435 := kf_450.1 a__435 _ (nmc (p_a__435.neB p_q_447) nm0) p_a__435
  have p_q_444 := kf_450.1 q_444 _ (nmc (p_q_444.neB p_q_447) nm0) p_q_444
  have p_q_447 := z_z_452
  have p_a__451 := z_z_453
  have hk := hk.call kf_450 (fun b hb hp => (nmc (neL hp whkq_447) nm0))
  refine pg_putF S Y hname ok_X10 5 (by decide) kf10_40 rfl rfl (fs' := [.ref q_421, .ref q_424, .ref q_427, .ref q_430, .ref q_444, .ref q_447, .null, .null, .null, .null, .int 0, .int 0, .int 0, .int 0, .int 0]) (v := .ref q_447) p_h rfl rfl rfl (Nat.le_of_ble_eq_true rfl) dX10_init_58 (fun f_456 H locs ef_456 Y => ?_)
  have p_q_421 := p_q_421.up ef_456 ((p_q_421.neB p_h))
  have p_q_424 := p_q_424.up ef_456 ((p_q_424.neB p_h))
  have p_q_427 := p_q_427.up ef_456 ((p_q_427.neB p_h))
  have p_q_430 := p_q_430.up ef_456 ((p_q_430.neK p_h (by decide)))
  have p_a__434 := p_a__434.up ef_456 ((p_a__434.neB p_h))
  have p_a__435 := p_a__435.up ef_456 ((p_a__435.neB p_h))
  have p_q_444 := p_q_444.up ef_456 ((p_q_444.neB p_h))
  have p_q_447 := p_q_447.up ef_456 ((p_q_447.neK p_h (by decide)))
  have p_a__451 := p_a__451.up ef_456 ((p_a__451.neB p_h))
  have p_h := p_h.me ef_456
  have hk := hk.up ef_456 (by simp)
  refine lv_aload_n hx hb dX10_init_61 rfl (lv_at hl 0 rfl) ?_
  refine pg_new S Y ok_X9 kc10_35 kn9 ki9 (fs := [.null, .int 0, .int 0]) (by decide) (by decide) (by decide) dX10_init_62 (fun q_457 f_458 H nq_457 ef_458 Y => ?_)
  have whkq_457 := hk.notin nq_457
  have hk := hk.push ef_458 nq_457
  have p_h := p_h.push ef_458 nq_457
  have p_q_421 := p_q_421.push ef_458 nq_457
  have p_q_424 := p_q_424.push ef_458 nq_457
  have p_q_427 := p_q_427.push ef_458 nq_457
  have p_q_430 := p_q_430.push ef_458 nq_457
  have p_a__434 := p_a__434.push ef_458 nq_457
  have p_a__435 := p_a__435.push ef_458 nq_457
  have p_q_444 := p_q_444.push ef_458 nq_457
  have dq_447_q_457 := p_q_447.neQ nq_457
  have p_q_447 := p_q_447.push ef_458 nq_457
  have p_a__451 := p_a__451.push ef_458 nq_457
  have p_q_457 := pt.new (L := L_449) ef_458
  refine lv_dup hx hb dX10_init_65 rfl ?_
  refine lv_bipush (v := 8) hx hb dX10_init_66 (by decide) ?_
  refine cIv (b := q_457) (As := [.int 8]) (rest := [.ref q_457, .ref h]) S Y (c_told8 (l := l) p_q_457) cw_X9_init km10_37 rfl ⟨Nat.le_of_ble_eq_true rfl, Nat.le_of_ble_eq_true rfl⟩ hl.1 rfl (Nat.le_of_ble_eq_true rfl) ⟨Nat.le_of_ble_eq_true rfl, Nat.le_of_ble_eq_true rfl⟩ dX10_init_68 (fun L_459 f_460 H locs hf_460 Y => ?_)
  obtain ⟨a__461, kf_460, z_z_462, z_z_463, v_464⟩ := hf_460
  have d_465 := p_a__451.neQ v_464
  have w_466 := hk.notin v_464
  have p_h := kf_460.1 h _ (nmc (p_h.neK p_q_457 (by decide)) nm0) p_h
  have p_q_421 := kf_460.1 q_421 _ (nmc (p_q_421.neB p_q_457) nm0) p_q_421
  have p_q_424 := kf_460.1 q_424 _ (nmc (p_q_424.neB p_q_457) nm0) p_q_424
  have p_q_427 := kf_460.1 q_427 _ (nmc (p_q_427.neB p_q_457) nm0) p_q_427
  have p_q_430 := kf_460.1 q_430 _ (nmc (p_q_430.neK p_q_457 (by decide)) nm0) p_q_430
  have p_a__434 := kf_460.1 a__434 _ (nmc (p_a__434.neB p_q_457) nm0) p_a__434
  have p_a__435 := kf_460.1 a__435 _ (nmc (p_a__435.neB p_q_457) nm0) p_a__435
  have p_q_444 := kf_460.1 q_444 _ (nmc (p_q_444.neB p_q_457) nm0) p_q_444
  have p_q_447 := kf_460.1 q_447 _ (nmc (dq_447_q_457) nm0) p_q_447
  have p_a__451 := kf_460.1 a__451 _ (nmc (p_a__451.neB p_q_457) nm0) p_a__451
  have p_q_457 := z_z_462
  have p_a__461 := z_z_463
  have hk := hk.call kf_460 (fun b hb hp => (nmc (neL hp whkq_457) nm0))
  refine pg_putF S Y hname ok_X10 6 (by decide) kf10_44 rfl rfl (fs' := [.ref q_421, .ref q_424, .ref q_427, .ref q_430, .ref q_444, .ref q_447, .ref q_457, .null, .null, .null, .int 0, .int 0, .int 0, .int 0, .int 0]) (v := .ref q_457) p_h rfl rfl rfl (Nat.le_of_ble_eq_true rfl) dX10_init_71 (fun f_467 H locs ef_467 Y => ?_)
  have p_q_421 := p_q_421.up ef_467 ((p_q_421.neB p_h))
  have p_q_424 := p_q_424.up ef_467 ((p_q_424.neB p_h))
  have p_q_427 := p_q_427.up ef_467 ((p_q_427.neB p_h))
  have p_q_430 := p_q_430.up ef_467 ((p_q_430.neK p_h (by decide)))
  have p_a__434 := p_a__434.up ef_467 ((p_a__434.neB p_h))
  have p_a__435 := p_a__435.up ef_467 ((p_a__435.neB p_h))
  have p_q_444 := p_q_444.up ef_467 ((p_q_444.neB p_h))
  have p_q_447 := p_q_447.up ef_467 ((p_q_447.neK p_h (by decide)))
  have p_a__451 := p_a__451.up ef_467 ((p_a__451.neB p_h))
  have p_q_457 := p_q_457.up ef_467 ((p_q_457.neK p_h (by decide)))
  have p_a__461 := p_a__461.up ef_467 ((p_a__461.neB p_h))
  have p_h := p_h.me ef_467
  have hk := hk.up ef_467 (by simp)
  refine lv_aload_n hx hb dX10_init_74 rfl (lv_at hl 0 rfl) ?_
  refine pg_new S Y ok_X9 kc10_35 kn9 ki9 (fs := [.null, .int 0, .int 0]) (by decide) (by decide) (by decide) dX10_init_75 (fun q_468 f_469 H nq_468 ef_469 Y => ?_)
  have whkq_468 := hk.notin nq_468
  have hk := hk.push ef_469 nq_468
  have p_h := p_h.push ef_469 nq_468
  have p_q_421 := p_q_421.push ef_469 nq_468
  have p_q_424 := p_q_424.push ef_469 nq_468
  have p_q_427 := p_q_427.push ef_469 nq_468
  have p_q_430 := p_q_430.push ef_469 nq_468
  have p_a__434 := p_a__434.push ef_469 nq_468
  have p_a__435 := p_a__435.push ef_469 nq_468
  have p_q_444 := p_q_444.push ef_469 nq_468
  have dq_447_q_468 := p_q_447.neQ nq_468
  have p_q_447 := p_q_447.push ef_469 nq_468
  have p_a__451 := p_a__451.push ef_469 nq_468
  have dq_457_q_468 := p_q_457.neQ nq_468
  have p_q_457 := p_q_457.push ef_469 nq_468
  have p_a__461 := p_a__461.push ef_469 nq_468
  have p_q_468 := pt.new (L := L_459) ef_469
  refine lv_dup hx hb dX10_init_78 rfl ?_
  refine lv_bipush (v := 8) hx hb dX10_init_79 (by decide) ?_
  refine cIv (b := q_468) (As := [.int 8]) (rest := [.ref q_468, .ref h]) S Y (c_told8 (l := l) p_q_468) cw_X9_init km10_37 rfl ⟨Nat.le_of_ble_eq_true rfl, Nat.le_of_ble_eq_true rfl⟩ hl.1 rfl (Nat.le_of_ble_eq_true rfl) ⟨Nat.le_of_ble_eq_true rfl, Nat.le_of_ble_eq_true rfl⟩ dX10_init_81 (fun L_470 f_471 H locs hf_471 Y => ?_)
  obtain ⟨a__472, kf_471, z_z_473, z_z_474, v_475⟩ := hf_471
  have d_476 := p_a__451.neQ v_475
  have d_477 := p_a__461.neQ v_475
  have w_478 := hk.notin v_475
  have p_h := kf_471.1 h _ (nmc (p_h.neK p_q_468 (by decide)) nm0) p_h
  have p_q_421 := kf_471.1 q_421 _ (nmc (p_q_421.neB p_q_468) nm0) p_q_421
  have p_q_424 := kf_471.1 q_424 _ (nmc (p_q_424.neB p_q_468) nm0) p_q_424
  have p_q_427 := kf_471.1 q_427 _ (nmc (p_q_427.neB p_q_468) nm0) p_q_427
  have p_q_430 := kf_471.1 q_430 _ (nmc (p_q_430.neK p_q_468 (by decide)) nm0) p_q_430
  have p_a__434 := kf_471.1 a__434 _ (nmc (p_a__434.neB p_q_468) nm0) p_a__434
  have p_a__435 := kf_471.1 a__435 _ (nmc (p_a__435.neB p_q_468) nm0) p_a__435
  have p_q_444 := kf_471.1 q_444 _ (nmc (p_q_444.neB p_q_468) nm0) p_q_444
  have p_q_447 := kf_471.1 q_447 _ (nmc (dq_447_q_468) nm0) p_q_447
  have p_a__451 := kf_471.1 a__451 _ (nmc (p_a__451.neB p_q_468) nm0) p_a__451
  have p_q_457 := kf_471.1 q_457 _ (nmc (dq_457_q_468) nm0) p_q_457
  have p_a__461 := kf_471.1 a__461 _ (nmc (p_a__461.neB p_q_468) nm0) p_a__461
  have p_q_468 := z_z_473
  have p_a__472 := z_z_474
  have hk := hk.call kf_471 (fun b hb hp => (nmc (neL hp whkq_468) nm0))
  refine pg_putF S Y hname ok_X10 7 (by decide) kf10_47 rfl rfl (fs' := [.ref q_421, .ref q_424, .ref q_427, .ref q_430, .ref q_444, .ref q_447, .ref q_457, .ref q_468, .null, .null, .int 0, .int 0, .int 0, .int 0, .int 0]) (v := .ref q_468) p_h rfl rfl rfl (Nat.le_of_ble_eq_true rfl) dX10_init_84 (fun f_479 H locs ef_479 Y => ?_)
  have p_q_421 := p_q_421.up ef_479 ((p_q_421.neB p_h))
  have p_q_424 := p_q_424.up ef_479 ((p_q_424.neB p_h))
  have p_q_427 := p_q_427.up ef_479 ((p_q_427.neB p_h))
  have p_q_430 := p_q_430.up ef_479 ((p_q_430.neK p_h (by decide)))
  have p_a__434 := p_a__434.up ef_479 ((p_a__434.neB p_h))
  have p_a__435 := p_a__435.up ef_479 ((p_a__435.neB p_h))
  have p_q_444 := p_q_444.up ef_479 ((p_q_444.neB p_h))
  have p_q_447 := p_q_447.up ef_479 ((p_q_447.neK p_h (by decide)))
  have p_a__451 := p_a__451.up ef_479 ((p_a__451.neB p_h))
  have p_q_457 := p_q_457.up ef_479 ((p_q_457.neK p_h (by decide)))
  have p_a__461 := p_a__461.up ef_479 ((p_a__461.neB p_h))
  have p_q_468 := p_q_468.up ef_479 ((p_q_468.neK p_h (by decide)))
  have p_a__472 := p_a__472.up ef_479 ((p_a__472.neB p_h))
  have p_h := p_h.me ef_479
  have hk := hk.up ef_479 (by simp)
  refine lv_aload_n hx hb dX10_init_87 rfl (lv_at hl 0 rfl) ?_
  refine pg_new S Y ok_X9 kc10_35 kn9 ki9 (fs := [.null, .int 0, .int 0]) (by decide) (by decide) (by decide) dX10_init_88 (fun q_480 f_481 H nq_480 ef_481 Y => ?_)
  have whkq_480 := hk.notin nq_480
  have hk := hk.push ef_481 nq_480
  have p_h := p_h.push ef_481 nq_480
  have p_q_421 := p_q_421.push ef_481 nq_480
  have p_q_424 := p_q_424.push ef_481 nq_480
  have p_q_427 := p_q_427.push ef_481 nq_480
  have p_q_430 := p_q_430.push ef_481 nq_480
  have p_a__434 := p_a__434.push ef_481 nq_480
  have p_a__435 := p_a__435.push ef_481 nq_480
  have p_q_444 := p_q_444.push ef_481 nq_480
  have dq_447_q_480 := p_q_447.neQ nq_480
  have p_q_447 := p_q_447.push ef_481 nq_480
  have p_a__451 := p_a__451.push ef_481 nq_480
  have dq_457_q_480 := p_q_457.neQ nq_480
  have p_q_457 := p_q_457.push ef_481 nq_480
  have p_a__461 := p_a__461.push ef_481 nq_480
  have dq_468_q_480 := p_q_468.neQ nq_480
  have p_q_468 := p_q_468.push ef_481 nq_480
  have p_a__472 := p_a__472.push ef_481 nq_480
  have p_q_480 := pt.new (L := L_470) ef_481
  refine lv_dup hx hb dX10_init_91 rfl ?_
  refine lv_bipush (v := 8) hx hb dX10_init_92 (by decide) ?_
  refine cIv (b := q_480) (As := [.int 8]) (rest := [.ref q_480, .ref h]) S Y (c_told8 (l := l) p_q_480) cw_X9_init km10_37 rfl ⟨Nat.le_of_ble_eq_true rfl, Nat.le_of_ble_eq_true rfl⟩ hl.1 rfl (Nat.le_of_ble_eq_true rfl) ⟨Nat.le_of_ble_eq_true rfl, Nat.le_of_ble_eq_true rfl⟩ dX10_init_94 (fun L_482 f_483 H locs hf_483 Y => ?_)
  obtain ⟨a__484, kf_483, z_z_485, z_z_486, v_487⟩ := hf_483
  have d_488 := p_a__451.neQ v_487
  have d_489 := p_a__461.neQ v_487
  have d_490 := p_a__472.neQ v_487
  have w_491 := hk.notin v_487
  have p_h := kf_483.1 h _ (nmc (p_h.neK p_q_480 (by decide)) nm0) p_h
  have p_q_421 := kf_483.1 q_421 _ (nmc (p_q_421.neB p_q_480) nm0) p_q_421
  have p_q_424 := kf_483.1 q_424 _ (nmc (p_q_424.neB p_q_480) nm0) p_q_424
  have p_q_427 := kf_483.1 q_427 _ (nmc (p_q_427.neB p_q_480) nm0) p_q_427
  have p_q_430 := kf_483.1 q_430 _ (nmc (p_q_430.neK p_q_480 (by decide)) nm0) p_q_430
  have p_a__434 := kf_483.1 a__434 _ (nmc (p_a__434.neB p_q_480) nm0) p_a__434
  have p_a__435 := kf_483.1 a__435 _ (nmc (p_a__435.neB p_q_480) nm0) p_a__435
  have p_q_444 := kf_483.1 q_444 _ (nmc (p_q_444.neB p_q_480) nm0) p_q_444
  have p_q_447 := kf_483.1 q_447 _ (nmc (dq_447_q_480) nm0) p_q_447
  have p_a__451 := kf_483.1 a__451 _ (nmc (p_a__451.neB p_q_480) nm0) p_a__451
  have p_q_457 := kf_483.1 q_457 _ (nmc (dq_457_q_480) nm0) p_q_457
  have p_a__461 := kf_483.1 a__461 _ (nmc (p_a__461.neB p_q_480) nm0) p_a__461
  have p_q_468 := kf_483.1 q_468 _ (nmc (dq_468_q_480) nm0) p_q_468
  have p_a__472 := kf_483.1 a__472 _ (nmc (p_a__472.neB p_q_480) nm0) p_a__472
  have p_q_480 := z_z_485
  have p_a__484 := z_z_486
  have hk := hk.call kf_483 (fun b hb hp => (nmc (neL hp whkq_480) nm0))
  refine pg_putF S Y hname ok_X10 8 (by decide) kf10_50 rfl rfl (fs' := [.ref q_421, .ref q_424, .ref q_427, .ref q_430, .ref q_444, .ref q_447, .ref q_457, .ref q_468, .ref q_480, .null, .int 0, .int 0, .int 0, .int 0, .int 0]) (v := .ref q_480) p_h rfl rfl rfl (Nat.le_of_ble_eq_true rfl) dX10_init_97 (fun f_492 H locs ef_492 Y => ?_)
  have p_q_421 := p_q_421.up ef_492 ((p_q_421.neB p_h))
  have p_q_424 := p_q_424.up ef_492 ((p_q_424.neB p_h))
  have p_q_427 := p_q_427.up ef_492 ((p_q_427.neB p_h))
  have p_q_430 := p_q_430.up ef_492 ((p_q_430.neK p_h (by decide)))
  have p_a__434 := p_a__434.up ef_492 ((p_a__434.neB p_h))
  have p_a__435 := p_a__435.up ef_492 ((p_a__435.neB p_h))
  have p_q_444 := p_q_444.up ef_492 ((p_q_444.neB p_h))
  have p_q_447 := p_q_447.up ef_492 ((p_q_447.neK p_h (by decide)))
  have p_a__451 := p_a__451.up ef_492 ((p_a__451.neB p_h))
  have p_q_457 := p_q_457.up ef_492 ((p_q_457.neK p_h (by decide)))
  have p_a__461 := p_a__461.up ef_492 ((p_a__461.neB p_h))
  have p_q_468 := p_q_468.up ef_492 ((p_q_468.neK p_h (by decide)))
  have p_a__472 := p_a__472.up ef_492 ((p_a__472.neB p_h))
  have p_q_480 := p_q_480.up ef_492 ((p_q_480.neK p_h (by decide)))
  have p_a__484 := p_a__484.up ef_492 ((p_a__484.neB p_h))
  have p_h := p_h.me ef_492
  have hk := hk.up ef_492 (by simp)
  refine lv_aload_n hx hb dX10_init_100 rfl (lv_at hl 0 rfl) ?_
  refine pg_new S Y ok_X9 kc10_35 kn9 ki9 (fs := [.null, .int 0, .int 0]) (by decide) (by decide) (by decide) dX10_init_101 (fun q_493 f_494 H nq_493 ef_494 Y => ?_)
  have whkq_493 := hk.notin nq_493
  have hk := hk.push ef_494 nq_493
  have p_h := p_h.push ef_494 nq_493
  have p_q_421 := p_q_421.push ef_494 nq_493
  have p_q_424 := p_q_424.push ef_494 nq_493
  have p_q_427 := p_q_427.push ef_494 nq_493
  have p_q_430 := p_q_430.push ef_494 nq_493
  have p_a__434 := p_a__434.push ef_494 nq_493
  have p_a__435 := p_a__435.push ef_494 nq_493
  have p_q_444 := p_q_444.push ef_494 nq_493
  have dq_447_q_493 := p_q_447.neQ nq_493
  have p_q_447 := p_q_447.push ef_494 nq_493
  have p_a__451 := p_a__451.push ef_494 nq_493
  have dq_457_q_493 := p_q_457.neQ nq_493
  have p_q_457 := p_q_457.push ef_494 nq_493
  have p_a__461 := p_a__461.push ef_494 nq_493
  have dq_468_q_493 := p_q_468.neQ nq_493
  have p_q_468 := p_q_468.push ef_494 nq_493
  have p_a__472 := p_a__472.push ef_494 nq_493
  have dq_480_q_493 := p_q_480.neQ nq_493
  have p_q_480 := p_q_480.push ef_494 nq_493
  have p_a__484 := p_a__484.push ef_494 nq_493
  have p_q_493 := pt.new (L := L_482) ef_494
  refine lv_dup hx hb dX10_init_104 rfl ?_
  refine lv_bipush (v := 8) hx hb dX10_init_105 (by decide) ?_
  refine cIv (b := q_493) (As := [.int 8]) (rest := [.ref q_493, .ref h]) S Y (c_told8 (l := l) p_q_493) cw_X9_init km10_37 rfl ⟨Nat.le_of_ble_eq_true rfl, Nat.le_of_ble_eq_true rfl⟩ hl.1 rfl (Nat.le_of_ble_eq_true rfl) ⟨Nat.le_of_ble_eq_true rfl, Nat.le_of_ble_eq_true rfl⟩ dX10_init_107 (fun L_495 f_496 H locs hf_496 Y => ?_)
  obtain ⟨a__497, kf_496, z_z_498, z_z_499, v_500⟩ := hf_496
  have d_501 := p_a__451.neQ v_500
  have d_502 := p_a__461.neQ v_500
  have d_503 := p_a__472.neQ v_500
  have d_504 := p_a__484.neQ v_500
  have w_505 := hk.notin v_500
  have p_h := kf_496.1 h _ (nmc (p_h.neK p_q_493 (by decide)) nm0) p_h
  have p_q_421 := kf_496.1 q_421 _ (nmc (p_q_421.neB p_q_493) nm0) p_q_421
  have p_q_424 := kf_496.1 q_424 _ (nmc (p_q_424.neB p_q_493) nm0) p_q_424
  have p_q_427 := kf_496.1 q_427 _ (nmc (p_q_427.neB p_q_493) nm0) p_q_427
  have p_q_430 := kf_496.1 q_430 _ (nmc (p_q_430.neK p_q_493 (by decide)) nm0) p_q_430
  have p_a__434 := kf_496.1 a__434 _ (nmc (p_a__434.neB p_q_493) nm0) p_a__434
  have p_a__435 := kf_496.1 a__435 _ (nmc (p_a__435.neB p_q_493) nm0) p_a__435
  have p_q_444 := kf_496.1 q_444 _ (nmc (p_q_444.neB p_q_493) nm0) p_q_444
  have p_q_447 := kf_496.1 q_447 _ (nmc (dq_447_q_493) nm0) p_q_447
  have p_a__451 := kf_496.1 a__451 _ (nmc (p_a__451.neB p_q_493) nm0) p_a__451
  have p_q_457 := kf_496.1 q_457 _ (nmc (dq_457_q_493) nm0) p_q_457
  have p_a__461 := kf_496.1 a__461 _ (nmc (p_a__461.neB p_q_493) nm0) p_a__461
  have p_q_468 := kf_496.1 q_468 _ (nmc (dq_468_q_493) nm0) p_q_468
  have p_a__472 := kf_496.1 a__472 _ (nmc (p_a__472.neB p_q_493) nm0) p_a__472
  have p_q_480 := kf_496.1 q_480 _ (nmc (dq_480_q_493) nm0) p_q_480
  have p_a__484 := kf_496.1 a__484 _ (nmc (p_a__484.neB p_q_493) nm0) p_a__484
  have p_q_493 := z_z_498
  have p_a__497 := z_z_499
  have hk := hk.call kf_496 (fun b hb hp => (nmc (neL hp whkq_493) nm0))
  refine pg_putF S Y hname ok_X10 9 (by decide) kf10_53 rfl rfl (fs' := [.ref q_421, .ref q_424, .ref q_427, .ref q_430, .ref q_444, .ref q_447, .ref q_457, .ref q_468, .ref q_480, .ref q_493, .int 0, .int 0, .int 0, .int 0, .int 0]) (v := .ref q_493) p_h rfl rfl rfl (Nat.le_of_ble_eq_true rfl) dX10_init_110 (fun f_506 H locs ef_506 Y => ?_)
  have p_q_421 := p_q_421.up ef_506 ((p_q_421.neB p_h))
  have p_q_424 := p_q_424.up ef_506 ((p_q_424.neB p_h))
  have p_q_427 := p_q_427.up ef_506 ((p_q_427.neB p_h))
  have p_q_430 := p_q_430.up ef_506 ((p_q_430.neK p_h (by decide)))
  have p_a__434 := p_a__434.up ef_506 ((p_a__434.neB p_h))
  have p_a__435 := p_a__435.up ef_506 ((p_a__435.neB p_h))
  have p_q_444 := p_q_444.up ef_506 ((p_q_444.neB p_h))
  have p_q_447 := p_q_447.up ef_506 ((p_q_447.neK p_h (by decide)))
  have p_a__451 := p_a__451.up ef_506 ((p_a__451.neB p_h))
  have p_q_457 := p_q_457.up ef_506 ((p_q_457.neK p_h (by decide)))
  have p_a__461 := p_a__461.up ef_506 ((p_a__461.neB p_h))
  have p_q_468 := p_q_468.up ef_506 ((p_q_468.neK p_h (by decide)))
  have p_a__472 := p_a__472.up ef_506 ((p_a__472.neB p_h))
  have p_q_480 := p_q_480.up ef_506 ((p_q_480.neK p_h (by decide)))
  have p_a__484 := p_a__484.up ef_506 ((p_a__484.neB p_h))
  have p_q_493 := p_q_493.up ef_506 ((p_q_493.neK p_h (by decide)))
  have p_a__497 := p_a__497.up ef_506 ((p_a__497.neB p_h))
  have p_h := p_h.me ef_506
  have hk := hk.up ef_506 (by simp)
  refine lv_aload_n hx hb dX10_init_113 rfl (lv_at hl 0 rfl) ?_
  refine lv_iconst (v := (-1)) hx hb dX10_init_114 (by decide) ?_
  refine pg_put S Y ok_X10 12 (by decide) kf10_56 rfl (fs' := [.ref q_421, .ref q_424, .ref q_427, .ref q_430, .ref q_444, .ref q_447, .ref q_457, .ref q_468, .ref q_480, .ref q_493, .int 0, .int 0, .int (-1), .int 0, .int 0]) (v := .int (-1)) p_h rfl rfl rfl (Nat.le_of_ble_eq_true rfl) dX10_init_115 (fun f_507 H locs ef_507 Y => ?_)
  have p_q_421 := p_q_421.up ef_507 ((p_q_421.neB p_h))
  have p_q_424 := p_q_424.up ef_507 ((p_q_424.neB p_h))
  have p_q_427 := p_q_427.up ef_507 ((p_q_427.neB p_h))
  have p_q_430 := p_q_430.up ef_507 ((p_q_430.neK p_h (by decide)))
  have p_a__434 := p_a__434.up ef_507 ((p_a__434.neB p_h))
  have p_a__435 := p_a__435.up ef_507 ((p_a__435.neB p_h))
  have p_q_444 := p_q_444.up ef_507 ((p_q_444.neB p_h))
  have p_q_447 := p_q_447.up ef_507 ((p_q_447.neK p_h (by decide)))
  have p_a__451 := p_a__451.up ef_507 ((p_a__451.neB p_h))
  have p_q_457 := p_q_457.up ef_507 ((p_q_457.neK p_h (by decide)))
  have p_a__461 := p_a__461.up ef_507 ((p_a__461.neB p_h))
  have p_q_468 := p_q_468.up ef_507 ((p_q_468.neK p_h (by decide)))
  have p_a__472 := p_a__472.up ef_507 ((p_a__472.neB p_h))
  have p_q_480 := p_q_480.up ef_507 ((p_q_480.neK p_h (by decide)))
  have p_a__484 := p_a__484.up ef_507 ((p_a__484.neB p_h))
  have p_q_493 := p_q_493.up ef_507 ((p_q_493.neK p_h (by decide)))
  have p_a__497 := p_a__497.up ef_507 ((p_a__497.neB p_h))
  have p_h := p_h.me ef_507
  have hk := hk.up ef_507 (by simp)
  refine lv_iconst (v := 0) hx hb dX10_init_118 (by decide) ?_
  refine lv_istore_n (lv' := [(1, .int 0), (0, .ref h)]) hx hb dX10_init_119 rfl hl (by decide) rfl (fun ls hl => ?_)
  refine lv_iload_n hx hb dX10_init_120 rfl (lv_at hl 0 rfl) ?_
  refine lv_iconst (v := 4) hx hb dX10_init_121 (by decide) ?_
  refine lv_icmp_ge (tgt := 144) hx hb dX10_init_122 (by decide) (fun h => absurd h (by decide)) (fun _ => ?_)
  refine lv_aload_n hx hb dX10_init_125 rfl (lv_at hl 1 rfl) ?_
  refine pg_get S Y ok_X10 2 (by decide) kf10_20 (v := .ref q_427) p_h rfl dX10_init_126 ?_
  refine lv_iload_n hx hb dX10_init_129 rfl (lv_at hl 0 rfl) ?_
  refine pg_new S Y ok_X7 kc10_18 kn7 ki7 (fs := [.null, .null, .null, .null, .null, .int 0, .int 0]) (by decide) (by decide) (by decide) dX10_init_130 (fun q_508 f_509 H nq_508 ef_509 Y => ?_)
  have whkq_508 := hk.notin nq_508
  have hk := hk.push ef_509 nq_508
  have p_h := p_h.push ef_509 nq_508
  have p_q_421 := p_q_421.push ef_509 nq_508
  have p_q_424 := p_q_424.push ef_509 nq_508
  have p_q_427 := p_q_427.push ef_509 nq_508
  have p_q_430 := p_q_430.push ef_509 nq_508
  have p_a__434 := p_a__434.push ef_509 nq_508
  have p_a__435 := p_a__435.push ef_509 nq_508
  have p_q_444 := p_q_444.push ef_509 nq_508
  have p_q_447 := p_q_447.push ef_509 nq_508
  have p_a__451 := p_a__451.push ef_509 nq_508
  have p_q_457 := p_q_457.push ef_509 nq_508
  have p_a__461 := p_a__461.push ef_509 nq_508
  have p_q_468 := p_q_468.push ef_509 nq_508
  have p_a__472 := p_a__472.push ef_509 nq_508
  have p_q_480 := p_q_480.push ef_509 nq_508
  have p_a__484 := p_a__484.push ef_509 nq_508
  have p_q_493 := p_q_493.push ef_509 nq_508
  have p_a__497 := p_a__497.push ef_509 nq_508
  have p_q_508 := pt.new (L := L_495) ef_509
  refine lv_dup hx hb dX10_init_133 rfl ?_
  refine cINv (b := q_508) (As := []) (rest := [.ref q_508, .int 0, .ref q_427]) S Y (c_X7_init (l := l) p_q_508) cw_X7_init km10_60 rfl ⟨Nat.le_of_ble_eq_true rfl, Nat.le_of_ble_eq_true rfl⟩ hl.1 rfl (Nat.le_of_ble_eq_true rfl) ⟨Nat.le_of_ble_eq_true rfl, Nat.le_of_ble_eq_true rfl⟩ dX10_init_134 (fun L_510 f_511 H locs hf_511 Y => ?_)
  obtain ⟨a__512, a__513, a__514, a__515, a__516, kf_511, z_z_517, z_z_518, z_z_519, n4_520⟩ := hf_511
  have p_h := kf_511.1 h _ (nmc (p_h.neK p_q_508 (by decide)) nm0) p_h
  have p_q_421 := kf_511.1 q_421 _ (nmc (p_q_421.neB p_q_508) nm0) p_q_421
  have p_q_424 := kf_511.1 q_424 _ (nmc (p_q_424.neB p_q_508) nm0) p_q_424
  have p_q_427 := kf_511.1 q_427 _ (nmc (p_q_427.neB p_q_508) nm0) p_q_427
  have p_q_430 := kf_511.1 q_430 _ (nmc (p_q_430.neK p_q_508 (by decide)) nm0) p_q_430
  have p_a__434 := kf_511.1 a__434 _ (nmc (p_a__434.neB p_q_508) nm0) p_a__434
  have p_a__435 := kf_511.1 a__435 _ (nmc (p_a__435.neB p_q_508) nm0) p_a__435
  have p_q_444 := kf_511.1 q_444 _ (nmc (p_q_444.neB p_q_508) nm0) p_q_444
  have p_q_447 := kf_511.1 q_447 _ (nmc (p_q_447.neK p_q_508 (by decide)) nm0) p_q_447
  have p_a__451 := kf_511.1 a__451 _ (nmc (p_a__451.neB p_q_508) nm0) p_a__451
  have p_q_457 := kf_511.1 q_457 _ (nmc (p_q_457.neK p_q_508 (by decide)) nm0) p_q_457
  have p_a__461 := kf_511.1 a__461 _ (nmc (p_a__461.neB p_q_508) nm0) p_a__461
  have p_q_468 := kf_511.1 q_468 _ (nmc (p_q_468.neK p_q_508 (by decide)) nm0) p_q_468
  have p_a__472 := kf_511.1 a__472 _ (nmc (p_a__472.neB p_q_508) nm0) p_a__472
  have p_q_480 := kf_511.1 q_480 _ (nmc (p_q_480.neK p_q_508 (by decide)) nm0) p_q_480
  have p_a__484 := kf_511.1 a__484 _ (nmc (p_a__484.neB p_q_508) nm0) p_a__484
  have p_q_493 := kf_511.1 q_493 _ (nmc (p_q_493.neK p_q_508 (by decide)) nm0) p_q_493
  have p_a__497 := kf_511.1 a__497 _ (nmc (p_a__497.neB p_q_508) nm0) p_a__497
  have p_q_508 := z_z_517
  have p_a__514 := z_z_518
  have p_a__515 := z_z_519
  have hk := hk.call kf_511 (fun b hb hp => (nmc (neL hp whkq_508) nm0))
  refine pg_aast S Y (k := 4) p_q_427 rfl p_q_508 ok_X7.1 (by unfold vp_in; decide) dX10_init_137 (fun f_522 H locs ef_522 Y => ?_)
  obtain ⟨g_521, eg_521⟩ : ∃ z, z = va_up ((fun _ => none)) (0 : Int32).toNatClampNeg (some q_508) := ⟨_, rfl⟩
  rw [← eg_521] at ef_522
  have p_h := p_h.up ef_522 ((p_h.neA p_q_427))
  have p_q_421 := p_q_421.up ef_522 ((p_q_421.neN p_q_427 (by decide)))
  have p_q_424 := p_q_424.up ef_522 ((p_q_424.neN p_q_427 (by decide)))
  have p_q_430 := p_q_430.up ef_522 ((p_q_430.neA p_q_427))
  have p_a__434 := p_a__434.up ef_522 ((p_a__434.neN p_q_427 (by decide)))
  have p_a__435 := p_a__435.up ef_522 ((p_a__435.neN p_q_427 (by decide)))
  have p_q_444 := p_q_444.up ef_522 ((p_q_444.neN p_q_427 (by decide)))
  have p_q_447 := p_q_447.up ef_522 ((p_q_447.neA p_q_427))
  have p_a__451 := p_a__451.up ef_522 ((p_a__451.neN p_q_427 (by decide)))
  have p_q_457 := p_q_457.up ef_522 ((p_q_457.neA p_q_427))
  have p_a__461 := p_a__461.up ef_522 ((p_a__461.neN p_q_427 (by decide)))
  have p_q_468 := p_q_468.up ef_522 ((p_q_468.neA p_q_427))
  have p_a__472 := p_a__472.up ef_522 ((p_a__472.neN p_q_427 (by decide)))
  have p_q_480 := p_q_480.up ef_522 ((p_q_480.neA p_q_427))
  have p_a__484 := p_a__484.up ef_522 ((p_a__484.neN p_q_427 (by decide)))
  have p_q_493 := p_q_493.up ef_522 ((p_q_493.neA p_q_427))
  have p_a__497 := p_a__497.up ef_522 ((p_a__497.neN p_q_427 (by decide)))
  have p_q_508 := p_q_508.up ef_522 ((p_q_508.neA p_q_427))
  have p_a__514 := p_a__514.up ef_522 ((p_a__514.neN p_q_427 (by decide)))
  have p_a__515 := p_a__515.up ef_522 ((p_a__515.neN p_q_427 (by decide)))
  have p_q_427 := p_q_427.me ef_522
  have hk := hk.upN ef_522 whkq_427
  have hsf : g_521 0 = some q_508 := by rw [eg_521]; exact va_up_self _ _ _
  refine lv_iinc (v := 1) (lv' := [(1, .int 1), (0, .ref h)]) hx hb dX10_init_138 hl (k := 0) rfl (by decide) (by decide) rfl (fun ls hl => ?_)
  refine lv_goto (tgt := 120) hx hb dX10_init_141 (by decide) ?_
  refine lv_iload_n hx hb dX10_init_120 rfl (lv_at hl 0 rfl) ?_
  refine lv_iconst (v := 4) hx hb dX10_init_121 (by decide) ?_
  refine lv_icmp_ge (tgt := 144) hx hb dX10_init_122 (by decide) (fun h => absurd h (by decide)) (fun _ => ?_)
  refine lv_aload_n hx hb dX10_init_125 rfl (lv_at hl 1 rfl) ?_
  refine pg_get S Y ok_X10 2 (by decide) kf10_20 (v := .ref q_427) p_h rfl dX10_init_126 ?_
  refine lv_iload_n hx hb dX10_init_129 rfl (lv_at hl 0 rfl) ?_
  refine pg_new S Y ok_X7 kc10_18 kn7 ki7 (fs := [.null, .null, .null, .null, .null, .int 0, .int 0]) (by decide) (by decide) (by decide) dX10_init_130 (fun q_523 f_524 H nq_523 ef_524 Y => ?_)
  have whkq_523 := hk.notin nq_523
  have hk := hk.push ef_524 nq_523
  have p_h := p_h.push ef_524 nq_523
  have p_q_421 := p_q_421.push ef_524 nq_523
  have p_q_424 := p_q_424.push ef_524 nq_523
  have p_q_427 := p_q_427.push ef_524 nq_523
  have p_q_430 := p_q_430.push ef_524 nq_523
  have p_a__434 := p_a__434.push ef_524 nq_523
  have p_a__435 := p_a__435.push ef_524 nq_523
  have p_q_444 := p_q_444.push ef_524 nq_523
  have p_q_447 := p_q_447.push ef_524 nq_523
  have p_a__451 := p_a__451.push ef_524 nq_523
  have p_q_457 := p_q_457.push ef_524 nq_523
  have p_a__461 := p_a__461.push ef_524 nq_523
  have p_q_468 := p_q_468.push ef_524 nq_523
  have p_a__472 := p_a__472.push ef_524 nq_523
  have p_q_480 := p_q_480.push ef_524 nq_523
  have p_a__484 := p_a__484.push ef_524 nq_523
  have p_q_493 := p_q_493.push ef_524 nq_523
  have p_a__497 := p_a__497.push ef_524 nq_523
  have dq_508_q_523 := p_q_508.neQ nq_523
  have p_q_508 := p_q_508.push ef_524 nq_523
  have p_a__514 := p_a__514.push ef_524 nq_523
  have p_a__515 := p_a__515.push ef_524 nq_523
  have p_q_523 := pt.new (L := L_510) ef_524
  refine lv_dup hx hb dX10_init_133 rfl ?_
  refine cINv (b := q_523) (As := []) (rest := [.ref q_523, .int 1, .ref q_427]) S Y (c_X7_init (l := l) p_q_523) cw_X7_init km10_60 rfl ⟨Nat.le_of_ble_eq_true rfl, Nat.le_of_ble_eq_true rfl⟩ hl.1 rfl (Nat.le_of_ble_eq_true rfl) ⟨Nat.le_of_ble_eq_true rfl, Nat.le_of_ble_eq_true rfl⟩ dX10_init_134 (fun L_525 f_526 H locs hf_526 Y => ?_)
  obtain ⟨a__527, a__528, a__529, a__530, a__531, kf_526, z_z_532, z_z_533, z_z_534, n4_535⟩ := hf_526
  have p_h := kf_526.1 h _ (nmc (p_h.neK p_q_523 (by decide)) nm0) p_h
  have p_q_421 := kf_526.1 q_421 _ (nmc (p_q_421.neB p_q_523) nm0) p_q_421
  have p_q_424 := kf_526.1 q_424 _ (nmc (p_q_424.neB p_q_523) nm0) p_q_424
  have p_q_427 := kf_526.1 q_427 _ (nmc (p_q_427.neB p_q_523) nm0) p_q_427
  have p_q_430 := kf_526.1 q_430 _ (nmc (p_q_430.neK p_q_523 (by decide)) nm0) p_q_430
  have p_a__434 := kf_526.1 a__434 _ (nmc (p_a__434.neB p_q_523) nm0) p_a__434
  have p_a__435 := kf_526.1 a__435 _ (nmc (p_a__435.neB p_q_523) nm0) p_a__435
  have p_q_444 := kf_526.1 q_444 _ (nmc (p_q_444.neB p_q_523) nm0) p_q_444
  have p_q_447 := kf_526.1 q_447 _ (nmc (p_q_447.neK p_q_523 (by decide)) nm0) p_q_447
  have p_a__451 := kf_526.1 a__451 _ (nmc (p_a__451.neB p_q_523) nm0) p_a__451
  have p_q_457 := kf_526.1 q_457 _ (nmc (p_q_457.neK p_q_523 (by decide)) nm0) p_q_457
  have p_a__461 := kf_526.1 a__461 _ (nmc (p_a__461.neB p_q_523) nm0) p_a__461
  have p_q_468 := kf_526.1 q_468 _ (nmc (p_q_468.neK p_q_523 (by decide)) nm0) p_q_468
  have p_a__472 := kf_526.1 a__472 _ (nmc (p_a__472.neB p_q_523) nm0) p_a__472
  have p_q_480 := kf_526.1 q_480 _ (nmc (p_q_480.neK p_q_523 (by decide)) nm0) p_q_480
  have p_a__484 := kf_526.1 a__484 _ (nmc (p_a__484.neB p_q_523) nm0) p_a__484
  have p_q_493 := kf_526.1 q_493 _ (nmc (p_q_493.neK p_q_523 (by decide)) nm0) p_q_493
  have p_a__497 := kf_526.1 a__497 _ (nmc (p_a__497.neB p_q_523) nm0) p_a__497
  have p_q_508 := kf_526.1 q_508 _ (nmc (dq_508_q_523) nm0) p_q_508
  have p_a__514 := kf_526.1 a__514 _ (nmc (p_a__514.neB p_q_523) nm0) p_a__514
  have p_a__515 := kf_526.1 a__515 _ (nmc (p_a__515.neB p_q_523) nm0) p_a__515
  have p_q_523 := z_z_532
  have p_a__529 := z_z_533
  have p_a__530 := z_z_534
  have hk := hk.call kf_526 (fun b hb hp => (nmc (neL hp whkq_523) nm0))
  refine pg_aast S Y (k := 4) p_q_427 rfl p_q_523 ok_X7.1 (by unfold vp_in; decide) dX10_init_137 (fun f_537 H locs ef_537 Y => ?_)
  obtain ⟨g_536, eg_536⟩ : ∃ z, z = va_up (g_521) (1 : Int32).toNatClampNeg (some q_523) := ⟨_, rfl⟩
  rw [← eg_536] at ef_537
  have p_h := p_h.up ef_537 ((p_h.neA p_q_427))
  have p_q_421 := p_q_421.up ef_537 ((p_q_421.neN p_q_427 (by decide)))
  have p_q_424 := p_q_424.up ef_537 ((p_q_424.neN p_q_427 (by decide)))
  have p_q_430 := p_q_430.up ef_537 ((p_q_430.neA p_q_427))
  have p_a__434 := p_a__434.up ef_537 ((p_a__434.neN p_q_427 (by decide)))
  have p_a__435 := p_a__435.up ef_537 ((p_a__435.neN p_q_427 (by decide)))
  have p_q_444 := p_q_444.up ef_537 ((p_q_444.neN p_q_427 (by decide)))
  have p_q_447 := p_q_447.up ef_537 ((p_q_447.neA p_q_427))
  have p_a__451 := p_a__451.up ef_537 ((p_a__451.neN p_q_427 (by decide)))
  have p_q_457 := p_q_457.up ef_537 ((p_q_457.neA p_q_427))
  have p_a__461 := p_a__461.up ef_537 ((p_a__461.neN p_q_427 (by decide)))
  have p_q_468 := p_q_468.up ef_537 ((p_q_468.neA p_q_427))
  have p_a__472 := p_a__472.up ef_537 ((p_a__472.neN p_q_427 (by decide)))
  have p_q_480 := p_q_480.up ef_537 ((p_q_480.neA p_q_427))
  have p_a__484 := p_a__484.up ef_537 ((p_a__484.neN p_q_427 (by decide)))
  have p_q_493 := p_q_493.up ef_537 ((p_q_493.neA p_q_427))
  have p_a__497 := p_a__497.up ef_537 ((p_a__497.neN p_q_427 (by decide)))
  have p_q_508 := p_q_508.up ef_537 ((p_q_508.neA p_q_427))
  have p_a__514 := p_a__514.up ef_537 ((p_a__514.neN p_q_427 (by decide)))
  have p_a__515 := p_a__515.up ef_537 ((p_a__515.neN p_q_427 (by decide)))
  have p_q_523 := p_q_523.up ef_537 ((p_q_523.neA p_q_427))
  have p_a__529 := p_a__529.up ef_537 ((p_a__529.neN p_q_427 (by decide)))
  have p_a__530 := p_a__530.up ef_537 ((p_a__530.neN p_q_427 (by decide)))
  have p_q_427 := p_q_427.me ef_537
  have hk := hk.upN ef_537 whkq_427
  have hsf : g_536 0 = some q_508 := by rw [eg_536]; exact (va_up_ne _ _ (by decide)).trans hsf
  refine lv_iinc (v := 2) (lv' := [(1, .int 2), (0, .ref h)]) hx hb dX10_init_138 hl (k := 0) rfl (by decide) (by decide) rfl (fun ls hl => ?_)
  refine lv_goto (tgt := 120) hx hb dX10_init_141 (by decide) ?_
  refine lv_iload_n hx hb dX10_init_120 rfl (lv_at hl 0 rfl) ?_
  refine lv_iconst (v := 4) hx hb dX10_init_121 (by decide) ?_
  refine lv_icmp_ge (tgt := 144) hx hb dX10_init_122 (by decide) (fun h => absurd h (by decide)) (fun _ => ?_)
  refine lv_aload_n hx hb dX10_init_125 rfl (lv_at hl 1 rfl) ?_
  refine pg_get S Y ok_X10 2 (by decide) kf10_20 (v := .ref q_427) p_h rfl dX10_init_126 ?_
  refine lv_iload_n hx hb dX10_init_129 rfl (lv_at hl 0 rfl) ?_
  refine pg_new S Y ok_X7 kc10_18 kn7 ki7 (fs := [.null, .null, .null, .null, .null, .int 0, .int 0]) (by decide) (by decide) (by decide) dX10_init_130 (fun q_538 f_539 H nq_538 ef_539 Y => ?_)
  have whkq_538 := hk.notin nq_538
  have hk := hk.push ef_539 nq_538
  have p_h := p_h.push ef_539 nq_538
  have p_q_421 := p_q_421.push ef_539 nq_538
  have p_q_424 := p_q_424.push ef_539 nq_538
  have p_q_427 := p_q_427.push ef_539 nq_538
  have p_q_430 := p_q_430.push ef_539 nq_538
  have p_a__434 := p_a__434.push ef_539 nq_538
  have p_a__435 := p_a__435.push ef_539 nq_538
  have p_q_444 := p_q_444.push ef_539 nq_538
  have p_q_447 := p_q_447.push ef_539 nq_538
  have p_a__451 := p_a__451.push ef_539 nq_538
  have p_q_457 := p_q_457.push ef_539 nq_538
  have p_a__461 := p_a__461.push ef_539 nq_538
  have p_q_468 := p_q_468.push ef_539 nq_538
  have p_a__472 := p_a__472.push ef_539 nq_538
  have p_q_480 := p_q_480.push ef_539 nq_538
  have p_a__484 := p_a__484.push ef_539 nq_538
  have p_q_493 := p_q_493.push ef_539 nq_538
  have p_a__497 := p_a__497.push ef_539 nq_538
  have dq_508_q_538 := p_q_508.neQ nq_538
  have p_q_508 := p_q_508.push ef_539 nq_538
  have p_a__514 := p_a__514.push ef_539 nq_538
  have p_a__515 := p_a__515.push ef_539 nq_538
  have p_q_538 := pt.new (L := L_525) ef_539
  refine lv_dup hx hb dX10_init_133 rfl ?_
  refine cINv (b := q_538) (As := []) (rest := [.ref q_538, .int 2, .ref q_427]) S Y (c_X7_init (l := l) p_q_538) cw_X7_init km10_60 rfl ⟨Nat.le_of_ble_eq_true rfl, Nat.le_of_ble_eq_true rfl⟩ hl.1 rfl (Nat.le_of_ble_eq_true rfl) ⟨Nat.le_of_ble_eq_true rfl, Nat.le_of_ble_eq_true rfl⟩ dX10_init_134 (fun L_540 f_541 H locs hf_541 Y => ?_)
  obtain ⟨a__542, a__543, a__544, a__545, a__546, kf_541, z_z_547, z_z_548, z_z_549, n4_550⟩ := hf_541
  have p_h := kf_541.1 h _ (nmc (p_h.neK p_q_538 (by decide)) nm0) p_h
  have p_q_421 := kf_541.1 q_421 _ (nmc (p_q_421.neB p_q_538) nm0) p_q_421
  have p_q_424 := kf_541.1 q_424 _ (nmc (p_q_424.neB p_q_538) nm0) p_q_424
  have p_q_427 := kf_541.1 q_427 _ (nmc (p_q_427.neB p_q_538) nm0) p_q_427
  have p_q_430 := kf_541.1 q_430 _ (nmc (p_q_430.neK p_q_538 (by decide)) nm0) p_q_430
  have p_a__434 := kf_541.1 a__434 _ (nmc (p_a__434.neB p_q_538) nm0) p_a__434
  have p_a__435 := kf_541.1 a__435 _ (nmc (p_a__435.neB p_q_538) nm0) p_a__435
  have p_q_444 := kf_541.1 q_444 _ (nmc (p_q_444.neB p_q_538) nm0) p_q_444
  have p_q_447 := kf_541.1 q_447 _ (nmc (p_q_447.neK p_q_538 (by decide)) nm0) p_q_447
  have p_a__451 := kf_541.1 a__451 _ (nmc (p_a__451.neB p_q_538) nm0) p_a__451
  have p_q_457 := kf_541.1 q_457 _ (nmc (p_q_457.neK p_q_538 (by decide)) nm0) p_q_457
  have p_a__461 := kf_541.1 a__461 _ (nmc (p_a__461.neB p_q_538) nm0) p_a__461
  have p_q_468 := kf_541.1 q_468 _ (nmc (p_q_468.neK p_q_538 (by decide)) nm0) p_q_468
  have p_a__472 := kf_541.1 a__472 _ (nmc (p_a__472.neB p_q_538) nm0) p_a__472
  have p_q_480 := kf_541.1 q_480 _ (nmc (p_q_480.neK p_q_538 (by decide)) nm0) p_q_480
  have p_a__484 := kf_541.1 a__484 _ (nmc (p_a__484.neB p_q_538) nm0) p_a__484
  have p_q_493 := kf_541.1 q_493 _ (nmc (p_q_493.neK p_q_538 (by decide)) nm0) p_q_493
  have p_a__497 := kf_541.1 a__497 _ (nmc (p_a__497.neB p_q_538) nm0) p_a__497
  have p_q_508 := kf_541.1 q_508 _ (nmc (dq_508_q_538) nm0) p_q_508
  have p_a__514 := kf_541.1 a__514 _ (nmc (p_a__514.neB p_q_538) nm0) p_a__514
  have p_a__515 := kf_541.1 a__515 _ (nmc (p_a__515.neB p_q_538) nm0) p_a__515
  have p_q_538 := z_z_547
  have p_a__544 := z_z_548
  have p_a__545 := z_z_549
  have hk := hk.call kf_541 (fun b hb hp => (nmc (neL hp whkq_538) nm0))
  refine pg_aast S Y (k := 4) p_q_427 rfl p_q_538 ok_X7.1 (by unfold vp_in; decide) dX10_init_137 (fun f_552 H locs ef_552 Y => ?_)
  obtain ⟨g_551, eg_551⟩ : ∃ z, z = va_up (g_536) (2 : Int32).toNatClampNeg (some q_538) := ⟨_, rfl⟩
  rw [← eg_551] at ef_552
  have p_h := p_h.up ef_552 ((p_h.neA p_q_427))
  have p_q_421 := p_q_421.up ef_552 ((p_q_421.neN p_q_427 (by decide)))
  have p_q_424 := p_q_424.up ef_552 ((p_q_424.neN p_q_427 (by decide)))
  have p_q_430 := p_q_430.up ef_552 ((p_q_430.neA p_q_427))
  have p_a__434 := p_a__434.up ef_552 ((p_a__434.neN p_q_427 (by decide)))
  have p_a__435 := p_a__435.up ef_552 ((p_a__435.neN p_q_427 (by decide)))
  have p_q_444 := p_q_444.up ef_552 ((p_q_444.neN p_q_427 (by decide)))
  have p_q_447 := p_q_447.up ef_552 ((p_q_447.neA p_q_427))
  have p_a__451 := p_a__451.up ef_552 ((p_a__451.neN p_q_427 (by decide)))
  have p_q_457 := p_q_457.up ef_552 ((p_q_457.neA p_q_427))
  have p_a__461 := p_a__461.up ef_552 ((p_a__461.neN p_q_427 (by decide)))
  have p_q_468 := p_q_468.up ef_552 ((p_q_468.neA p_q_427))
  have p_a__472 := p_a__472.up ef_552 ((p_a__472.neN p_q_427 (by decide)))
  have p_q_480 := p_q_480.up ef_552 ((p_q_480.neA p_q_427))
  have p_a__484 := p_a__484.up ef_552 ((p_a__484.neN p_q_427 (by decide)))
  have p_q_493 := p_q_493.up ef_552 ((p_q_493.neA p_q_427))
  have p_a__497 := p_a__497.up ef_552 ((p_a__497.neN p_q_427 (by decide)))
  have p_q_508 := p_q_508.up ef_552 ((p_q_508.neA p_q_427))
  have p_a__514 := p_a__514.up ef_552 ((p_a__514.neN p_q_427 (by decide)))
  have p_a__515 := p_a__515.up ef_552 ((p_a__515.neN p_q_427 (by decide)))
  have p_q_538 := p_q_538.up ef_552 ((p_q_538.neA p_q_427))
  have p_a__544 := p_a__544.up ef_552 ((p_a__544.neN p_q_427 (by decide)))
  have p_a__545 := p_a__545.up ef_552 ((p_a__545.neN p_q_427 (by decide)))
  have p_q_427 := p_q_427.me ef_552
  have hk := hk.upN ef_552 whkq_427
  have hsf : g_551 0 = some q_508 := by rw [eg_551]; exact (va_up_ne _ _ (by decide)).trans hsf
  refine lv_iinc (v := 3) (lv' := [(1, .int 3), (0, .ref h)]) hx hb dX10_init_138 hl (k := 0) rfl (by decide) (by decide) rfl (fun ls hl => ?_)
  refine lv_goto (tgt := 120) hx hb dX10_init_141 (by decide) ?_
  refine lv_iload_n hx hb dX10_init_120 rfl (lv_at hl 0 rfl) ?_
  refine lv_iconst (v := 4) hx hb dX10_init_121 (by decide) ?_
  refine lv_icmp_ge (tgt := 144) hx hb dX10_init_122 (by decide) (fun h => absurd h (by decide)) (fun _ => ?_)
  refine lv_aload_n hx hb dX10_init_125 rfl (lv_at hl 1 rfl) ?_
  refine pg_get S Y ok_X10 2 (by decide) kf10_20 (v := .ref q_427) p_h rfl dX10_init_126 ?_
  refine lv_iload_n hx hb dX10_init_129 rfl (lv_at hl 0 rfl) ?_
  refine pg_new S Y ok_X7 kc10_18 kn7 ki7 (fs := [.null, .null, .null, .null, .null, .int 0, .int 0]) (by decide) (by decide) (by decide) dX10_init_130 (fun q_553 f_554 H nq_553 ef_554 Y => ?_)
  have whkq_553 := hk.notin nq_553
  have hk := hk.push ef_554 nq_553
  have p_h := p_h.push ef_554 nq_553
  have p_q_421 := p_q_421.push ef_554 nq_553
  have p_q_424 := p_q_424.push ef_554 nq_553
  have p_q_427 := p_q_427.push ef_554 nq_553
  have p_q_430 := p_q_430.push ef_554 nq_553
  have p_a__434 := p_a__434.push ef_554 nq_553
  have p_a__435 := p_a__435.push ef_554 nq_553
  have p_q_444 := p_q_444.push ef_554 nq_553
  have p_q_447 := p_q_447.push ef_554 nq_553
  have p_a__451 := p_a__451.push ef_554 nq_553
  have p_q_457 := p_q_457.push ef_554 nq_553
  have p_a__461 := p_a__461.push ef_554 nq_553
  have p_q_468 := p_q_468.push ef_554 nq_553
  have p_a__472 := p_a__472.push ef_554 nq_553
  have p_q_480 := p_q_480.push ef_554 nq_553
  have p_a__484 := p_a__484.push ef_554 nq_553
  have p_q_493 := p_q_493.push ef_554 nq_553
  have p_a__497 := p_a__497.push ef_554 nq_553
  have dq_508_q_553 := p_q_508.neQ nq_553
  have p_q_508 := p_q_508.push ef_554 nq_553
  have p_a__514 := p_a__514.push ef_554 nq_553
  have p_a__515 := p_a__515.push ef_554 nq_553
  have p_q_553 := pt.new (L := L_540) ef_554
  refine lv_dup hx hb dX10_init_133 rfl ?_
  refine cINv (b := q_553) (As := []) (rest := [.ref q_553, .int 3, .ref q_427]) S Y (c_X7_init (l := l) p_q_553) cw_X7_init km10_60 rfl ⟨Nat.le_of_ble_eq_true rfl, Nat.le_of_ble_eq_true rfl⟩ hl.1 rfl (Nat.le_of_ble_eq_true rfl) ⟨Nat.le_of_ble_eq_true rfl, Nat.le_of_ble_eq_true rfl⟩ dX10_init_134 (fun L_555 f_556 H locs hf_556 Y => ?_)
  obtain ⟨a__557, a__558, a__559, a__560, a__561, kf_556, z_z_562, z_z_563, z_z_564, n4_565⟩ := hf_556
  have p_h := kf_556.1 h _ (nmc (p_h.neK p_q_553 (by decide)) nm0) p_h
  have p_q_421 := kf_556.1 q_421 _ (nmc (p_q_421.neB p_q_553) nm0) p_q_421
  have p_q_424 := kf_556.1 q_424 _ (nmc (p_q_424.neB p_q_553) nm0) p_q_424
  have p_q_427 := kf_556.1 q_427 _ (nmc (p_q_427.neB p_q_553) nm0) p_q_427
  have p_q_430 := kf_556.1 q_430 _ (nmc (p_q_430.neK p_q_553 (by decide)) nm0) p_q_430
  have p_a__434 := kf_556.1 a__434 _ (nmc (p_a__434.neB p_q_553) nm0) p_a__434
  have p_a__435 := kf_556.1 a__435 _ (nmc (p_a__435.neB p_q_553) nm0) p_a__435
  have p_q_444 := kf_556.1 q_444 _ (nmc (p_q_444.neB p_q_553) nm0) p_q_444
  have p_q_447 := kf_556.1 q_447 _ (nmc (p_q_447.neK p_q_553 (by decide)) nm0) p_q_447
  have p_a__451 := kf_556.1 a__451 _ (nmc (p_a__451.neB p_q_553) nm0) p_a__451
  have p_q_457 := kf_556.1 q_457 _ (nmc (p_q_457.neK p_q_553 (by decide)) nm0) p_q_457
  have p_a__461 := kf_556.1 a__461 _ (nmc (p_a__461.neB p_q_553) nm0) p_a__461
  have p_q_468 := kf_556.1 q_468 _ (nmc (p_q_468.neK p_q_553 (by decide)) nm0) p_q_468
  have p_a__472 := kf_556.1 a__472 _ (nmc (p_a__472.neB p_q_553) nm0) p_a__472
  have p_q_480 := kf_556.1 q_480 _ (nmc (p_q_480.neK p_q_553 (by decide)) nm0) p_q_480
  have p_a__484 := kf_556.1 a__484 _ (nmc (p_a__484.neB p_q_553) nm0) p_a__484
  have p_q_493 := kf_556.1 q_493 _ (nmc (p_q_493.neK p_q_553 (by decide)) nm0) p_q_493
  have p_a__497 := kf_556.1 a__497 _ (nmc (p_a__497.neB p_q_553) nm0) p_a__497
  have p_q_508 := kf_556.1 q_508 _ (nmc (dq_508_q_553) nm0) p_q_508
  have p_a__514 := kf_556.1 a__514 _ (nmc (p_a__514.neB p_q_553) nm0) p_a__514
  have p_a__515 := kf_556.1 a__515 _ (nmc (p_a__515.neB p_q_553) nm0) p_a__515
  have p_q_553 := z_z_562
  have p_a__559 := z_z_563
  have p_a__560 := z_z_564
  have hk := hk.call kf_556 (fun b hb hp => (nmc (neL hp whkq_553) nm0))
  refine pg_aast S Y (k := 4) p_q_427 rfl p_q_553 ok_X7.1 (by unfold vp_in; decide) dX10_init_137 (fun f_567 H locs ef_567 Y => ?_)
  obtain ⟨g_566, eg_566⟩ : ∃ z, z = va_up (g_551) (3 : Int32).toNatClampNeg (some q_553) := ⟨_, rfl⟩
  rw [← eg_566] at ef_567
  have p_h := p_h.up ef_567 ((p_h.neA p_q_427))
  have p_q_421 := p_q_421.up ef_567 ((p_q_421.neN p_q_427 (by decide)))
  have p_q_424 := p_q_424.up ef_567 ((p_q_424.neN p_q_427 (by decide)))
  have p_q_430 := p_q_430.up ef_567 ((p_q_430.neA p_q_427))
  have p_a__434 := p_a__434.up ef_567 ((p_a__434.neN p_q_427 (by decide)))
  have p_a__435 := p_a__435.up ef_567 ((p_a__435.neN p_q_427 (by decide)))
  have p_q_444 := p_q_444.up ef_567 ((p_q_444.neN p_q_427 (by decide)))
  have p_q_447 := p_q_447.up ef_567 ((p_q_447.neA p_q_427))
  have p_a__451 := p_a__451.up ef_567 ((p_a__451.neN p_q_427 (by decide)))
  have p_q_457 := p_q_457.up ef_567 ((p_q_457.neA p_q_427))
  have p_a__461 := p_a__461.up ef_567 ((p_a__461.neN p_q_427 (by decide)))
  have p_q_468 := p_q_468.up ef_567 ((p_q_468.neA p_q_427))
  have p_a__472 := p_a__472.up ef_567 ((p_a__472.neN p_q_427 (by decide)))
  have p_q_480 := p_q_480.up ef_567 ((p_q_480.neA p_q_427))
  have p_a__484 := p_a__484.up ef_567 ((p_a__484.neN p_q_427 (by decide)))
  have p_q_493 := p_q_493.up ef_567 ((p_q_493.neA p_q_427))
  have p_a__497 := p_a__497.up ef_567 ((p_a__497.neN p_q_427 (by decide)))
  have p_q_508 := p_q_508.up ef_567 ((p_q_508.neA p_q_427))
  have p_a__514 := p_a__514.up ef_567 ((p_a__514.neN p_q_427 (by decide)))
  have p_a__515 := p_a__515.up ef_567 ((p_a__515.neN p_q_427 (by decide)))
  have p_q_553 := p_q_553.up ef_567 ((p_q_553.neA p_q_427))
  have p_a__559 := p_a__559.up ef_567 ((p_a__559.neN p_q_427 (by decide)))
  have p_a__560 := p_a__560.up ef_567 ((p_a__560.neN p_q_427 (by decide)))
  have p_q_427 := p_q_427.me ef_567
  have hk := hk.upN ef_567 whkq_427
  have hsf : g_566 0 = some q_508 := by rw [eg_566]; exact (va_up_ne _ _ (by decide)).trans hsf
  refine lv_iinc (v := 4) (lv' := [(1, .int 4), (0, .ref h)]) hx hb dX10_init_138 hl (k := 0) rfl (by decide) (by decide) rfl (fun ls hl => ?_)
  refine lv_goto (tgt := 120) hx hb dX10_init_141 (by decide) ?_
  refine lv_iload_n hx hb dX10_init_120 rfl (lv_at hl 0 rfl) ?_
  refine lv_iconst (v := 4) hx hb dX10_init_121 (by decide) ?_
  refine lv_icmp_ge (tgt := 144) hx hb dX10_init_122 (by decide) (fun _ => ?_) (fun h => absurd (by decide) h)
  refine lv_iconst (v := 0) hx hb dX10_init_144 (by decide) ?_
  refine lv_istore_n (lv' := [(1, .int 0), (0, .ref h)]) hx hb dX10_init_145 rfl hl (by decide) rfl (fun ls hl => ?_)
  have hpf0 : pastOK G L q_430 L_555 f_567 (fun _ => none) 0 := pastOK_zero
  have wnw : q_430 ∉ L := whkq_430
  have wpa : q_444 ∉ L := whkq_444
  have loop : ∀ (n i : Nat) (L2 : List Nat) (f2 : HF) (pf : Nat → Option Nat) (H : Heap) (locs : List Loc) (ls : Array Slot) (x : Int32), i + n = 30 → x = nI i → kp L f L2 f2 [h] → pt L2 f2 h (.inr (10, [.ref q_421, .ref q_424, .ref q_427, .ref q_430, .ref q_444, .ref q_447, .ref q_457, .ref q_468, .ref q_480, .ref q_493, .int 0, .int 0, .int (-1), .int 0, .int 0])) → pt L2 f2 q_421 (.inl (G.2 0, 6, .inl (fun _ => 0))) → pt L2 f2 q_424 (.inl (G.2 0, 6, .inl (fun _ => 0))) → pt L2 f2 q_427 (.inl (G.2 4, 4, .inr (.inr (.inr (.inr g_566))))) → pt L2 f2 q_430 (.inr (4, [.ref a__434, .ref a__435, .int 0, .int 0, .int 0, .int 0, .int 137])) → pt L2 f2 a__434 (.inl (G.2 0, 98, .inl (fun _ => 0))) → pt L2 f2 a__435 (.inl (G.2 0, 90, .inl (fun _ => 0))) → pt L2 f2 q_447 (.inr (9, [.ref a__451, .int 6, .int 0])) → pt L2 f2 a__451 (.inl (G.2 0, 24, .inl (fun _ => 0))) → pt L2 f2 q_457 (.inr (9, [.ref a__461, .int 8, .int 0])) → pt L2 f2 a__461 (.inl (G.2 0, 24, .inl (fun _ => 0))) → pt L2 f2 q_468 (.inr (9, [.ref a__472, .int 8, .int 0])) → pt L2 f2 a__472 (.inl (G.2 0, 24, .inl (fun _ => 0))) → pt L2 f2 q_480 (.inr (9, [.ref a__484, .int 8, .int 0])) → pt L2 f2 a__484 (.inl (G.2 0, 24, .inl (fun _ => 0))) → pt L2 f2 q_493 (.inr (9, [.ref a__497, .int 8, .int 0])) → pt L2 f2 a__497 (.inl (G.2 0, 24, .inl (fun _ => 0))) → pt L2 f2 q_508 (.inr (7, [.ref a__512, .ref a__513, .ref a__514, .ref a__515, .ref a__516, .int 0, .int 0])) → pt L2 f2 a__514 (.inl (G.2 0, 3, .inl (fun _ => 0))) → pt L2 f2 a__515 (.inl (G.2 0, 3, .inl (fun _ => 0))) → pt L2 f2 q_444 (.inl (G.2 3, 30, .inr (.inr (.inr (.inr pf))))) → pastOK G L q_430 L2 f2 pf i → DY G A s [] L2 f2 H locs → lv_has ls 2 [(1, .int x), (0, .ref h)] → W p l e (rmD 2 131 9158) s m args below meth c H locs (41 + 3 * i) (3308 + 195 * i) (MQ below (va_Qv (fun (u : List Nat × HF) => (fun L1 f1 => ∃ ta : Nat, ∃ ag : Nat, ∃ sc : Nat, ∃ nw : Nat, ∃ pa : Nat, ∃ fe : Nat, ∃ cl : Nat, ∃ wo : Nat, ∃ si : Nat, ∃ we : Nat, ∃ oa : Nat, ∃ aa : Nat, ∃ c1 : Nat, ∃ c2 : Nat, ∃ c3 : Nat, ∃ c4 : Nat, ∃ c5 : Nat, ∃ s0 : Nat, ∃ dg : Nat, ∃ nu : Nat, ∃ lf : Nat, ∃ lt : Nat, ∃ cs : Nat, ∃ sf : Nat → Option Nat, ∃ pf : Nat → Option Nat, kp L f L1 f1 [h] ∧ pt L1 f1 h (.inr (10, [.ref ta, .ref ag, .ref sc, .ref nw, .ref pa, .ref fe, .ref cl, .ref wo, .ref si, .ref we, .int 0, .int 0, .int (-1), .int 0, .int 0])) ∧ pt L1 f1 ta (.inl (G.2 0, 6, .inl (fun _ => 0))) ∧ pt L1 f1 ag (.inl (G.2 0, 6, .inl (fun _ => 0))) ∧ pt L1 f1 sc (.inl (G.2 4, 4, .inr (.inr (.inr (.inr sf))))) ∧ pt L1 f1 nw (.inr (4, [.ref oa, .ref aa, .int 0, .int 0, .int 0, .int 0, .int 137])) ∧ pt L1 f1 oa (.inl (G.2 0, 98, .inl (fun _ => 0))) ∧ pt L1 f1 aa (.inl (G.2 0, 90, .inl (fun _ => 0))) ∧ pt L1 f1 pa (.inl (G.2 3, 30, .inr (.inr (.inr (.inr pf))))) ∧ pt L1 f1 fe (.inr (9, [.ref c1, .int 6, .int 0])) ∧ pt L1 f1 cl (.inr (9, [.ref c2, .int 8, .int 0])) ∧ pt L1 f1 wo (.inr (9, [.ref c3, .int 8, .int 0])) ∧ pt L1 f1 si (.inr (9, [.ref c4, .int 8, .int 0])) ∧ pt L1 f1 we (.inr (9, [.ref c5, .int 8, .int 0])) ∧ pt L1 f1 c1 (.inl (G.2 0, 24, .inl (fun _ => 0))) ∧ pt L1 f1 c2 (.inl (G.2 0, 24, .inl (fun _ => 0))) ∧ pt L1 f1 c3 (.inl (G.2 0, 24, .inl (fun _ => 0))) ∧ pt L1 f1 c4 (.inl (G.2 0, 24, .inl (fun _ => 0))) ∧ pt L1 f1 c5 (.inl (G.2 0, 24, .inl (fun _ => 0))) ∧ pt L1 f1 s0 (.inr (7, [.ref dg, .ref nu, .ref lf, .ref lt, .ref cs, .int 0, .int 0])) ∧ pt L1 f1 lf (.inl (G.2 0, 3, .inl (fun _ => 0))) ∧ pt L1 f1 lt (.inl (G.2 0, 3, .inl (fun _ => 0))) ∧ ta ≠ ag ∧ lf ≠ lt ∧ sf 0 = some s0 ∧ pastOK G L nw L1 f1 pf 30 ∧ ta ∉ L ∧ ag ∉ L ∧ nw ∉ L ∧ oa ∉ L ∧ aa ∉ L ∧ fe ∉ L ∧ cl ∉ L ∧ wo ∉ L ∧ si ∉ L ∧ we ∉ L ∧ c1 ∉ L ∧ c2 ∉ L ∧ c3 ∉ L ∧ c4 ∉ L ∧ c5 ∉ L) u.1 u.2) (fun u t => pOut G (va_A (va_pl L f) sz) u.1 u.2 t) (va_A (va_pl L f) sz)) args s 131 9158 A) (F0 m 146 ls []) := by
    intro n
    induction n with
    | zero =>
      intro i L2 f2 pf H locs ls x hin ex hk p_h p_q_421 p_q_424 p_q_427 p_q_430 p_a__434 p_a__435 p_q_447 p_a__451 p_q_457 p_a__461 p_q_468 p_a__472 p_q_480 p_a__484 p_q_493 p_a__497 p_q_508 p_a__514 p_a__515 p_q_444 hpf Y hl
      obtain rfl : i = 30 := by omega
      obtain rfl : x = 30 := by rw [ex]; decide
      refine lv_iload_n hx hb dX10_init_146 rfl (lv_at hl 0 rfl) ?_
      refine lv_bipush (v := 30) hx hb dX10_init_147 (by decide) ?_
      refine lv_icmp_ge (tgt := 171) hx hb dX10_init_149 (by decide) (fun _ => ?_) (fun h => absurd (by decide) h)
      exact prV (post := fun L1 f1 => ∃ ta : Nat, ∃ ag : Nat, ∃ sc : Nat, ∃ nw : Nat, ∃ pa : Nat, ∃ fe : Nat, ∃ cl : Nat, ∃ wo : Nat, ∃ si : Nat, ∃ we : Nat, ∃ oa : Nat, ∃ aa : Nat, ∃ c1 : Nat, ∃ c2 : Nat, ∃ c3 : Nat, ∃ c4 : Nat, ∃ c5 : Nat, ∃ s0 : Nat, ∃ dg : Nat, ∃ nu : Nat, ∃ lf : Nat, ∃ lt : Nat, ∃ cs : Nat, ∃ sf : Nat → Option Nat, ∃ pf : Nat → Option Nat, kp L f L1 f1 [h] ∧ pt L1 f1 h (.inr (10, [.ref ta, .ref ag, .ref sc, .ref nw, .ref pa, .ref fe, .ref cl, .ref wo, .ref si, .ref we, .int 0, .int 0, .int (-1), .int 0, .int 0])) ∧ pt L1 f1 ta (.inl (G.2 0, 6, .inl (fun _ => 0))) ∧ pt L1 f1 ag (.inl (G.2 0, 6, .inl (fun _ => 0))) ∧ pt L1 f1 sc (.inl (G.2 4, 4, .inr (.inr (.inr (.inr sf))))) ∧ pt L1 f1 nw (.inr (4, [.ref oa, .ref aa, .int 0, .int 0, .int 0, .int 0, .int 137])) ∧ pt L1 f1 oa (.inl (G.2 0, 98, .inl (fun _ => 0))) ∧ pt L1 f1 aa (.inl (G.2 0, 90, .inl (fun _ => 0))) ∧ pt L1 f1 pa (.inl (G.2 3, 30, .inr (.inr (.inr (.inr pf))))) ∧ pt L1 f1 fe (.inr (9, [.ref c1, .int 6, .int 0])) ∧ pt L1 f1 cl (.inr (9, [.ref c2, .int 8, .int 0])) ∧ pt L1 f1 wo (.inr (9, [.ref c3, .int 8, .int 0])) ∧ pt L1 f1 si (.inr (9, [.ref c4, .int 8, .int 0])) ∧ pt L1 f1 we (.inr (9, [.ref c5, .int 8, .int 0])) ∧ pt L1 f1 c1 (.inl (G.2 0, 24, .inl (fun _ => 0))) ∧ pt L1 f1 c2 (.inl (G.2 0, 24, .inl (fun _ => 0))) ∧ pt L1 f1 c3 (.inl (G.2 0, 24, .inl (fun _ => 0))) ∧ pt L1 f1 c4 (.inl (G.2 0, 24, .inl (fun _ => 0))) ∧ pt L1 f1 c5 (.inl (G.2 0, 24, .inl (fun _ => 0))) ∧ pt L1 f1 s0 (.inr (7, [.ref dg, .ref nu, .ref lf, .ref lt, .ref cs, .int 0, .int 0])) ∧ pt L1 f1 lf (.inl (G.2 0, 3, .inl (fun _ => 0))) ∧ pt L1 f1 lt (.inl (G.2 0, 3, .inl (fun _ => 0))) ∧ ta ≠ ag ∧ lf ≠ lt ∧ sf 0 = some s0 ∧ pastOK G L nw L1 f1 pf 30 ∧ ta ∉ L ∧ ag ∉ L ∧ nw ∉ L ∧ oa ∉ L ∧ aa ∉ L ∧ fe ∉ L ∧ cl ∉ L ∧ wo ∉ L ∧ si ∉ L ∧ we ∉ L ∧ c1 ∉ L ∧ c2 ∉ L ∧ c3 ∉ L ∧ c4 ∉ L ∧ c5 ∉ L) S Y (by decide) (by decide) hA1 ⟨q_421, q_424, q_427, q_430, q_444, q_447, q_457, q_468, q_480, q_493, a__434, a__435, a__451, a__461, a__472, a__484, a__497, q_508, a__512, a__513, a__514, a__515, a__516, g_566, pf, hk, p_h, p_q_421, p_q_424, p_q_427, p_q_430, p_a__434, p_a__435, p_q_444, p_q_447, p_q_457, p_q_468, p_q_480, p_q_493, p_a__451, p_a__461, p_a__472, p_a__484, p_a__497, p_q_508, p_a__514, p_a__515, (dq_421_q_424), (n4_520), hsf, hpf, whkq_421, whkq_424, whkq_430, w_441, w_442, whkq_447, whkq_457, whkq_468, whkq_480, whkq_493, w_455, w_466, w_478, w_491, w_505⟩ dX10_init_171
    | succ n ih =>
      intro i L2 f2 pf H locs ls x hin ex hk p_h p_q_421 p_q_424 p_q_427 p_q_430 p_a__434 p_a__435 p_q_447 p_a__451 p_q_457 p_a__461 p_q_468 p_a__472 p_q_480 p_a__484 p_q_493 p_a__497 p_q_508 p_a__514 p_a__515 p_q_444 hpf Y hl
      have hi30 : i < 30 := by omega
      have hi31 : i < 2 ^ 31 := by omega
      have hin2 : i + 1 + n = 30 := by omega
      have hkT : kp L2 f2 L2 f2 [q_444] := kp.rf
      have p0_pa := p_q_444
      refine lv_iload_n hx hb dX10_init_146 rfl (lv_at hl 0 rfl) ?_
      refine lv_bipush (v := 30) hx hb dX10_init_147 (by decide) ?_
      refine lv_icmp_ge (tgt := 171) hx hb dX10_init_149 (by decide) (fun h => absurd h (by rw [ex]; exact nI_ge hi30 (by decide))) (fun _ => ?_)
      refine lv_aload_n hx hb dX10_init_152 rfl (lv_at hl 1 rfl) ?_
      refine pg_get S Y ok_X10 4 (by decide) kf10_31 (v := .ref q_444) p_h rfl dX10_init_153 ?_
      refine lv_iload_n hx hb dX10_init_156 rfl (lv_at hl 0 rfl) ?_
      refine pg_new S Y ok_X4 kc10_24 kn4 ki4 (fs := [.null, .null, .int 0, .int 0, .int 0, .int 0, .int 0]) (by decide) (by simp only [rmD]; omega) (by simp only [rmD]; omega) dX10_init_157 (fun q_568 f_569 H nq_568 ef_569 Y => ?_)
      have d0 := p_q_430.neQ nq_568
      have whkq_568 := hk.notin nq_568
      have hk := hk.push ef_569 nq_568
      have whkTq_568 := hkT.notin nq_568
      have hkT := hkT.push ef_569 nq_568
      have p_h := p_h.push ef_569 nq_568
      have p_q_421 := p_q_421.push ef_569 nq_568
      have p_q_424 := p_q_424.push ef_569 nq_568
      have p_q_427 := p_q_427.push ef_569 nq_568
      have dq_430_q_568 := p_q_430.neQ nq_568
      have p_q_430 := p_q_430.push ef_569 nq_568
      have p_a__434 := p_a__434.push ef_569 nq_568
      have p_a__435 := p_a__435.push ef_569 nq_568
      have p_q_444 := p_q_444.push ef_569 nq_568
      have p_q_447 := p_q_447.push ef_569 nq_568
      have p_a__451 := p_a__451.push ef_569 nq_568
      have p_q_457 := p_q_457.push ef_569 nq_568
      have p_a__461 := p_a__461.push ef_569 nq_568
      have p_q_468 := p_q_468.push ef_569 nq_568
      have p_a__472 := p_a__472.push ef_569 nq_568
      have p_q_480 := p_q_480.push ef_569 nq_568
      have p_a__484 := p_a__484.push ef_569 nq_568
      have p_q_493 := p_q_493.push ef_569 nq_568
      have p_a__497 := p_a__497.push ef_569 nq_568
      have p_q_508 := p_q_508.push ef_569 nq_568
      have p_a__514 := p_a__514.push ef_569 nq_568
      have p_a__515 := p_a__515.push ef_569 nq_568
      have p_q_568 := pt.new (L := L2) ef_569
      refine lv_dup hx hb dX10_init_160 rfl ?_
      refine cINv (b := q_568) (As := []) (rest := [.ref q_568, .int x, .ref q_444]) S Y (c_X4_init (l := l) p_q_568) cw_X4_init km10_26 rfl ⟨Nat.le_of_ble_eq_true rfl, Nat.le_of_ble_eq_true rfl⟩ hl.1 rfl (Nat.le_of_ble_eq_true rfl) ⟨by simp only [rmD]; omega, by simp only [rmD]; omega⟩ dX10_init_161 (fun L_570 f_571 H locs hf_571 Y => ?_)
      obtain ⟨a__572, a__573, kf_571, z_z_574, z_z_575, z_z_576, v_577, v_578⟩ := hf_571
      have d_579 := p_a__434.neQ v_577
      have w_580 := hk.notin v_577
      have w_581 := hkT.notin v_577
      have d_582 := p_a__435.neQ v_578
      have w_583 := hk.notin v_578
      have w_584 := hkT.notin v_578
      have p_h := kf_571.1 h _ (nmc (p_h.neK p_q_568 (by decide)) nm0) p_h
      have p_q_421 := kf_571.1 q_421 _ (nmc (p_q_421.neB p_q_568) nm0) p_q_421
      have p_q_424 := kf_571.1 q_424 _ (nmc (p_q_424.neB p_q_568) nm0) p_q_424
      have p_q_427 := kf_571.1 q_427 _ (nmc (p_q_427.neB p_q_568) nm0) p_q_427
      have p_q_430 := kf_571.1 q_430 _ (nmc (dq_430_q_568) nm0) p_q_430
      have p_a__434 := kf_571.1 a__434 _ (nmc (p_a__434.neB p_q_568) nm0) p_a__434
      have p_a__435 := kf_571.1 a__435 _ (nmc (p_a__435.neB p_q_568) nm0) p_a__435
      have p_q_444 := kf_571.1 q_444 _ (nmc (p_q_444.neB p_q_568) nm0) p_q_444
      have p_q_447 := kf_571.1 q_447 _ (nmc (p_q_447.neK p_q_568 (by decide)) nm0) p_q_447
      have p_a__451 := kf_571.1 a__451 _ (nmc (p_a__451.neB p_q_568) nm0) p_a__451
      have p_q_457 := kf_571.1 q_457 _ (nmc (p_q_457.neK p_q_568 (by decide)) nm0) p_q_457
      have p_a__461 := kf_571.1 a__461 _ (nmc (p_a__461.neB p_q_568) nm0) p_a__461
      have p_q_468 := kf_571.1 q_468 _ (nmc (p_q_468.neK p_q_568 (by decide)) nm0) p_q_468
      have p_a__472 := kf_571.1 a__472 _ (nmc (p_a__472.neB p_q_568) nm0) p_a__472
      have p_q_480 := kf_571.1 q_480 _ (nmc (p_q_480.neK p_q_568 (by decide)) nm0) p_q_480
      have p_a__484 := kf_571.1 a__484 _ (nmc (p_a__484.neB p_q_568) nm0) p_a__484
      have p_q_493 := kf_571.1 q_493 _ (nmc (p_q_493.neK p_q_568 (by decide)) nm0) p_q_493
      have p_a__497 := kf_571.1 a__497 _ (nmc (p_a__497.neB p_q_568) nm0) p_a__497
      have p_q_508 := kf_571.1 q_508 _ (nmc (p_q_508.neK p_q_568 (by decide)) nm0) p_q_508
      have p_a__514 := kf_571.1 a__514 _ (nmc (p_a__514.neB p_q_568) nm0) p_a__514
      have p_a__515 := kf_571.1 a__515 _ (nmc (p_a__515.neB p_q_568) nm0) p_a__515
      have p_q_568 := z_z_574
      have p_a__572 := z_z_575
      have p_a__573 := z_z_576
      have hk := hk.call kf_571 (fun b hb hp => (nmc (neL hp whkq_568) nm0))
      have hkT := hkT.call kf_571 (fun b hb hp => (nmc (neL hp whkTq_568) nm0))
      refine pg_aast S Y (k := 3) p_q_444 rfl p_q_568 ok_X4.1 (by rw [ex]; exact vp_in_nI hi30 (by decide)) dX10_init_164 (fun f_586 H locs ef_586 Y => ?_)
      obtain ⟨g_585, eg_585⟩ : ∃ z, z = va_up (pf) (x : Int32).toNatClampNeg (some q_568) := ⟨_, rfl⟩
      rw [← eg_585] at ef_586
      have p_h := p_h.up ef_586 ((p_h.neA p_q_444))
      have p_q_421 := p_q_421.up ef_586 ((p_q_421.neN p_q_444 (by decide)))
      have p_q_424 := p_q_424.up ef_586 ((p_q_424.neN p_q_444 (by decide)))
      have p_q_427 := p_q_427.up ef_586 ((p_q_427.neN p_q_444 (by decide)))
      have p_q_430 := p_q_430.up ef_586 ((p_q_430.neA p_q_444))
      have p_a__434 := p_a__434.up ef_586 ((p_a__434.neN p_q_444 (by decide)))
      have p_a__435 := p_a__435.up ef_586 ((p_a__435.neN p_q_444 (by decide)))
      have p_q_447 := p_q_447.up ef_586 ((p_q_447.neA p_q_444))
      have p_a__451 := p_a__451.up ef_586 ((p_a__451.neN p_q_444 (by decide)))
      have p_q_457 := p_q_457.up ef_586 ((p_q_457.neA p_q_444))
      have p_a__461 := p_a__461.up ef_586 ((p_a__461.neN p_q_444 (by decide)))
      have p_q_468 := p_q_468.up ef_586 ((p_q_468.neA p_q_444))
      have p_a__472 := p_a__472.up ef_586 ((p_a__472.neN p_q_444 (by decide)))
      have p_q_480 := p_q_480.up ef_586 ((p_q_480.neA p_q_444))
      have p_a__484 := p_a__484.up ef_586 ((p_a__484.neN p_q_444 (by decide)))
      have p_q_493 := p_q_493.up ef_586 ((p_q_493.neA p_q_444))
      have p_a__497 := p_a__497.up ef_586 ((p_a__497.neN p_q_444 (by decide)))
      have p_q_508 := p_q_508.up ef_586 ((p_q_508.neA p_q_444))
      have p_a__514 := p_a__514.up ef_586 ((p_a__514.neN p_q_444 (by decide)))
      have p_a__515 := p_a__515.up ef_586 ((p_a__515.neN p_q_444 (by decide)))
      have p_q_568 := p_q_568.up ef_586 ((p_q_568.neA p_q_444))
      have p_a__572 := p_a__572.up ef_586 ((p_a__572.neN p_q_444 (by decide)))
      have p_a__573 := p_a__573.up ef_586 ((p_a__573.neN p_q_444 (by decide)))
      have p_q_444 := p_q_444.me ef_586
      have hk := hk.upN ef_586 whkq_444
      have hkT := hkT.up ef_586 (by simp)
      obtain ⟨x_587, ex_587⟩ : ∃ z : Int32, z = x + 1 := ⟨_, rfl⟩
      refine lv_iinc (v := x_587) (lv' := [(1, .int x_587), (0, .ref h)]) hx hb dX10_init_165 hl (k := 0) rfl (by rw [ex_587]; rfl) (by decide) rfl (fun ls hl => ?_)
      refine lv_goto (tgt := 146) hx hb dX10_init_168 (by decide) ?_
      have hpf2 := pastOK.new (o := q_568) hpf hkT (keepsLA p0_pa) whkq_568 w_580 w_583 (Ne.symm d0) p_q_568 p_a__572 p_a__573 (pf2 := g_585) (by rw [eg_585, ex, nI_clamp hi31])
      have ex2 : x_587 = nI (i + 1) := by rw [ex_587, ex]; exact nI_1 i
      refine W.widen (k := 41 + 3 * (i + 1)) (n := 3308 + 195 * (i + 1)) (by omega) (by omega) ?_
      exact ih (i + 1) _ _ _ _ _ _ _ hin2 ex2 hk p_h p_q_421 p_q_424 p_q_427 p_q_430 p_a__434 p_a__435 p_q_447 p_a__451 p_q_457 p_a__461 p_q_468 p_a__472 p_q_480 p_a__484 p_q_493 p_a__497 p_q_508 p_a__514 p_a__515 p_q_444 hpf2 Y hl
  refine W.widen (k := 41 + 3 * 0) (n := 3308 + 195 * 0) (by decide) (by decide) ?_
  exact loop 30 0 _ _ _ _ _ _ 0 rfl rfl hk p_h p_q_421 p_q_424 p_q_427 p_q_430 p_a__434 p_a__435 p_q_447 p_a__451 p_q_457 p_a__461 p_q_468 p_a__472 p_q_480 p_a__484 p_q_493 p_a__497 p_q_508 p_a__514 p_a__515 p_q_444 hpf0 Y hl
