theorem dX9_takeOver_0 : decode cX9_takeOver 0 = .ok (.aload_n 1, 1) := by decide +kernel
theorem dX9_takeOver_1 : decode cX9_takeOver 1 = .ok (.getfield 9, 3) := by decide +kernel
theorem dX9_takeOver_4 : decode cX9_takeOver 4 = .ok (.iconst 0, 1) := by decide +kernel
theorem dX9_takeOver_5 : decode cX9_takeOver 5 = .ok (.aload_n 0, 1) := by decide +kernel
theorem dX9_takeOver_6 : decode cX9_takeOver 6 = .ok (.getfield 9, 3) := by decide +kernel
theorem dX9_takeOver_9 : decode cX9_takeOver 9 = .ok (.iconst 0, 1) := by decide +kernel
theorem dX9_takeOver_10 : decode cX9_takeOver 10 = .ok (.aload_n 0, 1) := by decide +kernel
theorem dX9_takeOver_11 : decode cX9_takeOver 11 = .ok (.getfield 9, 3) := by decide +kernel
theorem dX9_takeOver_14 : decode cX9_takeOver 14 = .ok (.arraylength, 1) := by decide +kernel
theorem dX9_takeOver_15 : decode cX9_takeOver 15 = .ok (.invokestatic 28, 3) := by decide +kernel
theorem km9_28 : inW (Cond.methodLink RX9 28 arraycopyName) := ⟨List.mem_of_getElem? (i := 1480) (by decide +kernel), by decide +kernel⟩
theorem dX9_takeOver_18 : decode cX9_takeOver 18 = .ok (.aload_n 0, 1) := by decide +kernel
theorem dX9_takeOver_19 : decode cX9_takeOver 19 = .ok (.aload_n 1, 1) := by decide +kernel
theorem dX9_takeOver_20 : decode cX9_takeOver 20 = .ok (.getfield 25, 3) := by decide +kernel
theorem dX9_takeOver_23 : decode cX9_takeOver 23 = .ok (.putfield 25, 3) := by decide +kernel
theorem dX9_takeOver_26 : decode cX9_takeOver 26 = .ok (.return_, 1) := by decide +kernel
theorem dX10_takeOver_0 : decode cX10_takeOver 0 = .ok (.aload_n 1, 1) := by decide +kernel
theorem dX10_takeOver_1 : decode cX10_takeOver 1 = .ok (.getfield 9, 3) := by decide +kernel
theorem dX10_takeOver_4 : decode cX10_takeOver 4 = .ok (.iconst 0, 1) := by decide +kernel
theorem dX10_takeOver_5 : decode cX10_takeOver 5 = .ok (.aload_n 0, 1) := by decide +kernel
theorem dX10_takeOver_6 : decode cX10_takeOver 6 = .ok (.getfield 9, 3) := by decide +kernel
theorem dX10_takeOver_9 : decode cX10_takeOver 9 = .ok (.iconst 0, 1) := by decide +kernel
theorem dX10_takeOver_10 : decode cX10_takeOver 10 = .ok (.aload_n 0, 1) := by decide +kernel
theorem dX10_takeOver_11 : decode cX10_takeOver 11 = .ok (.getfield 9, 3) := by decide +kernel
theorem dX10_takeOver_14 : decode cX10_takeOver 14 = .ok (.arraylength, 1) := by decide +kernel
theorem dX10_takeOver_15 : decode cX10_takeOver 15 = .ok (.invokestatic 61, 3) := by decide +kernel
theorem km10_61 : inW (Cond.methodLink RX10 61 arraycopyName) := ⟨List.mem_of_getElem? (i := 1470) (by decide +kernel), by decide +kernel⟩
theorem dX10_takeOver_18 : decode cX10_takeOver 18 = .ok (.aload_n 1, 1) := by decide +kernel
theorem dX10_takeOver_19 : decode cX10_takeOver 19 = .ok (.getfield 15, 3) := by decide +kernel
theorem dX10_takeOver_22 : decode cX10_takeOver 22 = .ok (.iconst 0, 1) := by decide +kernel
theorem dX10_takeOver_23 : decode cX10_takeOver 23 = .ok (.aload_n 0, 1) := by decide +kernel
theorem dX10_takeOver_24 : decode cX10_takeOver 24 = .ok (.getfield 15, 3) := by decide +kernel
theorem dX10_takeOver_27 : decode cX10_takeOver 27 = .ok (.iconst 0, 1) := by decide +kernel
theorem dX10_takeOver_28 : decode cX10_takeOver 28 = .ok (.aload_n 0, 1) := by decide +kernel
theorem dX10_takeOver_29 : decode cX10_takeOver 29 = .ok (.getfield 15, 3) := by decide +kernel
theorem dX10_takeOver_32 : decode cX10_takeOver 32 = .ok (.arraylength, 1) := by decide +kernel
theorem dX10_takeOver_33 : decode cX10_takeOver 33 = .ok (.invokestatic 61, 3) := by decide +kernel
theorem dX10_takeOver_36 : decode cX10_takeOver 36 = .ok (.iconst 0, 1) := by decide +kernel
theorem dX10_takeOver_37 : decode cX10_takeOver 37 = .ok (.istore_n 2, 1) := by decide +kernel
theorem dX10_takeOver_38 : decode cX10_takeOver 38 = .ok (.iload_n 2, 1) := by decide +kernel
theorem dX10_takeOver_39 : decode cX10_takeOver 39 = .ok (.aload_n 1, 1) := by decide +kernel
theorem dX10_takeOver_40 : decode cX10_takeOver 40 = .ok (.getfield 67, 3) := by decide +kernel
theorem dX10_takeOver_43 : decode cX10_takeOver 43 = .ok (.if_icmp .ge 24, 3) := by decide +kernel
theorem dX10_takeOver_67 : decode cX10_takeOver 67 = .ok (.iconst 0, 1) := by decide +kernel
theorem dX10_takeOver_68 : decode cX10_takeOver 68 = .ok (.istore_n 2, 1) := by decide +kernel
theorem dX10_takeOver_69 : decode cX10_takeOver 69 = .ok (.iload_n 2, 1) := by decide +kernel
theorem dX10_takeOver_70 : decode cX10_takeOver 70 = .ok (.bipush 30, 2) := by decide +kernel
theorem dX10_takeOver_72 : decode cX10_takeOver 72 = .ok (.if_icmp .ge 24, 3) := by decide +kernel
theorem dX10_takeOver_96 : decode cX10_takeOver 96 = .ok (.aload_n 0, 1) := by decide +kernel
theorem dX10_takeOver_97 : decode cX10_takeOver 97 = .ok (.getfield 27, 3) := by decide +kernel
theorem dX10_takeOver_100 : decode cX10_takeOver 100 = .ok (.aload_n 1, 1) := by decide +kernel
theorem dX10_takeOver_101 : decode cX10_takeOver 101 = .ok (.getfield 27, 3) := by decide +kernel
theorem dX10_takeOver_104 : decode cX10_takeOver 104 = .ok (.invokevirtual 74, 3) := by decide +kernel
theorem dX10_takeOver_107 : decode cX10_takeOver 107 = .ok (.aload_n 0, 1) := by decide +kernel
theorem dX10_takeOver_108 : decode cX10_takeOver 108 = .ok (.getfield 40, 3) := by decide +kernel
theorem dX10_takeOver_111 : decode cX10_takeOver 111 = .ok (.aload_n 1, 1) := by decide +kernel
theorem dX10_takeOver_112 : decode cX10_takeOver 112 = .ok (.getfield 40, 3) := by decide +kernel
theorem dX10_takeOver_115 : decode cX10_takeOver 115 = .ok (.invokevirtual 77, 3) := by decide +kernel
theorem cw_X9_takeOver : CWv yX9_takeOver cX9_takeOver 2 none 1 := ⟨⟨⟨List.mem_of_getElem? (i := 127) (by decide +kernel), by decide +kernel⟩, ⟨List.mem_of_getElem? (i := 1479) (by decide +kernel), by decide +kernel⟩, by decide +kernel⟩, ⟨List.mem_of_getElem? (i := 1477) (by decide +kernel), by decide +kernel⟩, ⟨List.mem_of_getElem? (i := 1478) (by decide +kernel), by decide +kernel⟩⟩
theorem km10_77 : inW (Cond.methodLink RX10 77 yX9_takeOver) := ⟨List.mem_of_getElem? (i := 1476) (by decide +kernel), by decide +kernel⟩
theorem dX10_takeOver_118 : decode cX10_takeOver 118 = .ok (.aload_n 0, 1) := by decide +kernel
theorem dX10_takeOver_119 : decode cX10_takeOver 119 = .ok (.getfield 44, 3) := by decide +kernel
theorem dX10_takeOver_122 : decode cX10_takeOver 122 = .ok (.aload_n 1, 1) := by decide +kernel
theorem dX10_takeOver_123 : decode cX10_takeOver 123 = .ok (.getfield 44, 3) := by decide +kernel
theorem dX10_takeOver_126 : decode cX10_takeOver 126 = .ok (.invokevirtual 77, 3) := by decide +kernel
theorem dX10_takeOver_129 : decode cX10_takeOver 129 = .ok (.aload_n 0, 1) := by decide +kernel
theorem dX10_takeOver_130 : decode cX10_takeOver 130 = .ok (.getfield 47, 3) := by decide +kernel
theorem dX10_takeOver_133 : decode cX10_takeOver 133 = .ok (.aload_n 1, 1) := by decide +kernel
theorem dX10_takeOver_134 : decode cX10_takeOver 134 = .ok (.getfield 47, 3) := by decide +kernel
theorem dX10_takeOver_137 : decode cX10_takeOver 137 = .ok (.invokevirtual 77, 3) := by decide +kernel
theorem dX10_takeOver_140 : decode cX10_takeOver 140 = .ok (.aload_n 0, 1) := by decide +kernel
theorem dX10_takeOver_141 : decode cX10_takeOver 141 = .ok (.getfield 50, 3) := by decide +kernel
theorem dX10_takeOver_144 : decode cX10_takeOver 144 = .ok (.aload_n 1, 1) := by decide +kernel
theorem dX10_takeOver_145 : decode cX10_takeOver 145 = .ok (.getfield 50, 3) := by decide +kernel
theorem dX10_takeOver_148 : decode cX10_takeOver 148 = .ok (.invokevirtual 77, 3) := by decide +kernel
theorem dX10_takeOver_151 : decode cX10_takeOver 151 = .ok (.aload_n 0, 1) := by decide +kernel
theorem dX10_takeOver_152 : decode cX10_takeOver 152 = .ok (.getfield 53, 3) := by decide +kernel
theorem dX10_takeOver_155 : decode cX10_takeOver 155 = .ok (.aload_n 1, 1) := by decide +kernel
theorem dX10_takeOver_156 : decode cX10_takeOver 156 = .ok (.getfield 53, 3) := by decide +kernel
theorem dX10_takeOver_159 : decode cX10_takeOver 159 = .ok (.invokevirtual 77, 3) := by decide +kernel
theorem dX10_takeOver_162 : decode cX10_takeOver 162 = .ok (.aload_n 0, 1) := by decide +kernel
theorem dX10_takeOver_163 : decode cX10_takeOver 163 = .ok (.aload_n 1, 1) := by decide +kernel
theorem dX10_takeOver_164 : decode cX10_takeOver 164 = .ok (.getfield 80, 3) := by decide +kernel
theorem dX10_takeOver_167 : decode cX10_takeOver 167 = .ok (.putfield 80, 3) := by decide +kernel
theorem dX10_takeOver_170 : decode cX10_takeOver 170 = .ok (.aload_n 0, 1) := by decide +kernel
theorem dX10_takeOver_171 : decode cX10_takeOver 171 = .ok (.aload_n 1, 1) := by decide +kernel
theorem dX10_takeOver_172 : decode cX10_takeOver 172 = .ok (.getfield 67, 3) := by decide +kernel
theorem dX10_takeOver_175 : decode cX10_takeOver 175 = .ok (.putfield 67, 3) := by decide +kernel
theorem dX10_takeOver_178 : decode cX10_takeOver 178 = .ok (.aload_n 0, 1) := by decide +kernel
theorem dX10_takeOver_179 : decode cX10_takeOver 179 = .ok (.aload_n 1, 1) := by decide +kernel
theorem dX10_takeOver_180 : decode cX10_takeOver 180 = .ok (.getfield 56, 3) := by decide +kernel
theorem dX10_takeOver_183 : decode cX10_takeOver 183 = .ok (.putfield 56, 3) := by decide +kernel
theorem dX10_takeOver_186 : decode cX10_takeOver 186 = .ok (.aload_n 0, 1) := by decide +kernel
theorem dX10_takeOver_187 : decode cX10_takeOver 187 = .ok (.aload_n 1, 1) := by decide +kernel
theorem dX10_takeOver_188 : decode cX10_takeOver 188 = .ok (.getfield 83, 3) := by decide +kernel
theorem dX10_takeOver_191 : decode cX10_takeOver 191 = .ok (.putfield 83, 3) := by decide +kernel
theorem dX10_takeOver_194 : decode cX10_takeOver 194 = .ok (.aload_n 0, 1) := by decide +kernel
theorem dX10_takeOver_195 : decode cX10_takeOver 195 = .ok (.aload_n 1, 1) := by decide +kernel
theorem dX10_takeOver_196 : decode cX10_takeOver 196 = .ok (.getfield 86, 3) := by decide +kernel
theorem dX10_takeOver_199 : decode cX10_takeOver 199 = .ok (.putfield 86, 3) := by decide +kernel
theorem dX10_takeOver_202 : decode cX10_takeOver 202 = .ok (.return_, 1) := by decide +kernel
theorem dX10_takeOver_75 : decode cX10_takeOver 75 = .ok (.aload_n 0, 1) := by decide +kernel
theorem dX10_takeOver_76 : decode cX10_takeOver 76 = .ok (.getfield 31, 3) := by decide +kernel
theorem dX10_takeOver_79 : decode cX10_takeOver 79 = .ok (.iload_n 2, 1) := by decide +kernel
theorem dX10_takeOver_80 : decode cX10_takeOver 80 = .ok (.aaload, 1) := by decide +kernel
theorem dX10_takeOver_81 : decode cX10_takeOver 81 = .ok (.aload_n 1, 1) := by decide +kernel
theorem dX10_takeOver_82 : decode cX10_takeOver 82 = .ok (.getfield 31, 3) := by decide +kernel
theorem dX10_takeOver_85 : decode cX10_takeOver 85 = .ok (.iload_n 2, 1) := by decide +kernel
theorem dX10_takeOver_86 : decode cX10_takeOver 86 = .ok (.aaload, 1) := by decide +kernel
theorem dX10_takeOver_87 : decode cX10_takeOver 87 = .ok (.invokevirtual 74, 3) := by decide +kernel
theorem dX10_takeOver_90 : decode cX10_takeOver 90 = .ok (.iinc 2 1, 3) := by decide +kernel
theorem dX10_takeOver_93 : decode cX10_takeOver 93 = .ok (.goto (-24), 3) := by decide +kernel
theorem dX11_image_0 : decode cX11_image 0 = .ok (.aload_n 0, 1) := by decide +kernel
theorem dX11_image_1 : decode cX11_image 1 = .ok (.getfield 19, 3) := by decide +kernel
theorem dX11_image_4 : decode cX11_image 4 = .ok (.aload_n 0, 1) := by decide +kernel
theorem dX11_image_5 : decode cX11_image 5 = .ok (.getfield 13, 3) := by decide +kernel
theorem dX11_image_8 : decode cX11_image 8 = .ok (.invokevirtual 347, 3) := by decide +kernel
theorem cw_X10_takeOver : CWv yX10_takeOver cX10_takeOver 3 none 1 := ⟨⟨⟨List.mem_of_getElem? (i := 126) (by decide +kernel), by decide +kernel⟩, ⟨List.mem_of_getElem? (i := 1469) (by decide +kernel), by decide +kernel⟩, by decide +kernel⟩, ⟨List.mem_of_getElem? (i := 1467) (by decide +kernel), by decide +kernel⟩, ⟨List.mem_of_getElem? (i := 1468) (by decide +kernel), by decide +kernel⟩⟩
theorem km11_347 : inW (Cond.methodLink RX11 347 yX10_takeOver) := ⟨List.mem_of_getElem? (i := 1466) (by decide +kernel), by decide +kernel⟩
theorem dX11_image_11 : decode cX11_image 11 = .ok (.aload_n 0, 1) := by decide +kernel
theorem dX11_image_12 : decode cX11_image 12 = .ok (.getfield 13, 3) := by decide +kernel
theorem dX11_image_15 : decode cX11_image 15 = .ok (.getfield 131, 3) := by decide +kernel
theorem dX11_image_18 : decode cX11_image 18 = .ok (.getfield 150, 3) := by decide +kernel
theorem dX11_image_21 : decode cX11_image 21 = .ok (.ireturn, 1) := by decide +kernel
theorem dX11_back_0 : decode cX11_back 0 = .ok (.aload_n 0, 1) := by decide +kernel
theorem dX11_back_1 : decode cX11_back 1 = .ok (.getfield 13, 3) := by decide +kernel
theorem dX11_back_4 : decode cX11_back 4 = .ok (.aload_n 0, 1) := by decide +kernel
theorem dX11_back_5 : decode cX11_back 5 = .ok (.getfield 19, 3) := by decide +kernel
theorem dX11_back_8 : decode cX11_back 8 = .ok (.invokevirtual 347, 3) := by decide +kernel
theorem dX11_back_11 : decode cX11_back 11 = .ok (.aload_n 0, 1) := by decide +kernel
theorem dX11_back_12 : decode cX11_back 12 = .ok (.getfield 13, 3) := by decide +kernel
theorem dX11_back_15 : decode cX11_back 15 = .ok (.getfield 131, 3) := by decide +kernel
theorem dX11_back_18 : decode cX11_back 18 = .ok (.getfield 150, 3) := by decide +kernel
theorem dX11_back_21 : decode cX11_back 21 = .ok (.ireturn, 1) := by decide +kernel
/-- all cells stay but rows of n numbers, which stay rows of n numbers -/
def tN (G : GG) (n : Nat) (L : List Nat) (f : HF) (L1 : List Nat) (f1 : HF) : Prop := (∀ (b : Nat) (e : va_E), pt L f b e → (¬ ∃ g : Nat → Int32, e = .inl (G.2 0, n, .inl g)) → pt L1 f1 b e) ∧ (∀ (b : Nat) (g : Nat → Int32), pt L f b (.inl (G.2 0, n, .inl g)) → ∃ g' : Nat → Int32, pt L1 f1 b (.inl (G.2 0, n, .inl g')))
theorem tN_up {G : GG} {n c : Nat} {L : List Nat} {f f1 : HF} {g0 g1 : Nat → Int32} (pc : pt L f c (.inl (G.2 0, n, .inl g0))) (hf : f1 = va_up f c (.inl (G.2 0, n, .inl g1))) : tN G n L f L f1 := by
  refine ⟨fun b e h hn => ?_, fun b g h => ?_⟩
  · have q : b ≠ c := fun q => hn ⟨g0, by subst q; exact h.2.symm.trans pc.2⟩
    exact h.up hf q
  · by_cases q : b = c
    · subst q; exact ⟨g1, h.me hf⟩
    · exact ⟨g, h.up hf q⟩
theorem tN_same {G : GG} {n a : Nat} {L L1 : List Nat} {f f1 f2 : HF} {e : va_E} (t : tN G n L f L1 f1) (pa : pt L1 f1 a e) (hf : f2 = va_up f1 a e) : tN G n L f L1 f2 := by
  have e1 : f2 = f1 := by
    rw [hf]
    funext k
    by_cases q : k = a
    · subst q; rw [va_up_self]; exact pa.2.symm
    · exact va_up_ne f1 e q
  rw [e1]; exact t
theorem pastOK.out {G : GG} {L0 : List Nat} {nw : Nat} {L1 : List Nat} {f1 : HF} {pf : Nat → Option Nat} {n : Nat} (h : pastOK G L0 nw L1 f1 pf n) : ∀ j, j < n → ∀ q, pf j = some q → q ∉ L0 := fun j hj q hq => by
  obtain ⟨o, a, b, g1, g2, v1, v2, v3, v4, v5, h1, h2, h3, h4, h5, h6, h7, h8⟩ := h j hj
  rw [h1] at hq
  cases hq
  exact h2
set_option maxHeartbeats 4000000 in
set_option maxRecDepth 100000 in
theorem c_X9_takeOver {l : Launch} {G : GG} {L : List Nat} {f : HF} {h o cx dx : Nat} {li lj : Int32} {g1 g2 : Nat → Int32}  (p_h : pt L f h (.inr (9, [.ref cx, .int li, .int 0]))) (p_cx : pt L f cx (.inl (G.2 0, 24, .inl g1))) (p_o : pt L f o (.inr (9, [.ref dx, .int lj, .int 0]))) (p_dx : pt L f dx (.inl (G.2 0, 24, .inl g2)))  : PMv l yX9_takeOver cX9_takeOver 2 1 0 0 G [.ref h, .ref o] L f (fun L1 f1 => tN G 24 L f L1 f1) := by
  refine PMv.of (post := fun L1 f1 => tN G 24 L f L1 f1) (own := RX9) (by decide) rfl (Nat.le_of_ble_eq_true rfl) (fun sz p e s m args below meth c A ls hA1 hname S Y hl => ?_)
  have hx := S.hx
  have hb := S.hb
  have hl : lv_has ls 2 [(0, .ref h), (1, .ref o)] := hl
  have s_c := p_cx
  refine lv_aload_n hx hb dX9_takeOver_0 rfl (lv_at hl 1 rfl) ?_
  refine pg_get S Y ok_X9 0 (by decide) kf9_9 (v := .ref dx) p_o rfl dX9_takeOver_1 ?_
  refine lv_iconst (v := 0) hx hb dX9_takeOver_4 (by decide) ?_
  refine lv_aload_n hx hb dX9_takeOver_5 rfl (lv_at hl 0 rfl) ?_
  refine pg_get S Y ok_X9 0 (by decide) kf9_9 (v := .ref cx) p_h rfl dX9_takeOver_6 ?_
  refine lv_iconst (v := 0) hx hb dX9_takeOver_9 (by decide) ?_
  refine lv_aload_n hx hb dX9_takeOver_10 rfl (lv_at hl 0 rfl) ?_
  refine pg_get S Y ok_X9 0 (by decide) kf9_9 (v := .ref cx) p_h rfl dX9_takeOver_11 ?_
  refine pg_alen S Y (k := 0) (v := 24) p_cx rfl rfl dX9_takeOver_14 ?_
  refine pg_copyi S Y hl.1 km9_28 kAn kAs kAi p_dx p_cx (by decide) (by decide) (by decide) (by decide) (by decide) (Nat.le_of_ble_eq_true rfl) (Nat.le_of_ble_eq_true rfl) dX9_takeOver_15 (fun f_1434 H locs ef_1434 Y => ?_)
  obtain ⟨g_1433, eg_1433⟩ : ∃ z, z = va_cpy (g2) (g1) (0 : Int32).toNatClampNeg (0 : Int32).toNatClampNeg (24 : Int32).toNatClampNeg := ⟨_, rfl⟩
  rw [← eg_1433] at ef_1434
  have p_h := p_h.up ef_1434 ((p_h.neA p_cx))
  have p_o := p_o.up ef_1434 ((p_o.neA p_cx))
  have p_cx := p_cx.me ef_1434
  have s1_h := p_h
  refine lv_aload_n hx hb dX9_takeOver_18 rfl (lv_at hl 0 rfl) ?_
  refine lv_aload_n hx hb dX9_takeOver_19 rfl (lv_at hl 1 rfl) ?_
  refine pg_get S Y ok_X9 2 (by decide) kf9_25 (v := .int 0) p_o rfl dX9_takeOver_20 ?_
  refine pg_put S Y ok_X9 2 (by decide) kf9_25 rfl (fs' := [.ref cx, .int li, .int 0]) (v := .int 0) p_h rfl rfl rfl (Nat.le_of_ble_eq_true rfl) dX9_takeOver_23 (fun f_1435 H locs ef_1435 Y => ?_)
  have p_cx := p_cx.up ef_1435 ((p_cx.neB p_h))
  have p_h := p_h.me ef_1435
  exact prV (post := fun L1 f1 => tN G 24 L f L1 f1) S Y (by decide) (by decide) hA1 (tN_same (tN_up s_c ef_1434) s1_h ef_1435) dX9_takeOver_26
set_option maxHeartbeats 4000000 in
set_option maxRecDepth 100000 in
theorem c_X10_takeOver {l : Launch} {G : GG} {L : List Nat} {f : HF} {h o ko xw xk xrd xjd xrg xdd xfo xsu xch ta ag sc nw pa fe cl wo si we oa aa c1 c2 c3 c4 c5 z_ta z_ag z_sc z_nw z_pa z_fe z_cl z_wo z_si z_we z_oa z_aa z_c1 z_c2 z_c3 z_c4 z_c5 : Nat} {g_ta g_ag g_oa g_aa g_c1 g_c2 g_c3 g_c4 g_c5 g_z_ta g_z_ag g_z_oa g_z_aa g_z_c1 g_z_c2 g_z_c3 g_z_c4 g_z_c5 : Nat → Int32} {pf z_pf : Nat → Option Nat} {L0 L9 : List Nat}  (p_ko : pt L f ko (.inr (11, [.ref xw, .ref xk, .ref xrd, .ref xjd, .ref xrg, .ref xdd, .ref xfo, .ref xsu, .ref xch]))) (p_h : pt L f h (.inr (10, [.ref ta, .ref ag, .ref sc, .ref nw, .ref pa, .ref fe, .ref cl, .ref wo, .ref si, .ref we, .int 0, .int 0, .int (-1), .int 0, .int 0]))) (p_ta : pt L f ta (.inl (G.2 0, 6, .inl g_ta))) (p_ag : pt L f ag (.inl (G.2 0, 6, .inl g_ag))) (p_nw : pt L f nw (.inr (4, [.ref oa, .ref aa, .int 0, .int 0, .int 0, .int 0, .int 137]))) (p_oa : pt L f oa (.inl (G.2 0, 98, .inl g_oa))) (p_aa : pt L f aa (.inl (G.2 0, 90, .inl g_aa))) (p_pa : pt L f pa (.inl (G.2 3, 30, .inr (.inr (.inr (.inr pf)))))) (p_fe : pt L f fe (.inr (9, [.ref c1, .int 6, .int 0]))) (p_c1 : pt L f c1 (.inl (G.2 0, 24, .inl g_c1))) (p_cl : pt L f cl (.inr (9, [.ref c2, .int 8, .int 0]))) (p_c2 : pt L f c2 (.inl (G.2 0, 24, .inl g_c2))) (p_wo : pt L f wo (.inr (9, [.ref c3, .int 8, .int 0]))) (p_c3 : pt L f c3 (.inl (G.2 0, 24, .inl g_c3))) (p_si : pt L f si (.inr (9, [.ref c4, .int 8, .int 0]))) (p_c4 : pt L f c4 (.inl (G.2 0, 24, .inl g_c4))) (p_we : pt L f we (.inr (9, [.ref c5, .int 8, .int 0]))) (p_c5 : pt L f c5 (.inl (G.2 0, 24, .inl g_c5))) (p_o : pt L f o (.inr (10, [.ref z_ta, .ref z_ag, .ref z_sc, .ref z_nw, .ref z_pa, .ref z_fe, .ref z_cl, .ref z_wo, .ref z_si, .ref z_we, .int 0, .int 0, .int (-1), .int 0, .int 0]))) (p_z_ta : pt L f z_ta (.inl (G.2 0, 6, .inl g_z_ta))) (p_z_ag : pt L f z_ag (.inl (G.2 0, 6, .inl g_z_ag))) (p_z_nw : pt L f z_nw (.inr (4, [.ref z_oa, .ref z_aa, .int 0, .int 0, .int 0, .int 0, .int 137]))) (p_z_oa : pt L f z_oa (.inl (G.2 0, 98, .inl g_z_oa))) (p_z_aa : pt L f z_aa (.inl (G.2 0, 90, .inl g_z_aa))) (p_z_pa : pt L f z_pa (.inl (G.2 3, 30, .inr (.inr (.inr (.inr z_pf)))))) (p_z_fe : pt L f z_fe (.inr (9, [.ref z_c1, .int 6, .int 0]))) (p_z_c1 : pt L f z_c1 (.inl (G.2 0, 24, .inl g_z_c1))) (p_z_cl : pt L f z_cl (.inr (9, [.ref z_c2, .int 8, .int 0]))) (p_z_c2 : pt L f z_c2 (.inl (G.2 0, 24, .inl g_z_c2))) (p_z_wo : pt L f z_wo (.inr (9, [.ref z_c3, .int 8, .int 0]))) (p_z_c3 : pt L f z_c3 (.inl (G.2 0, 24, .inl g_z_c3))) (p_z_si : pt L f z_si (.inr (9, [.ref z_c4, .int 8, .int 0]))) (p_z_c4 : pt L f z_c4 (.inl (G.2 0, 24, .inl g_z_c4))) (p_z_we : pt L f z_we (.inr (9, [.ref z_c5, .int 8, .int 0]))) (p_z_c5 : pt L f z_c5 (.inl (G.2 0, 24, .inl g_z_c5))) (n0 : h ≠ o) (n2 : nw ≠ z_nw) (hpf : pastOK G L0 nw L f pf 30) (hpg : pastOK G L9 z_nw L f z_pf 30) (hd1 : ∀ j, j < 30 → ∀ q, pf j = some q → q ≠ z_nw) (hd2 : ∀ j, j < 30 → ∀ q r, pf j = some q → z_pf j = some r → q ≠ r) : PMv l yX10_takeOver cX10_takeOver 3 2 0 0 G [.ref h, .ref o] L f (fun L1 f1 => pt L1 f1 ko (.inr (11, [.ref xw, .ref xk, .ref xrd, .ref xjd, .ref xrg, .ref xdd, .ref xfo, .ref xsu, .ref xch])) ∧ pt L1 f1 h (.inr (10, [.ref ta, .ref ag, .ref sc, .ref nw, .ref pa, .ref fe, .ref cl, .ref wo, .ref si, .ref we, .int 0, .int 0, .int (-1), .int 0, .int 0])) ∧ pt L1 f1 o (.inr (10, [.ref z_ta, .ref z_ag, .ref z_sc, .ref z_nw, .ref z_pa, .ref z_fe, .ref z_cl, .ref z_wo, .ref z_si, .ref z_we, .int 0, .int 0, .int (-1), .int 0, .int 0])) ∧ pt L1 f1 nw (.inr (4, [.ref oa, .ref aa, .int 0, .int 0, .int 0, .int 0, .int 137])) ∧ pt L1 f1 z_nw (.inr (4, [.ref z_oa, .ref z_aa, .int 0, .int 0, .int 0, .int 0, .int 137]))) := by
  refine PMv.of (post := fun L1 f1 => pt L1 f1 ko (.inr (11, [.ref xw, .ref xk, .ref xrd, .ref xjd, .ref xrg, .ref xdd, .ref xfo, .ref xsu, .ref xch])) ∧ pt L1 f1 h (.inr (10, [.ref ta, .ref ag, .ref sc, .ref nw, .ref pa, .ref fe, .ref cl, .ref wo, .ref si, .ref we, .int 0, .int 0, .int (-1), .int 0, .int 0])) ∧ pt L1 f1 o (.inr (10, [.ref z_ta, .ref z_ag, .ref z_sc, .ref z_nw, .ref z_pa, .ref z_fe, .ref z_cl, .ref z_wo, .ref z_si, .ref z_we, .int 0, .int 0, .int (-1), .int 0, .int 0])) ∧ pt L1 f1 nw (.inr (4, [.ref oa, .ref aa, .int 0, .int 0, .int 0, .int 0, .int 137])) ∧ pt L1 f1 z_nw (.inr (4, [.ref z_oa, .ref z_aa, .int 0, .int 0, .int 0, .int 0, .int 137]))) (own := RX10) (by decide) rfl (Nat.le_of_ble_eq_true rfl) (fun sz p e s m args below meth c A ls hA1 hname S Y hl => ?_)
  have hx := S.hx
  have hb := S.hb
  have hl : lv_has ls 3 [(0, .ref h), (1, .ref o)] := hl
  have s_ta := p_ta
  have s_ag := p_ag
  have s_z_ta := p_z_ta
  have s_z_ag := p_z_ag
  have s_oa := p_oa
  have s_aa := p_aa
  have s_z_oa := p_z_oa
  have s_z_aa := p_z_aa
  refine lv_aload_n hx hb dX10_takeOver_0 rfl (lv_at hl 1 rfl) ?_
  refine pg_get S Y ok_X10 0 (by decide) kf10_9 (v := .ref z_ta) p_o rfl dX10_takeOver_1 ?_
  refine lv_iconst (v := 0) hx hb dX10_takeOver_4 (by decide) ?_
  refine lv_aload_n hx hb dX10_takeOver_5 rfl (lv_at hl 0 rfl) ?_
  refine pg_get S Y ok_X10 0 (by decide) kf10_9 (v := .ref ta) p_h rfl dX10_takeOver_6 ?_
  refine lv_iconst (v := 0) hx hb dX10_takeOver_9 (by decide) ?_
  refine lv_aload_n hx hb dX10_takeOver_10 rfl (lv_at hl 0 rfl) ?_
  refine pg_get S Y ok_X10 0 (by decide) kf10_9 (v := .ref ta) p_h rfl dX10_takeOver_11 ?_
  refine pg_alen S Y (k := 0) (v := 6) p_ta rfl rfl dX10_takeOver_14 ?_
  refine pg_copyi S Y hl.1 km10_61 kAn kAs kAi p_z_ta p_ta (by decide) (by decide) (by decide) (by decide) (by decide) (Nat.le_of_ble_eq_true rfl) (Nat.le_of_ble_eq_true rfl) dX10_takeOver_15 (fun f_1437 H locs ef_1437 Y => ?_)
  obtain ⟨g_1436, eg_1436⟩ : ∃ z, z = va_cpy (g_z_ta) (g_ta) (0 : Int32).toNatClampNeg (0 : Int32).toNatClampNeg (6 : Int32).toNatClampNeg := ⟨_, rfl⟩
  rw [← eg_1436] at ef_1437
  have p_ko := p_ko.up ef_1437 ((p_ko.neA p_ta))
  have p_h := p_h.up ef_1437 ((p_h.neA p_ta))
  have p_nw := p_nw.up ef_1437 ((p_nw.neA p_ta))
  have p_oa := p_oa.up ef_1437 ((p_oa.neN p_ta (by decide)))
  have p_aa := p_aa.up ef_1437 ((p_aa.neN p_ta (by decide)))
  have p_pa := p_pa.up ef_1437 ((p_pa.neN p_ta (by decide)))
  have p_fe := p_fe.up ef_1437 ((p_fe.neA p_ta))
  have p_c1 := p_c1.up ef_1437 ((p_c1.neN p_ta (by decide)))
  have p_cl := p_cl.up ef_1437 ((p_cl.neA p_ta))
  have p_c2 := p_c2.up ef_1437 ((p_c2.neN p_ta (by decide)))
  have p_wo := p_wo.up ef_1437 ((p_wo.neA p_ta))
  have p_c3 := p_c3.up ef_1437 ((p_c3.neN p_ta (by decide)))
  have p_si := p_si.up ef_1437 ((p_si.neA p_ta))
  have p_c4 := p_c4.up ef_1437 ((p_c4.neN p_ta (by decide)))
  have p_we := p_we.up ef_1437 ((p_we.neA p_ta))
  have p_c5 := p_c5.up ef_1437 ((p_c5.neN p_ta (by decide)))
  have p_o := p_o.up ef_1437 ((p_o.neA p_ta))
  have p_z_nw := p_z_nw.up ef_1437 ((p_z_nw.neA p_ta))
  have p_z_oa := p_z_oa.up ef_1437 ((p_z_oa.neN p_ta (by decide)))
  have p_z_aa := p_z_aa.up ef_1437 ((p_z_aa.neN p_ta (by decide)))
  have p_z_pa := p_z_pa.up ef_1437 ((p_z_pa.neN p_ta (by decide)))
  have p_z_fe := p_z_fe.up ef_1437 ((p_z_fe.neA p_ta))
  have p_z_c1 := p_z_c1.up ef_1437 ((p_z_c1.neN p_ta (by decide)))
  have p_z_cl := p_z_cl.up ef_1437 ((p_z_cl.neA p_ta))
  have p_z_c2 := p_z_c2.up ef_1437 ((p_z_c2.neN p_ta (by decide)))
  have p_z_wo := p_z_wo.up ef_1437 ((p_z_wo.neA p_ta))
  have p_z_c3 := p_z_c3.up ef_1437 ((p_z_c3.neN p_ta (by decide)))
  have p_z_si := p_z_si.up ef_1437 ((p_z_si.neA p_ta))
  have p_z_c4 := p_z_c4.up ef_1437 ((p_z_c4.neN p_ta (by decide)))
  have p_z_we := p_z_we.up ef_1437 ((p_z_we.neA p_ta))
  have p_z_c5 := p_z_c5.up ef_1437 ((p_z_c5.neN p_ta (by decide)))
  have p_ta := p_ta.me ef_1437
  obtain ⟨g_1438, p_ag⟩ := (tN_up s_ta ef_1437).2 _ _ s_ag
  obtain ⟨g_1439, p_z_ta⟩ := (tN_up s_ta ef_1437).2 _ _ s_z_ta
  obtain ⟨g_1440, p_z_ag⟩ := (tN_up s_ta ef_1437).2 _ _ s_z_ag
  refine lv_aload_n hx hb dX10_takeOver_18 rfl (lv_at hl 1 rfl) ?_
  refine pg_get S Y ok_X10 1 (by decide) kf10_15 (v := .ref z_ag) p_o rfl dX10_takeOver_19 ?_
  refine lv_iconst (v := 0) hx hb dX10_takeOver_22 (by decide) ?_
  refine lv_aload_n hx hb dX10_takeOver_23 rfl (lv_at hl 0 rfl) ?_
  refine pg_get S Y ok_X10 1 (by decide) kf10_15 (v := .ref ag) p_h rfl dX10_takeOver_24 ?_
  refine lv_iconst (v := 0) hx hb dX10_takeOver_27 (by decide) ?_
  refine lv_aload_n hx hb dX10_takeOver_28 rfl (lv_at hl 0 rfl) ?_
  refine pg_get S Y ok_X10 1 (by decide) kf10_15 (v := .ref ag) p_h rfl dX10_takeOver_29 ?_
  refine pg_alen S Y (k := 0) (v := 6) p_ag rfl rfl dX10_takeOver_32 ?_
  refine pg_copyi S Y hl.1 km10_61 kAn kAs kAi p_z_ag p_ag (by decide) (by decide) (by decide) (by decide) (by decide) (Nat.le_of_ble_eq_true rfl) (Nat.le_of_ble_eq_true rfl) dX10_takeOver_33 (fun f_1442 H locs ef_1442 Y => ?_)
  obtain ⟨g_1441, eg_1441⟩ : ∃ z, z = va_cpy (g_1440) (g_1438) (0 : Int32).toNatClampNeg (0 : Int32).toNatClampNeg (6 : Int32).toNatClampNeg := ⟨_, rfl⟩
  rw [← eg_1441] at ef_1442
  have p_ko := p_ko.up ef_1442 ((p_ko.neA p_ag))
  have p_h := p_h.up ef_1442 ((p_h.neA p_ag))
  have p_nw := p_nw.up ef_1442 ((p_nw.neA p_ag))
  have p_oa := p_oa.up ef_1442 ((p_oa.neN p_ag (by decide)))
  have p_aa := p_aa.up ef_1442 ((p_aa.neN p_ag (by decide)))
  have p_pa := p_pa.up ef_1442 ((p_pa.neN p_ag (by decide)))
  have p_fe := p_fe.up ef_1442 ((p_fe.neA p_ag))
  have p_c1 := p_c1.up ef_1442 ((p_c1.neN p_ag (by decide)))
  have p_cl := p_cl.up ef_1442 ((p_cl.neA p_ag))
  have p_c2 := p_c2.up ef_1442 ((p_c2.neN p_ag (by decide)))
  have p_wo := p_wo.up ef_1442 ((p_wo.neA p_ag))
  have p_c3 := p_c3.up ef_1442 ((p_c3.neN p_ag (by decide)))
  have p_si := p_si.up ef_1442 ((p_si.neA p_ag))
  have p_c4 := p_c4.up ef_1442 ((p_c4.neN p_ag (by decide)))
  have p_we := p_we.up ef_1442 ((p_we.neA p_ag))
  have p_c5 := p_c5.up ef_1442 ((p_c5.neN p_ag (by decide)))
  have p_o := p_o.up ef_1442 ((p_o.neA p_ag))
  have p_z_nw := p_z_nw.up ef_1442 ((p_z_nw.neA p_ag))
  have p_z_oa := p_z_oa.up ef_1442 ((p_z_oa.neN p_ag (by decide)))
  have p_z_aa := p_z_aa.up ef_1442 ((p_z_aa.neN p_ag (by decide)))
  have p_z_pa := p_z_pa.up ef_1442 ((p_z_pa.neN p_ag (by decide)))
  have p_z_fe := p_z_fe.up ef_1442 ((p_z_fe.neA p_ag))
  have p_z_c1 := p_z_c1.up ef_1442 ((p_z_c1.neN p_ag (by decide)))
  have p_z_cl := p_z_cl.up ef_1442 ((p_z_cl.neA p_ag))
  have p_z_c2 := p_z_c2.up ef_1442 ((p_z_c2.neN p_ag (by decide)))
  have p_z_wo := p_z_wo.up ef_1442 ((p_z_wo.neA p_ag))
  have p_z_c3 := p_z_c3.up ef_1442 ((p_z_c3.neN p_ag (by decide)))
  have p_z_si := p_z_si.up ef_1442 ((p_z_si.neA p_ag))
  have p_z_c4 := p_z_c4.up ef_1442 ((p_z_c4.neN p_ag (by decide)))
  have p_z_we := p_z_we.up ef_1442 ((p_z_we.neA p_ag))
  have p_z_c5 := p_z_c5.up ef_1442 ((p_z_c5.neN p_ag (by decide)))
  have p_ag := p_ag.me ef_1442
  refine lv_iconst (v := 0) hx hb dX10_takeOver_36 (by decide) ?_
  refine lv_istore_n (lv' := [(2, .int 0), (0, .ref h), (1, .ref o)]) hx hb dX10_takeOver_37 rfl hl (by decide) rfl (fun ls hl => ?_)
  refine lv_iload_n hx hb dX10_takeOver_38 rfl (lv_at hl 0 rfl) ?_
  refine lv_aload_n hx hb dX10_takeOver_39 rfl (lv_at hl 2 rfl) ?_
  refine pg_get S Y ok_X10 11 (by decide) kf10_67 (v := .int 0) p_o rfl dX10_takeOver_40 ?_
  refine lv_icmp_ge (tgt := 67) hx hb dX10_takeOver_43 (by decide) (fun _ => ?_) (fun h => absurd (by decide) h)
  refine lv_iconst (v := 0) hx hb dX10_takeOver_67 (by decide) ?_
  refine lv_istore_n (lv' := [(2, .int 0), (0, .ref h), (1, .ref o)]) hx hb dX10_takeOver_68 rfl hl (by decide) rfl (fun ls hl => ?_)
  have k6 : kp L f L f_1442 [ta, ag] := (kp.rf.up ef_1437 (by simp)).up ef_1442 (by simp)
  have no6 : ∀ g : Nat → Int32, ¬ isLA G (.inl (G.2 0, 6, .inl g)) := fun g => by rintro (⟨x, q⟩ | ⟨x, q⟩ | ⟨x, q⟩) <;> · first | (cases q; done) | (injection q with q; injection q with q1 q2; injection q2 with q3 q4; exact absurd q3 (by decide))
  have hsp0 : sp G L f L f_1442 := sp_kp k6 (fun b e hb he => nmc (Ne.symm (neLA (no6 _) s_ta hb he)) (nmc (Ne.symm (neLA (no6 _) s_ag hb he)) nm0))
  have loop : ∀ (n i : Nat) (L2 : List Nat) (f2 : HF) (H : Heap) (locs : List Loc) (ls : Array Slot) (x : Int32), i + n = 30 → x = nI i → pt L2 f2 ko (.inr (11, [.ref xw, .ref xk, .ref xrd, .ref xjd, .ref xrg, .ref xdd, .ref xfo, .ref xsu, .ref xch])) → pt L2 f2 h (.inr (10, [.ref ta, .ref ag, .ref sc, .ref nw, .ref pa, .ref fe, .ref cl, .ref wo, .ref si, .ref we, .int 0, .int 0, .int (-1), .int 0, .int 0])) → pt L2 f2 nw (.inr (4, [.ref oa, .ref aa, .int 0, .int 0, .int 0, .int 0, .int 137])) → pt L2 f2 pa (.inl (G.2 3, 30, .inr (.inr (.inr (.inr pf))))) → pt L2 f2 fe (.inr (9, [.ref c1, .int 6, .int 0])) → pt L2 f2 c1 (.inl (G.2 0, 24, .inl g_c1)) → pt L2 f2 cl (.inr (9, [.ref c2, .int 8, .int 0])) → pt L2 f2 c2 (.inl (G.2 0, 24, .inl g_c2)) → pt L2 f2 wo (.inr (9, [.ref c3, .int 8, .int 0])) → pt L2 f2 c3 (.inl (G.2 0, 24, .inl g_c3)) → pt L2 f2 si (.inr (9, [.ref c4, .int 8, .int 0])) → pt L2 f2 c4 (.inl (G.2 0, 24, .inl g_c4)) → pt L2 f2 we (.inr (9, [.ref c5, .int 8, .int 0])) → pt L2 f2 c5 (.inl (G.2 0, 24, .inl g_c5)) → pt L2 f2 o (.inr (10, [.ref z_ta, .ref z_ag, .ref z_sc, .ref z_nw, .ref z_pa, .ref z_fe, .ref z_cl, .ref z_wo, .ref z_si, .ref z_we, .int 0, .int 0, .int (-1), .int 0, .int 0])) → pt L2 f2 z_nw (.inr (4, [.ref z_oa, .ref z_aa, .int 0, .int 0, .int 0, .int 0, .int 137])) → pt L2 f2 z_pa (.inl (G.2 3, 30, .inr (.inr (.inr (.inr z_pf))))) → pt L2 f2 z_fe (.inr (9, [.ref z_c1, .int 6, .int 0])) → pt L2 f2 z_c1 (.inl (G.2 0, 24, .inl g_z_c1)) → pt L2 f2 z_cl (.inr (9, [.ref z_c2, .int 8, .int 0])) → pt L2 f2 z_c2 (.inl (G.2 0, 24, .inl g_z_c2)) → pt L2 f2 z_wo (.inr (9, [.ref z_c3, .int 8, .int 0])) → pt L2 f2 z_c3 (.inl (G.2 0, 24, .inl g_z_c3)) → pt L2 f2 z_si (.inr (9, [.ref z_c4, .int 8, .int 0])) → pt L2 f2 z_c4 (.inl (G.2 0, 24, .inl g_z_c4)) → pt L2 f2 z_we (.inr (9, [.ref z_c5, .int 8, .int 0])) → pt L2 f2 z_c5 (.inl (G.2 0, 24, .inl g_z_c5)) → sp G L f L2 f2 → DY G A s [] L2 f2 H locs → lv_has ls 3 [(2, .int x), (0, .ref h), (1, .ref o)] → W p l e (rmD 2 0 0) s m args below meth c H locs (0) (0) (MQ below (va_Qv (fun (u : List Nat × HF) => (fun L1 f1 => pt L1 f1 ko (.inr (11, [.ref xw, .ref xk, .ref xrd, .ref xjd, .ref xrg, .ref xdd, .ref xfo, .ref xsu, .ref xch])) ∧ pt L1 f1 h (.inr (10, [.ref ta, .ref ag, .ref sc, .ref nw, .ref pa, .ref fe, .ref cl, .ref wo, .ref si, .ref we, .int 0, .int 0, .int (-1), .int 0, .int 0])) ∧ pt L1 f1 o (.inr (10, [.ref z_ta, .ref z_ag, .ref z_sc, .ref z_nw, .ref z_pa, .ref z_fe, .ref z_cl, .ref z_wo, .ref z_si, .ref z_we, .int 0, .int 0, .int (-1), .int 0, .int 0])) ∧ pt L1 f1 nw (.inr (4, [.ref oa, .ref aa, .int 0, .int 0, .int 0, .int 0, .int 137])) ∧ pt L1 f1 z_nw (.inr (4, [.ref z_oa, .ref z_aa, .int 0, .int 0, .int 0, .int 0, .int 137]))) u.1 u.2) (fun u t => pOut G (va_A (va_pl L f) sz) u.1 u.2 t) (va_A (va_pl L f) sz)) args s 0 0 A) (F0 m 69 ls []) := by
    intro n
    induction n with
    | zero =>
      intro i L2 f2 H locs ls x hin ex p_ko p_h p_nw p_pa p_fe p_c1 p_cl p_c2 p_wo p_c3 p_si p_c4 p_we p_c5 p_o p_z_nw p_z_pa p_z_fe p_z_c1 p_z_cl p_z_c2 p_z_wo p_z_c3 p_z_si p_z_c4 p_z_we p_z_c5 hsp Y hl
      obtain rfl : i = 30 := by omega
      obtain rfl : x = 30 := by rw [ex]; decide
      refine lv_iload_n hx hb dX10_takeOver_69 rfl (lv_at hl 0 rfl) ?_
      refine lv_bipush (v := 30) hx hb dX10_takeOver_70 (by decide) ?_
      refine lv_icmp_ge (tgt := 96) hx hb dX10_takeOver_72 (by decide) (fun _ => ?_) (fun h => absurd (by decide) h)
      obtain ⟨g_1443, p_oa⟩ := hsp.2.1 _ _ s_oa
      obtain ⟨g_1444, p_z_oa⟩ := hsp.2.1 _ _ s_z_oa
      obtain ⟨g_1445, p_aa⟩ := hsp.2.2 _ _ s_aa
      obtain ⟨g_1446, p_z_aa⟩ := hsp.2.2 _ _ s_z_aa
      refine lv_aload_n hx hb dX10_takeOver_96 rfl (lv_at hl 1 rfl) ?_
      refine pg_get S Y ok_X10 3 (by decide) kf10_27 (v := .ref nw) p_h rfl dX10_takeOver_97 ?_
      refine lv_aload_n hx hb dX10_takeOver_100 rfl (lv_at hl 2 rfl) ?_
      refine pg_get S Y ok_X10 3 (by decide) kf10_27 (v := .ref z_nw) p_o rfl dX10_takeOver_101 ?_
      refine cVv (As := [.ref z_nw]) (rest := []) S Y (c_X4_takeOver (l := l) p_nw p_oa p_aa p_z_nw p_z_oa p_z_aa (n2)) cw_X4_takeOver km10_74 p_nw ok_X4.1 rfl rfl ⟨Nat.le_of_ble_eq_true rfl, Nat.le_of_ble_eq_true rfl⟩ hl.1 rfl (Nat.le_of_ble_eq_true rfl) ⟨Nat.le_of_ble_eq_true rfl, Nat.le_of_ble_eq_true rfl⟩ dX10_takeOver_104 (fun L_1447 f_1448 H locs hf_1448 Y => ?_)
      obtain ⟨g__1449, g__1450, kf_1448, z_z_1451, z_z_1452, z_z_1453⟩ := hf_1448
      have p_ko := kf_1448.1 ko _ (nmc (p_ko.neK p_nw (by decide)) (nmc (p_ko.neA p_oa) (nmc (p_ko.neA p_aa) nm0))) p_ko
      have p_h := kf_1448.1 h _ (nmc (p_h.neK p_nw (by decide)) (nmc (p_h.neA p_oa) (nmc (p_h.neA p_aa) nm0))) p_h
      have p_pa := kf_1448.1 pa _ (nmc (p_pa.neB p_nw) (nmc (p_pa.neN p_oa (by decide)) (nmc (p_pa.neN p_aa (by decide)) nm0))) p_pa
      have p_fe := kf_1448.1 fe _ (nmc (p_fe.neK p_nw (by decide)) (nmc (p_fe.neA p_oa) (nmc (p_fe.neA p_aa) nm0))) p_fe
      have p_c1 := kf_1448.1 c1 _ (nmc (p_c1.neB p_nw) (nmc (p_c1.neN p_oa (by decide)) (nmc (p_c1.neN p_aa (by decide)) nm0))) p_c1
      have p_cl := kf_1448.1 cl _ (nmc (p_cl.neK p_nw (by decide)) (nmc (p_cl.neA p_oa) (nmc (p_cl.neA p_aa) nm0))) p_cl
      have p_c2 := kf_1448.1 c2 _ (nmc (p_c2.neB p_nw) (nmc (p_c2.neN p_oa (by decide)) (nmc (p_c2.neN p_aa (by decide)) nm0))) p_c2
      have p_wo := kf_1448.1 wo _ (nmc (p_wo.neK p_nw (by decide)) (nmc (p_wo.neA p_oa) (nmc (p_wo.neA p_aa) nm0))) p_wo
      have p_c3 := kf_1448.1 c3 _ (nmc (p_c3.neB p_nw) (nmc (p_c3.neN p_oa (by decide)) (nmc (p_c3.neN p_aa (by decide)) nm0))) p_c3
      have p_si := kf_1448.1 si _ (nmc (p_si.neK p_nw (by decide)) (nmc (p_si.neA p_oa) (nmc (p_si.neA p_aa) nm0))) p_si
      have p_c4 := kf_1448.1 c4 _ (nmc (p_c4.neB p_nw) (nmc (p_c4.neN p_oa (by decide)) (nmc (p_c4.neN p_aa (by decide)) nm0))) p_c4
      have p_we := kf_1448.1 we _ (nmc (p_we.neK p_nw (by decide)) (nmc (p_we.neA p_oa) (nmc (p_we.neA p_aa) nm0))) p_we
      have p_c5 := kf_1448.1 c5 _ (nmc (p_c5.neB p_nw) (nmc (p_c5.neN p_oa (by decide)) (nmc (p_c5.neN p_aa (by decide)) nm0))) p_c5
      have p_o := kf_1448.1 o _ (nmc (p_o.neK p_nw (by decide)) (nmc (p_o.neA p_oa) (nmc (p_o.neA p_aa) nm0))) p_o
      have p_z_nw := kf_1448.1 z_nw _ (nmc (Ne.symm (n2)) (nmc (p_z_nw.neA p_oa) (nmc (p_z_nw.neA p_aa) nm0))) p_z_nw
      have p_z_pa := kf_1448.1 z_pa _ (nmc (p_z_pa.neB p_nw) (nmc (p_z_pa.neN p_oa (by decide)) (nmc (p_z_pa.neN p_aa (by decide)) nm0))) p_z_pa
      have p_z_fe := kf_1448.1 z_fe _ (nmc (p_z_fe.neK p_nw (by decide)) (nmc (p_z_fe.neA p_oa) (nmc (p_z_fe.neA p_aa) nm0))) p_z_fe
      have p_z_c1 := kf_1448.1 z_c1 _ (nmc (p_z_c1.neB p_nw) (nmc (p_z_c1.neN p_oa (by decide)) (nmc (p_z_c1.neN p_aa (by decide)) nm0))) p_z_c1
      have p_z_cl := kf_1448.1 z_cl _ (nmc (p_z_cl.neK p_nw (by decide)) (nmc (p_z_cl.neA p_oa) (nmc (p_z_cl.neA p_aa) nm0))) p_z_cl
      have p_z_c2 := kf_1448.1 z_c2 _ (nmc (p_z_c2.neB p_nw) (nmc (p_z_c2.neN p_oa (by decide)) (nmc (p_z_c2.neN p_aa (by decide)) nm0))) p_z_c2
      have p_z_wo := kf_1448.1 z_wo _ (nmc (p_z_wo.neK p_nw (by decide)) (nmc (p_z_wo.neA p_oa) (nmc (p_z_wo.neA p_aa) nm0))) p_z_wo
      have p_z_c3 := kf_1448.1 z_c3 _ (nmc (p_z_c3.neB p_nw) (nmc (p_z_c3.neN p_oa (by decide)) (nmc (p_z_c3.neN p_aa (by decide)) nm0))) p_z_c3
      have p_z_si := kf_1448.1 z_si _ (nmc (p_z_si.neK p_nw (by decide)) (nmc (p_z_si.neA p_oa) (nmc (p_z_si.neA p_aa) nm0))) p_z_si
      have p_z_c4 := kf_1448.1 z_c4 _ (nmc (p_z_c4.neB p_nw) (nmc (p_z_c4.neN p_oa (by decide)) (nmc (p_z_c4.neN p_aa (by decide)) nm0))) p_z_c4
      have p_z_we := kf_1448.1 z_we _ (nmc (p_z_we.neK p_nw (by decide)) (nmc (p_z_we.neA p_oa) (nmc (p_z_we.neA p_aa) nm0))) p_z_we
      have p_z_c5 := kf_1448.1 z_c5 _ (nmc (p_z_c5.neB p_nw) (nmc (p_z_c5.neN p_oa (by decide)) (nmc (p_z_c5.neN p_aa (by decide)) nm0))) p_z_c5
      have p_nw := z_z_1451
      have p_oa := z_z_1452
      have p_aa := z_z_1453
      refine lv_aload_n hx hb dX10_takeOver_107 rfl (lv_at hl 1 rfl) ?_
      refine pg_get S Y ok_X10 5 (by decide) kf10_40 (v := .ref fe) p_h rfl dX10_takeOver_108 ?_
      refine lv_aload_n hx hb dX10_takeOver_111 rfl (lv_at hl 2 rfl) ?_
      refine pg_get S Y ok_X10 5 (by decide) kf10_40 (v := .ref z_fe) p_o rfl dX10_takeOver_112 ?_
      refine cVv (As := [.ref z_fe]) (rest := []) S Y (c_X9_takeOver (l := l) p_fe p_c1 p_z_fe p_z_c1) cw_X9_takeOver km10_77 p_fe ok_X9.1 rfl rfl ⟨Nat.le_of_ble_eq_true rfl, Nat.le_of_ble_eq_true rfl⟩ hl.1 rfl (Nat.le_of_ble_eq_true rfl) ⟨Nat.le_of_ble_eq_true rfl, Nat.le_of_ble_eq_true rfl⟩ dX10_takeOver_115 (fun L_1454 f_1455 H locs hf_1455 Y => ?_)
      have p_ko := hf_1455.1 _ _ p_ko (by rintro ⟨x, q⟩; cases q)
      have p_h := hf_1455.1 _ _ p_h (by rintro ⟨x, q⟩; cases q)
      have p_nw := hf_1455.1 _ _ p_nw (by rintro ⟨x, q⟩; cases q)
      have p_pa := hf_1455.1 _ _ p_pa (by rintro ⟨x, q⟩; injection q with q; injection q with q1 q2; injection q2 with q3 q4; exact absurd q3 (by decide))
      have p_fe := hf_1455.1 _ _ p_fe (by rintro ⟨x, q⟩; cases q)
      obtain ⟨g_1456, p_c1⟩ := hf_1455.2 _ _ p_c1
      have p_cl := hf_1455.1 _ _ p_cl (by rintro ⟨x, q⟩; cases q)
      obtain ⟨g_1457, p_c2⟩ := hf_1455.2 _ _ p_c2
      have p_wo := hf_1455.1 _ _ p_wo (by rintro ⟨x, q⟩; cases q)
      obtain ⟨g_1458, p_c3⟩ := hf_1455.2 _ _ p_c3
      have p_si := hf_1455.1 _ _ p_si (by rintro ⟨x, q⟩; cases q)
      obtain ⟨g_1459, p_c4⟩ := hf_1455.2 _ _ p_c4
      have p_we := hf_1455.1 _ _ p_we (by rintro ⟨x, q⟩; cases q)
      obtain ⟨g_1460, p_c5⟩ := hf_1455.2 _ _ p_c5
      have p_o := hf_1455.1 _ _ p_o (by rintro ⟨x, q⟩; cases q)
      have p_z_nw := hf_1455.1 _ _ p_z_nw (by rintro ⟨x, q⟩; cases q)
      have p_z_pa := hf_1455.1 _ _ p_z_pa (by rintro ⟨x, q⟩; injection q with q; injection q with q1 q2; injection q2 with q3 q4; exact absurd q3 (by decide))
      have p_z_fe := hf_1455.1 _ _ p_z_fe (by rintro ⟨x, q⟩; cases q)
      obtain ⟨g_1461, p_z_c1⟩ := hf_1455.2 _ _ p_z_c1
      have p_z_cl := hf_1455.1 _ _ p_z_cl (by rintro ⟨x, q⟩; cases q)
      obtain ⟨g_1462, p_z_c2⟩ := hf_1455.2 _ _ p_z_c2
      have p_z_wo := hf_1455.1 _ _ p_z_wo (by rintro ⟨x, q⟩; cases q)
      obtain ⟨g_1463, p_z_c3⟩ := hf_1455.2 _ _ p_z_c3
      have p_z_si := hf_1455.1 _ _ p_z_si (by rintro ⟨x, q⟩; cases q)
      obtain ⟨g_1464, p_z_c4⟩ := hf_1455.2 _ _ p_z_c4
      have p_z_we := hf_1455.1 _ _ p_z_we (by rintro ⟨x, q⟩; cases q)
      obtain ⟨g_1465, p_z_c5⟩ := hf_1455.2 _ _ p_z_c5
      have p_oa := hf_1455.1 _ _ p_oa (by rintro ⟨x, q⟩; injection q with q; injection q with q1 q2; injection q2 with q3 q4; exact absurd q3 (by decide))
      have p_aa := hf_1455.1 _ _ p_aa (by rintro ⟨x, q⟩; injection q with q; injection q with q1 q2; injection q2 with q3 q4; exact absurd q3 (by decide))
      refine lv_aload_n hx hb dX10_takeOver_118 rfl (lv_at hl 1 rfl) ?_
      refine pg_get S Y ok_X10 6 (by decide) kf10_44 (v := .ref cl) p_h rfl dX10_takeOver_119 ?_
      refine lv_aload_n hx hb dX10_takeOver_122 rfl (lv_at hl 2 rfl) ?_
      refine pg_get S Y ok_X10 6 (by decide) kf10_44 (v := .ref z_cl) p_o rfl dX10_takeOver_123 ?_
      refine cVv (As := [.ref z_cl]) (rest := []) S Y (c_X9_takeOver (l := l) p_cl p_c2 p_z_cl p_z_c2) cw_X9_takeOver km10_77 p_cl ok_X9.1 rfl rfl ⟨Nat.le_of_ble_eq_true rfl, Nat.le_of_ble_eq_true rfl⟩ hl.1 rfl (Nat.le_of_ble_eq_true rfl) ⟨Nat.le_of_ble_eq_true rfl, Nat.le_of_ble_eq_true rfl⟩ dX10_takeOver_126 (fun L_1466 f_1467 H locs hf_1467 Y => ?_)
      have p_ko := hf_1467.1 _ _ p_ko (by rintro ⟨x, q⟩; cases q)
      have p_h := hf_1467.1 _ _ p_h (by rintro ⟨x, q⟩; cases q)
      have p_nw := hf_1467.1 _ _ p_nw (by rintro ⟨x, q⟩; cases q)
      have p_pa := hf_1467.1 _ _ p_pa (by rintro ⟨x, q⟩; injection q with q; injection q with q1 q2; injection q2 with q3 q4; exact absurd q3 (by decide))
      have p_fe := hf_1467.1 _ _ p_fe (by rintro ⟨x, q⟩; cases q)
      obtain ⟨g_1468, p_c1⟩ := hf_1467.2 _ _ p_c1
      have p_cl := hf_1467.1 _ _ p_cl (by rintro ⟨x, q⟩; cases q)
      obtain ⟨g_1469, p_c2⟩ := hf_1467.2 _ _ p_c2
      have p_wo := hf_1467.1 _ _ p_wo (by rintro ⟨x, q⟩; cases q)
      obtain ⟨g_1470, p_c3⟩ := hf_1467.2 _ _ p_c3
      have p_si := hf_1467.1 _ _ p_si (by rintro ⟨x, q⟩; cases q)
      obtain ⟨g_1471, p_c4⟩ := hf_1467.2 _ _ p_c4
      have p_we := hf_1467.1 _ _ p_we (by rintro ⟨x, q⟩; cases q)
      obtain ⟨g_1472, p_c5⟩ := hf_1467.2 _ _ p_c5
      have p_o := hf_1467.1 _ _ p_o (by rintro ⟨x, q⟩; cases q)
      have p_z_nw := hf_1467.1 _ _ p_z_nw (by rintro ⟨x, q⟩; cases q)
      have p_z_pa := hf_1467.1 _ _ p_z_pa (by rintro ⟨x, q⟩; injection q with q; injection q with q1 q2; injection q2 with q3 q4; exact absurd q3 (by decide))
      have p_z_fe := hf_1467.1 _ _ p_z_fe (by rintro ⟨x, q⟩; cases q)
      obtain ⟨g_1473, p_z_c1⟩ := hf_1467.2 _ _ p_z_c1
      have p_z_cl := hf_1467.1 _ _ p_z_cl (by rintro ⟨x, q⟩; cases q)
      obtain ⟨g_1474, p_z_c2⟩ := hf_1467.2 _ _ p_z_c2
      have p_z_wo := hf_1467.1 _ _ p_z_wo (by rintro ⟨x, q⟩; cases q)
      obtain ⟨g_1475, p_z_c3⟩ := hf_1467.2 _ _ p_z_c3
      have p_z_si := hf_1467.1 _ _ p_z_si (by rintro ⟨x, q⟩; cases q)
      obtain ⟨g_1476, p_z_c4⟩ := hf_1467.2 _ _ p_z_c4
      have p_z_we := hf_1467.1 _ _ p_z_we (by rintro ⟨x, q⟩; cases q)
      obtain ⟨g_1477, p_z_c5⟩ := hf_1467.2 _ _ p_z_c5
      have p_oa := hf_1467.1 _ _ p_oa (by rintro ⟨x, q⟩; injection q with q; injection q with q1 q2; injection q2 with q3 q4; exact absurd q3 (by decide))
      have p_aa := hf_1467.1 _ _ p_aa (by rintro ⟨x, q⟩; injection q with q; injection q with q1 q2; injection q2 with q3 q4; exact absurd q3 (by decide))
      refine lv_aload_n hx hb dX10_takeOver_129 rfl (lv_at hl 1 rfl) ?_
      refine pg_get S Y ok_X10 7 (by decide) kf10_47 (v := .ref wo) p_h rfl dX10_takeOver_130 ?_
      refine lv_aload_n hx hb dX10_takeOver_133 rfl (lv_at hl 2 rfl) ?_
      refine pg_get S Y ok_X10 7 (by decide) kf10_47 (v := .ref z_wo) p_o rfl dX10_takeOver_134 ?_
      refine cVv (As := [.ref z_wo]) (rest := []) S Y (c_X9_takeOver (l := l) p_wo p_c3 p_z_wo p_z_c3) cw_X9_takeOver km10_77 p_wo ok_X9.1 rfl rfl ⟨Nat.le_of_ble_eq_true rfl, Nat.le_of_ble_eq_true rfl⟩ hl.1 rfl (Nat.le_of_ble_eq_true rfl) ⟨Nat.le_of_ble_eq_true rfl, Nat.le_of_ble_eq_true rfl⟩ dX10_takeOver_137 (fun L_1478 f_1479 H locs hf_1479 Y => ?_)
      have p_ko := hf_1479.1 _ _ p_ko (by rintro ⟨x, q⟩; cases q)
      have p_h := hf_1479.1 _ _ p_h (by rintro ⟨x, q⟩; cases q)
      have p_nw := hf_1479.1 _ _ p_nw (by rintro ⟨x, q⟩; cases q)
      have p_pa := hf_1479.1 _ _ p_pa (by rintro ⟨x, q⟩; injection q with q; injection q with q1 q2; injection q2 with q3 q4; exact absurd q3 (by decide))
      have p_fe := hf_1479.1 _ _ p_fe (by rintro ⟨x, q⟩; cases q)
      obtain ⟨g_1480, p_c1⟩ := hf_1479.2 _ _ p_c1
      have p_cl := hf_1479.1 _ _ p_cl (by rintro ⟨x, q⟩; cases q)
      obtain ⟨g_1481, p_c2⟩ := hf_1479.2 _ _ p_c2
      have p_wo := hf_1479.1 _ _ p_wo (by rintro ⟨x, q⟩; cases q)
      obtain ⟨g_1482, p_c3⟩ := hf_1479.2 _ _ p_c3
      have p_si := hf_1479.1 _ _ p_si (by rintro ⟨x, q⟩; cases q)
      obtain ⟨g_1483, p_c4⟩ := hf_1479.2 _ _ p_c4
      have p_we := hf_1479.1 _ _ p_we (by rintro ⟨x, q⟩; cases q)
      obtain ⟨g_1484, p_c5⟩ := hf_1479.2 _ _ p_c5
      have p_o := hf_1479.1 _ _ p_o (by rintro ⟨x, q⟩; cases q)
      have p_z_nw := hf_1479.1 _ _ p_z_nw (by rintro ⟨x, q⟩; cases q)
      have p_z_pa := hf_1479.1 _ _ p_z_pa (by rintro ⟨x, q⟩; injection q with q; injection q with q1 q2; injection q2 with q3 q4; exact absurd q3 (by decide))
      have p_z_fe := hf_1479.1 _ _ p_z_fe (by rintro ⟨x, q⟩; cases q)
      obtain ⟨g_1485, p_z_c1⟩ := hf_1479.2 _ _ p_z_c1
      have p_z_cl := hf_1479.1 _ _ p_z_cl (by rintro ⟨x, q⟩; cases q)
      obtain ⟨g_1486, p_z_c2⟩ := hf_1479.2 _ _ p_z_c2
      have p_z_wo := hf_1479.1 _ _ p_z_wo (by rintro ⟨x, q⟩; cases q)
      obtain ⟨g_1487, p_z_c3⟩ := hf_1479.2 _ _ p_z_c3
      have p_z_si := hf_1479.1 _ _ p_z_si (by rintro ⟨x, q⟩; cases q)
      obtain ⟨g_1488, p_z_c4⟩ := hf_1479.2 _ _ p_z_c4
      have p_z_we := hf_1479.1 _ _ p_z_we (by rintro ⟨x, q⟩; cases q)
      obtain ⟨g_1489, p_z_c5⟩ := hf_1479.2 _ _ p_z_c5
      have p_oa := hf_1479.1 _ _ p_oa (by rintro ⟨x, q⟩; injection q with q; injection q with q1 q2; injection q2 with q3 q4; exact absurd q3 (by decide))
      have p_aa := hf_1479.1 _ _ p_aa (by rintro ⟨x, q⟩; injection q with q; injection q with q1 q2; injection q2 with q3 q4; exact absurd q3 (by decide))
      refine lv_aload_n hx hb dX10_takeOver_140 rfl (lv_at hl 1 rfl) ?_
      refine pg_get S Y ok_X10 8 (by decide) kf10_50 (v := .ref si) p_h rfl dX10_takeOver_141 ?_
      refine lv_aload_n hx hb dX10_takeOver_144 rfl (lv_at hl 2 rfl) ?_
      refine pg_get S Y ok_X10 8 (by decide) kf10_50 (v := .ref z_si) p_o rfl dX10_takeOver_145 ?_
      refine cVv (As := [.ref z_si]) (rest := []) S Y (c_X9_takeOver (l := l) p_si p_c4 p_z_si p_z_c4) cw_X9_takeOver km10_77 p_si ok_X9.1 rfl rfl ⟨Nat.le_of_ble_eq_true rfl, Nat.le_of_ble_eq_true rfl⟩ hl.1 rfl (Nat.le_of_ble_eq_true rfl) ⟨Nat.le_of_ble_eq_true rfl, Nat.le_of_ble_eq_true rfl⟩ dX10_takeOver_148 (fun L_1490 f_1491 H locs hf_1491 Y => ?_)
      have p_ko := hf_1491.1 _ _ p_ko (by rintro ⟨x, q⟩; cases q)
      have p_h := hf_1491.1 _ _ p_h (by rintro ⟨x, q⟩; cases q)
      have p_nw := hf_1491.1 _ _ p_nw (by rintro ⟨x, q⟩; cases q)
      have p_pa := hf_1491.1 _ _ p_pa (by rintro ⟨x, q⟩; injection q with q; injection q with q1 q2; injection q2 with q3 q4; exact absurd q3 (by decide))
      have p_fe := hf_1491.1 _ _ p_fe (by rintro ⟨x, q⟩; cases q)
      obtain ⟨g_1492, p_c1⟩ := hf_1491.2 _ _ p_c1
      have p_cl := hf_1491.1 _ _ p_cl (by rintro ⟨x, q⟩; cases q)
      obtain ⟨g_1493, p_c2⟩ := hf_1491.2 _ _ p_c2
      have p_wo := hf_1491.1 _ _ p_wo (by rintro ⟨x, q⟩; cases q)
      obtain ⟨g_1494, p_c3⟩ := hf_1491.2 _ _ p_c3
      have p_si := hf_1491.1 _ _ p_si (by rintro ⟨x, q⟩; cases q)
      obtain ⟨g_1495, p_c4⟩ := hf_1491.2 _ _ p_c4
      have p_we := hf_1491.1 _ _ p_we (by rintro ⟨x, q⟩; cases q)
      obtain ⟨g_1496, p_c5⟩ := hf_1491.2 _ _ p_c5
      have p_o := hf_1491.1 _ _ p_o (by rintro ⟨x, q⟩; cases q)
      have p_z_nw := hf_1491.1 _ _ p_z_nw (by rintro ⟨x, q⟩; cases q)
      have p_z_pa := hf_1491.1 _ _ p_z_pa (by rintro ⟨x, q⟩; injection q with q; injection q with q1 q2; injection q2 with q3 q4; exact absurd q3 (by decide))
      have p_z_fe := hf_1491.1 _ _ p_z_fe (by rintro ⟨x, q⟩; cases q)
      obtain ⟨g_1497, p_z_c1⟩ := hf_1491.2 _ _ p_z_c1
      have p_z_cl := hf_1491.1 _ _ p_z_cl (by rintro ⟨x, q⟩; cases q)
      obtain ⟨g_1498, p_z_c2⟩ := hf_1491.2 _ _ p_z_c2
      have p_z_wo := hf_1491.1 _ _ p_z_wo (by rintro ⟨x, q⟩; cases q)
      obtain ⟨g_1499, p_z_c3⟩ := hf_1491.2 _ _ p_z_c3
      have p_z_si := hf_1491.1 _ _ p_z_si (by rintro ⟨x, q⟩; cases q)
      obtain ⟨g_1500, p_z_c4⟩ := hf_1491.2 _ _ p_z_c4
      have p_z_we := hf_1491.1 _ _ p_z_we (by rintro ⟨x, q⟩; cases q)
      obtain ⟨g_1501, p_z_c5⟩ := hf_1491.2 _ _ p_z_c5
      have p_oa := hf_1491.1 _ _ p_oa (by rintro ⟨x, q⟩; injection q with q; injection q with q1 q2; injection q2 with q3 q4; exact absurd q3 (by decide))
      have p_aa := hf_1491.1 _ _ p_aa (by rintro ⟨x, q⟩; injection q with q; injection q with q1 q2; injection q2 with q3 q4; exact absurd q3 (by decide))
      refine lv_aload_n hx hb dX10_takeOver_151 rfl (lv_at hl 1 rfl) ?_
      refine pg_get S Y ok_X10 9 (by decide) kf10_53 (v := .ref we) p_h rfl dX10_takeOver_152 ?_
      refine lv_aload_n hx hb dX10_takeOver_155 rfl (lv_at hl 2 rfl) ?_
      refine pg_get S Y ok_X10 9 (by decide) kf10_53 (v := .ref z_we) p_o rfl dX10_takeOver_156 ?_
      refine cVv (As := [.ref z_we]) (rest := []) S Y (c_X9_takeOver (l := l) p_we p_c5 p_z_we p_z_c5) cw_X9_takeOver km10_77 p_we ok_X9.1 rfl rfl ⟨Nat.le_of_ble_eq_true rfl, Nat.le_of_ble_eq_true rfl⟩ hl.1 rfl (Nat.le_of_ble_eq_true rfl) ⟨Nat.le_of_ble_eq_true rfl, Nat.le_of_ble_eq_true rfl⟩ dX10_takeOver_159 (fun L_1502 f_1503 H locs hf_1503 Y => ?_)
      have p_ko := hf_1503.1 _ _ p_ko (by rintro ⟨x, q⟩; cases q)
      have p_h := hf_1503.1 _ _ p_h (by rintro ⟨x, q⟩; cases q)
      have p_nw := hf_1503.1 _ _ p_nw (by rintro ⟨x, q⟩; cases q)
      have p_pa := hf_1503.1 _ _ p_pa (by rintro ⟨x, q⟩; injection q with q; injection q with q1 q2; injection q2 with q3 q4; exact absurd q3 (by decide))
      have p_fe := hf_1503.1 _ _ p_fe (by rintro ⟨x, q⟩; cases q)
      obtain ⟨g_1504, p_c1⟩ := hf_1503.2 _ _ p_c1
      have p_cl := hf_1503.1 _ _ p_cl (by rintro ⟨x, q⟩; cases q)
      obtain ⟨g_1505, p_c2⟩ := hf_1503.2 _ _ p_c2
      have p_wo := hf_1503.1 _ _ p_wo (by rintro ⟨x, q⟩; cases q)
      obtain ⟨g_1506, p_c3⟩ := hf_1503.2 _ _ p_c3
      have p_si := hf_1503.1 _ _ p_si (by rintro ⟨x, q⟩; cases q)
      obtain ⟨g_1507, p_c4⟩ := hf_1503.2 _ _ p_c4
      have p_we := hf_1503.1 _ _ p_we (by rintro ⟨x, q⟩; cases q)
      obtain ⟨g_1508, p_c5⟩ := hf_1503.2 _ _ p_c5
      have p_o := hf_1503.1 _ _ p_o (by rintro ⟨x, q⟩; cases q)
      have p_z_nw := hf_1503.1 _ _ p_z_nw (by rintro ⟨x, q⟩; cases q)
      have p_z_pa := hf_1503.1 _ _ p_z_pa (by rintro ⟨x, q⟩; injection q with q; injection q with q1 q2; injection q2 with q3 q4; exact absurd q3 (by decide))
      have p_z_fe := hf_1503.1 _ _ p_z_fe (by rintro ⟨x, q⟩; cases q)
      obtain ⟨g_1509, p_z_c1⟩ := hf_1503.2 _ _ p_z_c1
      have p_z_cl := hf_1503.1 _ _ p_z_cl (by rintro ⟨x, q⟩; cases q)
      obtain ⟨g_1510, p_z_c2⟩ := hf_1503.2 _ _ p_z_c2
      have p_z_wo := hf_1503.1 _ _ p_z_wo (by rintro ⟨x, q⟩; cases q)
      obtain ⟨g_1511, p_z_c3⟩ := hf_1503.2 _ _ p_z_c3
      have p_z_si := hf_1503.1 _ _ p_z_si (by rintro ⟨x, q⟩; cases q)
      obtain ⟨g_1512, p_z_c4⟩ := hf_1503.2 _ _ p_z_c4
      have p_z_we := hf_1503.1 _ _ p_z_we (by rintro ⟨x, q⟩; cases q)
      obtain ⟨g_1513, p_z_c5⟩ := hf_1503.2 _ _ p_z_c5
      have p_oa := hf_1503.1 _ _ p_oa (by rintro ⟨x, q⟩; injection q with q; injection q with q1 q2; injection q2 with q3 q4; exact absurd q3 (by decide))
      have p_aa := hf_1503.1 _ _ p_aa (by rintro ⟨x, q⟩; injection q with q; injection q with q1 q2; injection q2 with q3 q4; exact absurd q3 (by decide))
      refine lv_aload_n hx hb dX10_takeOver_162 rfl (lv_at hl 1 rfl) ?_
      refine lv_aload_n hx hb dX10_takeOver_163 rfl (lv_at hl 2 rfl) ?_
      refine pg_get S Y ok_X10 10 (by decide) kf10_80 (v := .int 0) p_o rfl dX10_takeOver_164 ?_
      refine pg_put S Y ok_X10 10 (by decide) kf10_80 rfl (fs' := [.ref ta, .ref ag, .ref sc, .ref nw, .ref pa, .ref fe, .ref cl, .ref wo, .ref si, .ref we, .int 0, .int 0, .int (-1), .int 0, .int 0]) (v := .int 0) p_h rfl rfl rfl (Nat.le_of_ble_eq_true rfl) dX10_takeOver_167 (fun f_1514 H locs ef_1514 Y => ?_)
      have p_ko := p_ko.up ef_1514 ((p_ko.neK p_h (by decide)))
      have p_nw := p_nw.up ef_1514 ((p_nw.neK p_h (by decide)))
      have p_pa := p_pa.up ef_1514 ((p_pa.neB p_h))
      have p_fe := p_fe.up ef_1514 ((p_fe.neK p_h (by decide)))
      have p_c1 := p_c1.up ef_1514 ((p_c1.neB p_h))
      have p_cl := p_cl.up ef_1514 ((p_cl.neK p_h (by decide)))
      have p_c2 := p_c2.up ef_1514 ((p_c2.neB p_h))
      have p_wo := p_wo.up ef_1514 ((p_wo.neK p_h (by decide)))
      have p_c3 := p_c3.up ef_1514 ((p_c3.neB p_h))
      have p_si := p_si.up ef_1514 ((p_si.neK p_h (by decide)))
      have p_c4 := p_c4.up ef_1514 ((p_c4.neB p_h))
      have p_we := p_we.up ef_1514 ((p_we.neK p_h (by decide)))
      have p_c5 := p_c5.up ef_1514 ((p_c5.neB p_h))
      have p_o := p_o.up ef_1514 ((Ne.symm (n0)))
      have p_z_nw := p_z_nw.up ef_1514 ((p_z_nw.neK p_h (by decide)))
      have p_z_pa := p_z_pa.up ef_1514 ((p_z_pa.neB p_h))
      have p_z_fe := p_z_fe.up ef_1514 ((p_z_fe.neK p_h (by decide)))
      have p_z_c1 := p_z_c1.up ef_1514 ((p_z_c1.neB p_h))
      have p_z_cl := p_z_cl.up ef_1514 ((p_z_cl.neK p_h (by decide)))
      have p_z_c2 := p_z_c2.up ef_1514 ((p_z_c2.neB p_h))
      have p_z_wo := p_z_wo.up ef_1514 ((p_z_wo.neK p_h (by decide)))
      have p_z_c3 := p_z_c3.up ef_1514 ((p_z_c3.neB p_h))
      have p_z_si := p_z_si.up ef_1514 ((p_z_si.neK p_h (by decide)))
      have p_z_c4 := p_z_c4.up ef_1514 ((p_z_c4.neB p_h))
      have p_z_we := p_z_we.up ef_1514 ((p_z_we.neK p_h (by decide)))
      have p_z_c5 := p_z_c5.up ef_1514 ((p_z_c5.neB p_h))
      have p_oa := p_oa.up ef_1514 ((p_oa.neB p_h))
      have p_aa := p_aa.up ef_1514 ((p_aa.neB p_h))
      have p_h := p_h.me ef_1514
      refine lv_aload_n hx hb dX10_takeOver_170 rfl (lv_at hl 1 rfl) ?_
      refine lv_aload_n hx hb dX10_takeOver_171 rfl (lv_at hl 2 rfl) ?_
      refine pg_get S Y ok_X10 11 (by decide) kf10_67 (v := .int 0) p_o rfl dX10_takeOver_172 ?_
      refine pg_put S Y ok_X10 11 (by decide) kf10_67 rfl (fs' := [.ref ta, .ref ag, .ref sc, .ref nw, .ref pa, .ref fe, .ref cl, .ref wo, .ref si, .ref we, .int 0, .int 0, .int (-1), .int 0, .int 0]) (v := .int 0) p_h rfl rfl rfl (Nat.le_of_ble_eq_true rfl) dX10_takeOver_175 (fun f_1515 H locs ef_1515 Y => ?_)
      have p_ko := p_ko.up ef_1515 ((p_ko.neK p_h (by decide)))
      have p_nw := p_nw.up ef_1515 ((p_nw.neK p_h (by decide)))
      have p_pa := p_pa.up ef_1515 ((p_pa.neB p_h))
      have p_fe := p_fe.up ef_1515 ((p_fe.neK p_h (by decide)))
      have p_c1 := p_c1.up ef_1515 ((p_c1.neB p_h))
      have p_cl := p_cl.up ef_1515 ((p_cl.neK p_h (by decide)))
      have p_c2 := p_c2.up ef_1515 ((p_c2.neB p_h))
      have p_wo := p_wo.up ef_1515 ((p_wo.neK p_h (by decide)))
      have p_c3 := p_c3.up ef_1515 ((p_c3.neB p_h))
      have p_si := p_si.up ef_1515 ((p_si.neK p_h (by decide)))
      have p_c4 := p_c4.up ef_1515 ((p_c4.neB p_h))
      have p_we := p_we.up ef_1515 ((p_we.neK p_h (by decide)))
      have p_c5 := p_c5.up ef_1515 ((p_c5.neB p_h))
      have p_o := p_o.up ef_1515 ((Ne.symm (n0)))
      have p_z_nw := p_z_nw.up ef_1515 ((p_z_nw.neK p_h (by decide)))
      have p_z_pa := p_z_pa.up ef_1515 ((p_z_pa.neB p_h))
      have p_z_fe := p_z_fe.up ef_1515 ((p_z_fe.neK p_h (by decide)))
      have p_z_c1 := p_z_c1.up ef_1515 ((p_z_c1.neB p_h))
      have p_z_cl := p_z_cl.up ef_1515 ((p_z_cl.neK p_h (by decide)))
      have p_z_c2 := p_z_c2.up ef_1515 ((p_z_c2.neB p_h))
      have p_z_wo := p_z_wo.up ef_1515 ((p_z_wo.neK p_h (by decide)))
      have p_z_c3 := p_z_c3.up ef_1515 ((p_z_c3.neB p_h))
      have p_z_si := p_z_si.up ef_1515 ((p_z_si.neK p_h (by decide)))
      have p_z_c4 := p_z_c4.up ef_1515 ((p_z_c4.neB p_h))
      have p_z_we := p_z_we.up ef_1515 ((p_z_we.neK p_h (by decide)))
      have p_z_c5 := p_z_c5.up ef_1515 ((p_z_c5.neB p_h))
      have p_oa := p_oa.up ef_1515 ((p_oa.neB p_h))
      have p_aa := p_aa.up ef_1515 ((p_aa.neB p_h))
      have p_h := p_h.me ef_1515
      refine lv_aload_n hx hb dX10_takeOver_178 rfl (lv_at hl 1 rfl) ?_
      refine lv_aload_n hx hb dX10_takeOver_179 rfl (lv_at hl 2 rfl) ?_
      refine pg_get S Y ok_X10 12 (by decide) kf10_56 (v := .int (-1)) p_o rfl dX10_takeOver_180 ?_
      refine pg_put S Y ok_X10 12 (by decide) kf10_56 rfl (fs' := [.ref ta, .ref ag, .ref sc, .ref nw, .ref pa, .ref fe, .ref cl, .ref wo, .ref si, .ref we, .int 0, .int 0, .int (-1), .int 0, .int 0]) (v := .int (-1)) p_h rfl rfl rfl (Nat.le_of_ble_eq_true rfl) dX10_takeOver_183 (fun f_1516 H locs ef_1516 Y => ?_)
      have p_ko := p_ko.up ef_1516 ((p_ko.neK p_h (by decide)))
      have p_nw := p_nw.up ef_1516 ((p_nw.neK p_h (by decide)))
      have p_pa := p_pa.up ef_1516 ((p_pa.neB p_h))
      have p_fe := p_fe.up ef_1516 ((p_fe.neK p_h (by decide)))
      have p_c1 := p_c1.up ef_1516 ((p_c1.neB p_h))
      have p_cl := p_cl.up ef_1516 ((p_cl.neK p_h (by decide)))
      have p_c2 := p_c2.up ef_1516 ((p_c2.neB p_h))
      have p_wo := p_wo.up ef_1516 ((p_wo.neK p_h (by decide)))
      have p_c3 := p_c3.up ef_1516 ((p_c3.neB p_h))
      have p_si := p_si.up ef_1516 ((p_si.neK p_h (by decide)))
      have p_c4 := p_c4.up ef_1516 ((p_c4.neB p_h))
      have p_we := p_we.up ef_1516 ((p_we.neK p_h (by decide)))
      have p_c5 := p_c5.up ef_1516 ((p_c5.neB p_h))
      have p_o := p_o.up ef_1516 ((Ne.symm (n0)))
      have p_z_nw := p_z_nw.up ef_1516 ((p_z_nw.neK p_h (by decide)))
      have p_z_pa := p_z_pa.up ef_1516 ((p_z_pa.neB p_h))
      have p_z_fe := p_z_fe.up ef_1516 ((p_z_fe.neK p_h (by decide)))
      have p_z_c1 := p_z_c1.up ef_1516 ((p_z_c1.neB p_h))
      have p_z_cl := p_z_cl.up ef_1516 ((p_z_cl.neK p_h (by decide)))
      have p_z_c2 := p_z_c2.up ef_1516 ((p_z_c2.neB p_h))
      have p_z_wo := p_z_wo.up ef_1516 ((p_z_wo.neK p_h (by decide)))
      have p_z_c3 := p_z_c3.up ef_1516 ((p_z_c3.neB p_h))
      have p_z_si := p_z_si.up ef_1516 ((p_z_si.neK p_h (by decide)))
      have p_z_c4 := p_z_c4.up ef_1516 ((p_z_c4.neB p_h))
      have p_z_we := p_z_we.up ef_1516 ((p_z_we.neK p_h (by decide)))
      have p_z_c5 := p_z_c5.up ef_1516 ((p_z_c5.neB p_h))
      have p_oa := p_oa.up ef_1516 ((p_oa.neB p_h))
      have p_aa := p_aa.up ef_1516 ((p_aa.neB p_h))
      have p_h := p_h.me ef_1516
      refine lv_aload_n hx hb dX10_takeOver_186 rfl (lv_at hl 1 rfl) ?_
      refine lv_aload_n hx hb dX10_takeOver_187 rfl (lv_at hl 2 rfl) ?_
      refine pg_get S Y ok_X10 13 (by decide) kf10_83 (v := .int 0) p_o rfl dX10_takeOver_188 ?_
      refine pg_put S Y ok_X10 13 (by decide) kf10_83 rfl (fs' := [.ref ta, .ref ag, .ref sc, .ref nw, .ref pa, .ref fe, .ref cl, .ref wo, .ref si, .ref we, .int 0, .int 0, .int (-1), .int 0, .int 0]) (v := .int 0) p_h rfl rfl rfl (Nat.le_of_ble_eq_true rfl) dX10_takeOver_191 (fun f_1517 H locs ef_1517 Y => ?_)
      have p_ko := p_ko.up ef_1517 ((p_ko.neK p_h (by decide)))
      have p_nw := p_nw.up ef_1517 ((p_nw.neK p_h (by decide)))
      have p_pa := p_pa.up ef_1517 ((p_pa.neB p_h))
      have p_fe := p_fe.up ef_1517 ((p_fe.neK p_h (by decide)))
      have p_c1 := p_c1.up ef_1517 ((p_c1.neB p_h))
      have p_cl := p_cl.up ef_1517 ((p_cl.neK p_h (by decide)))
      have p_c2 := p_c2.up ef_1517 ((p_c2.neB p_h))
      have p_wo := p_wo.up ef_1517 ((p_wo.neK p_h (by decide)))
      have p_c3 := p_c3.up ef_1517 ((p_c3.neB p_h))
      have p_si := p_si.up ef_1517 ((p_si.neK p_h (by decide)))
      have p_c4 := p_c4.up ef_1517 ((p_c4.neB p_h))
      have p_we := p_we.up ef_1517 ((p_we.neK p_h (by decide)))
      have p_c5 := p_c5.up ef_1517 ((p_c5.neB p_h))
      have p_o := p_o.up ef_1517 ((Ne.symm (n0)))
      have p_z_nw := p_z_nw.up ef_1517 ((p_z_nw.neK p_h (by decide)))
      have p_z_pa := p_z_pa.up ef_1517 ((p_z_pa.neB p_h))
      have p_z_fe := p_z_fe.up ef_1517 ((p_z_fe.neK p_h (by decide)))
      have p_z_c1 := p_z_c1.up ef_1517 ((p_z_c1.neB p_h))
      have p_z_cl := p_z_cl.up ef_1517 ((p_z_cl.neK p_h (by decide)))
      have p_z_c2 := p_z_c2.up ef_1517 ((p_z_c2.neB p_h))
      have p_z_wo := p_z_wo.up ef_1517 ((p_z_wo.neK p_h (by decide)))
      have p_z_c3 := p_z_c3.up ef_1517 ((p_z_c3.neB p_h))
      have p_z_si := p_z_si.up ef_1517 ((p_z_si.neK p_h (by decide)))
      have p_z_c4 := p_z_c4.up ef_1517 ((p_z_c4.neB p_h))
      have p_z_we := p_z_we.up ef_1517 ((p_z_we.neK p_h (by decide)))
      have p_z_c5 := p_z_c5.up ef_1517 ((p_z_c5.neB p_h))
      have p_oa := p_oa.up ef_1517 ((p_oa.neB p_h))
      have p_aa := p_aa.up ef_1517 ((p_aa.neB p_h))
      have p_h := p_h.me ef_1517
      refine lv_aload_n hx hb dX10_takeOver_194 rfl (lv_at hl 1 rfl) ?_
      refine lv_aload_n hx hb dX10_takeOver_195 rfl (lv_at hl 2 rfl) ?_
      refine pg_get S Y ok_X10 14 (by decide) kf10_86 (v := .int 0) p_o rfl dX10_takeOver_196 ?_
      refine pg_put S Y ok_X10 14 (by decide) kf10_86 rfl (fs' := [.ref ta, .ref ag, .ref sc, .ref nw, .ref pa, .ref fe, .ref cl, .ref wo, .ref si, .ref we, .int 0, .int 0, .int (-1), .int 0, .int 0]) (v := .int 0) p_h rfl rfl rfl (Nat.le_of_ble_eq_true rfl) dX10_takeOver_199 (fun f_1518 H locs ef_1518 Y => ?_)
      have p_ko := p_ko.up ef_1518 ((p_ko.neK p_h (by decide)))
      have p_nw := p_nw.up ef_1518 ((p_nw.neK p_h (by decide)))
      have p_pa := p_pa.up ef_1518 ((p_pa.neB p_h))
      have p_fe := p_fe.up ef_1518 ((p_fe.neK p_h (by decide)))
      have p_c1 := p_c1.up ef_1518 ((p_c1.neB p_h))
      have p_cl := p_cl.up ef_1518 ((p_cl.neK p_h (by decide)))
      have p_c2 := p_c2.up ef_1518 ((p_c2.neB p_h))
      have p_wo := p_wo.up ef_1518 ((p_wo.neK p_h (by decide)))
      have p_c3 := p_c3.up ef_1518 ((p_c3.neB p_h))
      have p_si := p_si.up ef_1518 ((p_si.neK p_h (by decide)))
      have p_c4 := p_c4.up ef_1518 ((p_c4.neB p_h))
      have p_we := p_we.up ef_1518 ((p_we.neK p_h (by decide)))
      have p_c5 := p_c5.up ef_1518 ((p_c5.neB p_h))
      have p_o := p_o.up ef_1518 ((Ne.symm (n0)))
      have p_z_nw := p_z_nw.up ef_1518 ((p_z_nw.neK p_h (by decide)))
      have p_z_pa := p_z_pa.up ef_1518 ((p_z_pa.neB p_h))
      have p_z_fe := p_z_fe.up ef_1518 ((p_z_fe.neK p_h (by decide)))
      have p_z_c1 := p_z_c1.up ef_1518 ((p_z_c1.neB p_h))
      have p_z_cl := p_z_cl.up ef_1518 ((p_z_cl.neK p_h (by decide)))
      have p_z_c2 := p_z_c2.up ef_1518 ((p_z_c2.neB p_h))
      have p_z_wo := p_z_wo.up ef_1518 ((p_z_wo.neK p_h (by decide)))
      have p_z_c3 := p_z_c3.up ef_1518 ((p_z_c3.neB p_h))
      have p_z_si := p_z_si.up ef_1518 ((p_z_si.neK p_h (by decide)))
      have p_z_c4 := p_z_c4.up ef_1518 ((p_z_c4.neB p_h))
      have p_z_we := p_z_we.up ef_1518 ((p_z_we.neK p_h (by decide)))
      have p_z_c5 := p_z_c5.up ef_1518 ((p_z_c5.neB p_h))
      have p_oa := p_oa.up ef_1518 ((p_oa.neB p_h))
      have p_aa := p_aa.up ef_1518 ((p_aa.neB p_h))
      have p_h := p_h.me ef_1518
      exact prV (post := fun L1 f1 => pt L1 f1 ko (.inr (11, [.ref xw, .ref xk, .ref xrd, .ref xjd, .ref xrg, .ref xdd, .ref xfo, .ref xsu, .ref xch])) ∧ pt L1 f1 h (.inr (10, [.ref ta, .ref ag, .ref sc, .ref nw, .ref pa, .ref fe, .ref cl, .ref wo, .ref si, .ref we, .int 0, .int 0, .int (-1), .int 0, .int 0])) ∧ pt L1 f1 o (.inr (10, [.ref z_ta, .ref z_ag, .ref z_sc, .ref z_nw, .ref z_pa, .ref z_fe, .ref z_cl, .ref z_wo, .ref z_si, .ref z_we, .int 0, .int 0, .int (-1), .int 0, .int 0])) ∧ pt L1 f1 nw (.inr (4, [.ref oa, .ref aa, .int 0, .int 0, .int 0, .int 0, .int 137])) ∧ pt L1 f1 z_nw (.inr (4, [.ref z_oa, .ref z_aa, .int 0, .int 0, .int 0, .int 0, .int 137]))) S Y (by decide) (by decide) hA1 ⟨p_ko, p_h, p_o, p_nw, p_z_nw⟩ dX10_takeOver_202
    | succ n ih =>
      intro i L2 f2 H locs ls x hin ex p_ko p_h p_nw p_pa p_fe p_c1 p_cl p_c2 p_wo p_c3 p_si p_c4 p_we p_c5 p_o p_z_nw p_z_pa p_z_fe p_z_c1 p_z_cl p_z_c2 p_z_wo p_z_c3 p_z_si p_z_c4 p_z_we p_z_c5 hsp Y hl
      have hi30 : i < 30 := by omega
      have hi31 : i < 2 ^ 31 := by omega
      have hin2 : i + 1 + n = 30 := by omega
      refine lv_iload_n hx hb dX10_takeOver_69 rfl (lv_at hl 0 rfl) ?_
      refine lv_bipush (v := 30) hx hb dX10_takeOver_70 (by decide) ?_
      refine lv_icmp_ge (tgt := 96) hx hb dX10_takeOver_72 (by decide) (fun h => absurd h (by rw [ex]; exact nI_ge hi30 (by decide))) (fun _ => ?_)
      refine lv_aload_n hx hb dX10_takeOver_75 rfl (lv_at hl 1 rfl) ?_
      refine pg_get S Y ok_X10 4 (by decide) kf10_31 (v := .ref pa) p_h rfl dX10_takeOver_76 ?_
      refine lv_iload_n hx hb dX10_takeOver_79 rfl (lv_at hl 0 rfl) ?_
      obtain ⟨po, pa1, pb1, pq1, pq2, pu1, pu2, pu3, pu4, pu5, hpo, -, -, -, hpne, p_po, p_pa1, p_pb1⟩ := (pastOK_sp hpf hsp) i hi30
      refine pg_aald S Y (k := 3) (o := po) p_pa rfl (by rw [ex]; exact vp_in_nI hi30 (by decide)) (by rw [ex, nI_clamp hi31]; exact hpo) dX10_takeOver_80 ?_
      refine lv_aload_n hx hb dX10_takeOver_81 rfl (lv_at hl 2 rfl) ?_
      refine pg_get S Y ok_X10 4 (by decide) kf10_31 (v := .ref z_pa) p_o rfl dX10_takeOver_82 ?_
      refine lv_iload_n hx hb dX10_takeOver_85 rfl (lv_at hl 0 rfl) ?_
      obtain ⟨ro, ra1, rb1, rq1, rq2, ru1, ru2, ru3, ru4, ru5, hro, -, -, -, hrne, p_ro, p_ra1, p_rb1⟩ := (pastOK_sp hpg hsp) i hi30
      refine pg_aald S Y (k := 3) (o := ro) p_z_pa rfl (by rw [ex]; exact vp_in_nI hi30 (by decide)) (by rw [ex, nI_clamp hi31]; exact hro) dX10_takeOver_86 ?_
      have o_po := p_po
      have o_pa1 := p_pa1
      have o_pb1 := p_pb1
      refine cVv (As := [.ref ro]) (rest := []) S Y (c_X4_takeOver (l := l) p_po p_pa1 p_pb1 p_ro p_ra1 p_rb1 ((hd2 i hi30 _ _ hpo hro))) cw_X4_takeOver km10_74 p_po ok_X4.1 rfl rfl ⟨Nat.le_of_ble_eq_true rfl, Nat.le_of_ble_eq_true rfl⟩ hl.1 rfl (Nat.le_of_ble_eq_true rfl) ⟨Nat.le_of_ble_eq_true rfl, Nat.le_of_ble_eq_true rfl⟩ dX10_takeOver_87 (fun L_1519 f_1520 H locs hf_1520 Y => ?_)
      obtain ⟨g__1521, g__1522, kf_1520, z_z_1523, z_z_1524, z_z_1525⟩ := hf_1520
      have p_ko := kf_1520.1 ko _ (nmc (p_ko.neK p_po (by decide)) (nmc (p_ko.neA p_pa1) (nmc (p_ko.neA p_pb1) nm0))) p_ko
      have p_h := kf_1520.1 h _ (nmc (p_h.neK p_po (by decide)) (nmc (p_h.neA p_pa1) (nmc (p_h.neA p_pb1) nm0))) p_h
      have p_nw := kf_1520.1 nw _ (nmc (Ne.symm (hpne)) (nmc (p_nw.neA p_pa1) (nmc (p_nw.neA p_pb1) nm0))) p_nw
      have p_pa := kf_1520.1 pa _ (nmc (p_pa.neB p_po) (nmc (p_pa.neN p_pa1 (by decide)) (nmc (p_pa.neN p_pb1 (by decide)) nm0))) p_pa
      have p_fe := kf_1520.1 fe _ (nmc (p_fe.neK p_po (by decide)) (nmc (p_fe.neA p_pa1) (nmc (p_fe.neA p_pb1) nm0))) p_fe
      have p_c1 := kf_1520.1 c1 _ (nmc (p_c1.neB p_po) (nmc (p_c1.neN p_pa1 (by decide)) (nmc (p_c1.neN p_pb1 (by decide)) nm0))) p_c1
      have p_cl := kf_1520.1 cl _ (nmc (p_cl.neK p_po (by decide)) (nmc (p_cl.neA p_pa1) (nmc (p_cl.neA p_pb1) nm0))) p_cl
      have p_c2 := kf_1520.1 c2 _ (nmc (p_c2.neB p_po) (nmc (p_c2.neN p_pa1 (by decide)) (nmc (p_c2.neN p_pb1 (by decide)) nm0))) p_c2
      have p_wo := kf_1520.1 wo _ (nmc (p_wo.neK p_po (by decide)) (nmc (p_wo.neA p_pa1) (nmc (p_wo.neA p_pb1) nm0))) p_wo
      have p_c3 := kf_1520.1 c3 _ (nmc (p_c3.neB p_po) (nmc (p_c3.neN p_pa1 (by decide)) (nmc (p_c3.neN p_pb1 (by decide)) nm0))) p_c3
      have p_si := kf_1520.1 si _ (nmc (p_si.neK p_po (by decide)) (nmc (p_si.neA p_pa1) (nmc (p_si.neA p_pb1) nm0))) p_si
      have p_c4 := kf_1520.1 c4 _ (nmc (p_c4.neB p_po) (nmc (p_c4.neN p_pa1 (by decide)) (nmc (p_c4.neN p_pb1 (by decide)) nm0))) p_c4
      have p_we := kf_1520.1 we _ (nmc (p_we.neK p_po (by decide)) (nmc (p_we.neA p_pa1) (nmc (p_we.neA p_pb1) nm0))) p_we
      have p_c5 := kf_1520.1 c5 _ (nmc (p_c5.neB p_po) (nmc (p_c5.neN p_pa1 (by decide)) (nmc (p_c5.neN p_pb1 (by decide)) nm0))) p_c5
      have p_o := kf_1520.1 o _ (nmc (p_o.neK p_po (by decide)) (nmc (p_o.neA p_pa1) (nmc (p_o.neA p_pb1) nm0))) p_o
      have p_z_nw := kf_1520.1 z_nw _ (nmc (Ne.symm ((hd1 i hi30 _ hpo))) (nmc (p_z_nw.neA p_pa1) (nmc (p_z_nw.neA p_pb1) nm0))) p_z_nw
      have p_z_pa := kf_1520.1 z_pa _ (nmc (p_z_pa.neB p_po) (nmc (p_z_pa.neN p_pa1 (by decide)) (nmc (p_z_pa.neN p_pb1 (by decide)) nm0))) p_z_pa
      have p_z_fe := kf_1520.1 z_fe _ (nmc (p_z_fe.neK p_po (by decide)) (nmc (p_z_fe.neA p_pa1) (nmc (p_z_fe.neA p_pb1) nm0))) p_z_fe
      have p_z_c1 := kf_1520.1 z_c1 _ (nmc (p_z_c1.neB p_po) (nmc (p_z_c1.neN p_pa1 (by decide)) (nmc (p_z_c1.neN p_pb1 (by decide)) nm0))) p_z_c1
      have p_z_cl := kf_1520.1 z_cl _ (nmc (p_z_cl.neK p_po (by decide)) (nmc (p_z_cl.neA p_pa1) (nmc (p_z_cl.neA p_pb1) nm0))) p_z_cl
      have p_z_c2 := kf_1520.1 z_c2 _ (nmc (p_z_c2.neB p_po) (nmc (p_z_c2.neN p_pa1 (by decide)) (nmc (p_z_c2.neN p_pb1 (by decide)) nm0))) p_z_c2
      have p_z_wo := kf_1520.1 z_wo _ (nmc (p_z_wo.neK p_po (by decide)) (nmc (p_z_wo.neA p_pa1) (nmc (p_z_wo.neA p_pb1) nm0))) p_z_wo
      have p_z_c3 := kf_1520.1 z_c3 _ (nmc (p_z_c3.neB p_po) (nmc (p_z_c3.neN p_pa1 (by decide)) (nmc (p_z_c3.neN p_pb1 (by decide)) nm0))) p_z_c3
      have p_z_si := kf_1520.1 z_si _ (nmc (p_z_si.neK p_po (by decide)) (nmc (p_z_si.neA p_pa1) (nmc (p_z_si.neA p_pb1) nm0))) p_z_si
      have p_z_c4 := kf_1520.1 z_c4 _ (nmc (p_z_c4.neB p_po) (nmc (p_z_c4.neN p_pa1 (by decide)) (nmc (p_z_c4.neN p_pb1 (by decide)) nm0))) p_z_c4
      have p_z_we := kf_1520.1 z_we _ (nmc (p_z_we.neK p_po (by decide)) (nmc (p_z_we.neA p_pa1) (nmc (p_z_we.neA p_pb1) nm0))) p_z_we
      have p_z_c5 := kf_1520.1 z_c5 _ (nmc (p_z_c5.neB p_po) (nmc (p_z_c5.neN p_pa1 (by decide)) (nmc (p_z_c5.neN p_pb1 (by decide)) nm0))) p_z_c5
      have p_ro := kf_1520.1 ro _ (nmc (Ne.symm ((hd2 i hi30 _ _ hpo hro))) (nmc (p_ro.neA p_pa1) (nmc (p_ro.neA p_pb1) nm0))) p_ro
      have p_po := z_z_1523
      have p_pa1 := z_z_1524
      have p_pb1 := z_z_1525
      obtain ⟨x_1526, ex_1526⟩ : ∃ z : Int32, z = x + 1 := ⟨_, rfl⟩
      refine lv_iinc (v := x_1526) (lv' := [(2, .int x_1526), (0, .ref h), (1, .ref o)]) hx hb dX10_takeOver_90 hl (k := 0) rfl (by rw [ex_1526]; rfl) (by decide) rfl (fun ls hl => ?_)
      refine lv_goto (tgt := 69) hx hb dX10_takeOver_93 (by decide) ?_
      have ex2 : x_1526 = nI (i + 1) := by rw [ex_1526, ex]; exact nI_1 i
      have hsp2 := hsp.trans (sp_take (G := G) kf_1520 o_po o_pa1 o_pb1 p_po p_pa1 p_pb1)
      exact ih (i + 1) _ _ _ _ _ _ hin2 ex2 p_ko p_h p_nw p_pa p_fe p_c1 p_cl p_c2 p_wo p_c3 p_si p_c4 p_we p_c5 p_o p_z_nw p_z_pa p_z_fe p_z_c1 p_z_cl p_z_c2 p_z_wo p_z_c3 p_z_si p_z_c4 p_z_we p_z_c5 hsp2 Y hl
  exact loop 30 0 _ _ _ _ _ 0 rfl rfl p_ko p_h p_nw p_pa p_fe p_c1 p_cl p_c2 p_wo p_c3 p_si p_c4 p_we p_c5 p_o p_z_nw p_z_pa p_z_fe p_z_c1 p_z_cl p_z_c2 p_z_wo p_z_c3 p_z_si p_z_c4 p_z_we p_z_c5 hsp0 Y hl
set_option maxHeartbeats 4000000 in
set_option maxRecDepth 100000 in
theorem c_X11_image {l : Launch} {G : GG} {L : List Nat} {f : HF} {h w k rd jd rg dd fo su ch ta ag sc nw pa fe cl wo si we oa aa c1 c2 c3 c4 c5 k_ta k_ag k_sc k_nw k_pa k_fe k_cl k_wo k_si k_we k_oa k_aa k_c1 k_c2 k_c3 k_c4 k_c5 : Nat} {pf k_pf : Nat → Option Nat} {L0 LT : List Nat} (p_h : pt L f h (.inr (11, [.ref w, .ref k, .ref rd, .ref jd, .ref rg, .ref dd, .ref fo, .ref su, .ref ch]))) (p_w : pt L f w (.inr (10, [.ref ta, .ref ag, .ref sc, .ref nw, .ref pa, .ref fe, .ref cl, .ref wo, .ref si, .ref we, .int 0, .int 0, .int (-1), .int 0, .int 0]))) (p_ta : pt L f ta (.inl (G.2 0, 6, .inl (fun _ => 0)))) (p_ag : pt L f ag (.inl (G.2 0, 6, .inl (fun _ => 0)))) (p_nw : pt L f nw (.inr (4, [.ref oa, .ref aa, .int 0, .int 0, .int 0, .int 0, .int 137]))) (p_oa : pt L f oa (.inl (G.2 0, 98, .inl (fun _ => 0)))) (p_aa : pt L f aa (.inl (G.2 0, 90, .inl (fun _ => 0)))) (p_pa : pt L f pa (.inl (G.2 3, 30, .inr (.inr (.inr (.inr pf)))))) (p_fe : pt L f fe (.inr (9, [.ref c1, .int 6, .int 0]))) (p_c1 : pt L f c1 (.inl (G.2 0, 24, .inl (fun _ => 0)))) (p_cl : pt L f cl (.inr (9, [.ref c2, .int 8, .int 0]))) (p_c2 : pt L f c2 (.inl (G.2 0, 24, .inl (fun _ => 0)))) (p_wo : pt L f wo (.inr (9, [.ref c3, .int 8, .int 0]))) (p_c3 : pt L f c3 (.inl (G.2 0, 24, .inl (fun _ => 0)))) (p_si : pt L f si (.inr (9, [.ref c4, .int 8, .int 0]))) (p_c4 : pt L f c4 (.inl (G.2 0, 24, .inl (fun _ => 0)))) (p_we : pt L f we (.inr (9, [.ref c5, .int 8, .int 0]))) (p_c5 : pt L f c5 (.inl (G.2 0, 24, .inl (fun _ => 0)))) (p_k : pt L f k (.inr (10, [.ref k_ta, .ref k_ag, .ref k_sc, .ref k_nw, .ref k_pa, .ref k_fe, .ref k_cl, .ref k_wo, .ref k_si, .ref k_we, .int 0, .int 0, .int (-1), .int 0, .int 0]))) (p_k_ta : pt L f k_ta (.inl (G.2 0, 6, .inl (fun _ => 0)))) (p_k_ag : pt L f k_ag (.inl (G.2 0, 6, .inl (fun _ => 0)))) (p_k_nw : pt L f k_nw (.inr (4, [.ref k_oa, .ref k_aa, .int 0, .int 0, .int 0, .int 0, .int 137]))) (p_k_oa : pt L f k_oa (.inl (G.2 0, 98, .inl (fun _ => 0)))) (p_k_aa : pt L f k_aa (.inl (G.2 0, 90, .inl (fun _ => 0)))) (p_k_pa : pt L f k_pa (.inl (G.2 3, 30, .inr (.inr (.inr (.inr k_pf)))))) (p_k_fe : pt L f k_fe (.inr (9, [.ref k_c1, .int 6, .int 0]))) (p_k_c1 : pt L f k_c1 (.inl (G.2 0, 24, .inl (fun _ => 0)))) (p_k_cl : pt L f k_cl (.inr (9, [.ref k_c2, .int 8, .int 0]))) (p_k_c2 : pt L f k_c2 (.inl (G.2 0, 24, .inl (fun _ => 0)))) (p_k_wo : pt L f k_wo (.inr (9, [.ref k_c3, .int 8, .int 0]))) (p_k_c3 : pt L f k_c3 (.inl (G.2 0, 24, .inl (fun _ => 0)))) (p_k_si : pt L f k_si (.inr (9, [.ref k_c4, .int 8, .int 0]))) (p_k_c4 : pt L f k_c4 (.inl (G.2 0, 24, .inl (fun _ => 0)))) (p_k_we : pt L f k_we (.inr (9, [.ref k_c5, .int 8, .int 0]))) (p_k_c5 : pt L f k_c5 (.inl (G.2 0, 24, .inl (fun _ => 0)))) (hpf : pastOK G L0 nw L f pf 30) (hpk : pastOK G LT k_nw L f k_pf 30) (hinT : ∀ j, j < 30 → ∀ o, pf j = some o → o ∈ LT) (hnwT : nw ∈ LT) (hknT : k_nw ∉ LT) (n9 : w ≠ k) : PMi l yX11_image cX11_image 1 .int 3 0 0 G [.ref h] L f (fun r L1 f1 => r = 0) := by
  refine PMi.of (post := fun r L1 f1 => r = 0) (own := RX11) (by decide) rfl (Nat.le_of_ble_eq_true rfl) (fun sz p e s m args below meth c A ls hA1 hname S Y hl => ?_)
  have hx := S.hx
  have hb := S.hb
  have hl : lv_has ls 1 [(0, .ref h)] := hl
  have n10 : nw ≠ k_nw := fun q => hknT (by rw [← q]; exact hnwT)
  have hd1 : ∀ j, j < 30 → ∀ q, k_pf j = some q → q ≠ nw := fun j hj q hq e => hpk.out j hj q hq (by rw [e]; exact hnwT)
  have hd2 : ∀ j, j < 30 → ∀ q r, k_pf j = some q → pf j = some r → q ≠ r := fun j hj q r hq hr e => hpk.out j hj q hq (by rw [e]; exact hinT j hj r hr)
  refine lv_aload_n hx hb dX11_image_0 rfl (lv_at hl 0 rfl) ?_
  refine pg_get S Y ok_X11 1 (by decide) kf11_19 (v := .ref k) p_h rfl dX11_image_1 ?_
  refine lv_aload_n hx hb dX11_image_4 rfl (lv_at hl 0 rfl) ?_
  refine pg_get S Y ok_X11 0 (by decide) kf11_13 (v := .ref w) p_h rfl dX11_image_5 ?_
  refine cVv (As := [.ref w]) (rest := []) S Y (c_X10_takeOver (l := l) p_h p_k p_k_ta p_k_ag p_k_nw p_k_oa p_k_aa p_k_pa p_k_fe p_k_c1 p_k_cl p_k_c2 p_k_wo p_k_c3 p_k_si p_k_c4 p_k_we p_k_c5 p_w p_ta p_ag p_nw p_oa p_aa p_pa p_fe p_c1 p_cl p_c2 p_wo p_c3 p_si p_c4 p_we p_c5 (Ne.symm (n9)) (Ne.symm (n10)) hpk hpf hd1 hd2) cw_X10_takeOver km11_347 p_k ok_X10.1 rfl rfl ⟨Nat.le_of_ble_eq_true rfl, Nat.le_of_ble_eq_true rfl⟩ hl.1 rfl (Nat.le_of_ble_eq_true rfl) ⟨Nat.le_of_ble_eq_true rfl, Nat.le_of_ble_eq_true rfl⟩ dX11_image_8 (fun L_1527 f_1528 H locs hf_1528 Y => ?_)
  obtain ⟨p_h, p_k, p_w, p_k_nw, p_nw⟩ := hf_1528
  refine lv_aload_n hx hb dX11_image_11 rfl (lv_at hl 0 rfl) ?_
  refine pg_get S Y ok_X11 0 (by decide) kf11_13 (v := .ref w) p_h rfl dX11_image_12 ?_
  refine pg_getN S Y ok_X10 3 (by decide) kf11_131 (v := .ref nw) p_w rfl dX11_image_15 ?_
  refine pg_getN S Y ok_X4 4 (by decide) kf11_150 (v := .int 0) p_nw rfl dX11_image_18 ?_
  exact prI (post := fun r L1 f1 => r = 0) S Y rfl (by decide) (by decide) hA1 rfl dX11_image_21
set_option maxHeartbeats 4000000 in
set_option maxRecDepth 100000 in
theorem c_X11_back {l : Launch} {G : GG} {L : List Nat} {f : HF} {h w k rd jd rg dd fo su ch ta ag sc nw pa fe cl wo si we oa aa c1 c2 c3 c4 c5 k_ta k_ag k_sc k_nw k_pa k_fe k_cl k_wo k_si k_we k_oa k_aa k_c1 k_c2 k_c3 k_c4 k_c5 : Nat} {pf k_pf : Nat → Option Nat} {L0 LT : List Nat} (p_h : pt L f h (.inr (11, [.ref w, .ref k, .ref rd, .ref jd, .ref rg, .ref dd, .ref fo, .ref su, .ref ch]))) (p_w : pt L f w (.inr (10, [.ref ta, .ref ag, .ref sc, .ref nw, .ref pa, .ref fe, .ref cl, .ref wo, .ref si, .ref we, .int 0, .int 0, .int (-1), .int 0, .int 0]))) (p_ta : pt L f ta (.inl (G.2 0, 6, .inl (fun _ => 0)))) (p_ag : pt L f ag (.inl (G.2 0, 6, .inl (fun _ => 0)))) (p_nw : pt L f nw (.inr (4, [.ref oa, .ref aa, .int 0, .int 0, .int 0, .int 0, .int 137]))) (p_oa : pt L f oa (.inl (G.2 0, 98, .inl (fun _ => 0)))) (p_aa : pt L f aa (.inl (G.2 0, 90, .inl (fun _ => 0)))) (p_pa : pt L f pa (.inl (G.2 3, 30, .inr (.inr (.inr (.inr pf)))))) (p_fe : pt L f fe (.inr (9, [.ref c1, .int 6, .int 0]))) (p_c1 : pt L f c1 (.inl (G.2 0, 24, .inl (fun _ => 0)))) (p_cl : pt L f cl (.inr (9, [.ref c2, .int 8, .int 0]))) (p_c2 : pt L f c2 (.inl (G.2 0, 24, .inl (fun _ => 0)))) (p_wo : pt L f wo (.inr (9, [.ref c3, .int 8, .int 0]))) (p_c3 : pt L f c3 (.inl (G.2 0, 24, .inl (fun _ => 0)))) (p_si : pt L f si (.inr (9, [.ref c4, .int 8, .int 0]))) (p_c4 : pt L f c4 (.inl (G.2 0, 24, .inl (fun _ => 0)))) (p_we : pt L f we (.inr (9, [.ref c5, .int 8, .int 0]))) (p_c5 : pt L f c5 (.inl (G.2 0, 24, .inl (fun _ => 0)))) (p_k : pt L f k (.inr (10, [.ref k_ta, .ref k_ag, .ref k_sc, .ref k_nw, .ref k_pa, .ref k_fe, .ref k_cl, .ref k_wo, .ref k_si, .ref k_we, .int 0, .int 0, .int (-1), .int 0, .int 0]))) (p_k_ta : pt L f k_ta (.inl (G.2 0, 6, .inl (fun _ => 0)))) (p_k_ag : pt L f k_ag (.inl (G.2 0, 6, .inl (fun _ => 0)))) (p_k_nw : pt L f k_nw (.inr (4, [.ref k_oa, .ref k_aa, .int 0, .int 0, .int 0, .int 0, .int 137]))) (p_k_oa : pt L f k_oa (.inl (G.2 0, 98, .inl (fun _ => 0)))) (p_k_aa : pt L f k_aa (.inl (G.2 0, 90, .inl (fun _ => 0)))) (p_k_pa : pt L f k_pa (.inl (G.2 3, 30, .inr (.inr (.inr (.inr k_pf)))))) (p_k_fe : pt L f k_fe (.inr (9, [.ref k_c1, .int 6, .int 0]))) (p_k_c1 : pt L f k_c1 (.inl (G.2 0, 24, .inl (fun _ => 0)))) (p_k_cl : pt L f k_cl (.inr (9, [.ref k_c2, .int 8, .int 0]))) (p_k_c2 : pt L f k_c2 (.inl (G.2 0, 24, .inl (fun _ => 0)))) (p_k_wo : pt L f k_wo (.inr (9, [.ref k_c3, .int 8, .int 0]))) (p_k_c3 : pt L f k_c3 (.inl (G.2 0, 24, .inl (fun _ => 0)))) (p_k_si : pt L f k_si (.inr (9, [.ref k_c4, .int 8, .int 0]))) (p_k_c4 : pt L f k_c4 (.inl (G.2 0, 24, .inl (fun _ => 0)))) (p_k_we : pt L f k_we (.inr (9, [.ref k_c5, .int 8, .int 0]))) (p_k_c5 : pt L f k_c5 (.inl (G.2 0, 24, .inl (fun _ => 0)))) (hpf : pastOK G L0 nw L f pf 30) (hpk : pastOK G LT k_nw L f k_pf 30) (hinT : ∀ j, j < 30 → ∀ o, pf j = some o → o ∈ LT) (hnwT : nw ∈ LT) (hknT : k_nw ∉ LT) (n9 : w ≠ k) : PMi l yX11_back cX11_back 1 .int 3 0 0 G [.ref h] L f (fun r L1 f1 => r = 0) := by
  refine PMi.of (post := fun r L1 f1 => r = 0) (own := RX11) (by decide) rfl (Nat.le_of_ble_eq_true rfl) (fun sz p e s m args below meth c A ls hA1 hname S Y hl => ?_)
  have hx := S.hx
  have hb := S.hb
  have hl : lv_has ls 1 [(0, .ref h)] := hl
  have n10 : nw ≠ k_nw := fun q => hknT (by rw [← q]; exact hnwT)
  have hd1 : ∀ j, j < 30 → ∀ q, pf j = some q → q ≠ k_nw := fun j hj q hq e => hknT (by rw [← e]; exact hinT j hj q hq)
  have hd2 : ∀ j, j < 30 → ∀ q r, pf j = some q → k_pf j = some r → q ≠ r := fun j hj q r hq hr e => hpk.out j hj r hr (by rw [← e]; exact hinT j hj q hq)
  refine lv_aload_n hx hb dX11_back_0 rfl (lv_at hl 0 rfl) ?_
  refine pg_get S Y ok_X11 0 (by decide) kf11_13 (v := .ref w) p_h rfl dX11_back_1 ?_
  refine lv_aload_n hx hb dX11_back_4 rfl (lv_at hl 0 rfl) ?_
  refine pg_get S Y ok_X11 1 (by decide) kf11_19 (v := .ref k) p_h rfl dX11_back_5 ?_
  refine cVv (As := [.ref k]) (rest := []) S Y (c_X10_takeOver (l := l) p_h p_w p_ta p_ag p_nw p_oa p_aa p_pa p_fe p_c1 p_cl p_c2 p_wo p_c3 p_si p_c4 p_we p_c5 p_k p_k_ta p_k_ag p_k_nw p_k_oa p_k_aa p_k_pa p_k_fe p_k_c1 p_k_cl p_k_c2 p_k_wo p_k_c3 p_k_si p_k_c4 p_k_we p_k_c5 (n9) (n10) hpf hpk hd1 hd2) cw_X10_takeOver km11_347 p_w ok_X10.1 rfl rfl ⟨Nat.le_of_ble_eq_true rfl, Nat.le_of_ble_eq_true rfl⟩ hl.1 rfl (Nat.le_of_ble_eq_true rfl) ⟨Nat.le_of_ble_eq_true rfl, Nat.le_of_ble_eq_true rfl⟩ dX11_back_8 (fun L_1529 f_1530 H locs hf_1530 Y => ?_)
  obtain ⟨p_h, p_w, p_k, p_nw, p_k_nw⟩ := hf_1530
  refine lv_aload_n hx hb dX11_back_11 rfl (lv_at hl 0 rfl) ?_
  refine pg_get S Y ok_X11 0 (by decide) kf11_13 (v := .ref w) p_h rfl dX11_back_12 ?_
  refine pg_getN S Y ok_X10 3 (by decide) kf11_131 (v := .ref nw) p_w rfl dX11_back_15 ?_
  refine pg_getN S Y ok_X4 4 (by decide) kf11_150 (v := .int 0) p_nw rfl dX11_back_18 ?_
  exact prI (post := fun r L1 f1 => r = 0) S Y rfl (by decide) (by decide) hA1 rfl dX11_back_21
