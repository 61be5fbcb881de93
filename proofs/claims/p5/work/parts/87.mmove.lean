theorem dX12_keep_0 : decode cX12_keep 0 = .ok (.aload_n 0, 1) := by decide +kernel
theorem dX12_keep_1 : decode cX12_keep 1 = .ok (.getfield 7, 3) := by decide +kernel
theorem dX12_keep_4 : decode cX12_keep 4 = .ok (.iconst 3, 1) := by decide +kernel
theorem dX12_keep_5 : decode cX12_keep 5 = .ok (.iaload, 1) := by decide +kernel
theorem dX12_keep_6 : decode cX12_keep 6 = .ok (.bipush 30, 2) := by decide +kernel
theorem dX12_keep_8 : decode cX12_keep 8 = .ok (.if_icmp .ne 48, 3) := by decide +kernel
theorem dX12_keep_56 : decode cX12_keep 56 = .ok (.sipush 208, 3) := by decide +kernel
theorem dX12_keep_59 : decode cX12_keep 59 = .ok (.bipush 104, 2) := by decide +kernel
theorem dX12_keep_61 : decode cX12_keep 61 = .ok (.aload_n 0, 1) := by decide +kernel
theorem dX12_keep_62 : decode cX12_keep 62 = .ok (.getfield 7, 3) := by decide +kernel
theorem dX12_keep_65 : decode cX12_keep 65 = .ok (.iconst 3, 1) := by decide +kernel
theorem dX12_keep_66 : decode cX12_keep 66 = .ok (.iaload, 1) := by decide +kernel
theorem dX12_keep_67 : decode cX12_keep 67 = .ok (.imul, 1) := by decide +kernel
theorem dX12_keep_68 : decode cX12_keep 68 = .ok (.iadd, 1) := by decide +kernel
theorem dX12_keep_69 : decode cX12_keep 69 = .ok (.istore_n 1, 1) := by decide +kernel
theorem dX12_keep_70 : decode cX12_keep 70 = .ok (.iconst 0, 1) := by decide +kernel
theorem dX12_keep_71 : decode cX12_keep 71 = .ok (.istore_n 2, 1) := by decide +kernel
theorem dX12_keep_11 : decode cX12_keep 11 = .ok (.iconst 0, 1) := by decide +kernel
theorem dX12_keep_12 : decode cX12_keep 12 = .ok (.istore_n 1, 1) := by decide +kernel
theorem dX12_keep_72 : decode cX12_keep 72 = .ok (.iload_n 2, 1) := by decide +kernel
theorem dX12_keep_73 : decode cX12_keep 73 = .ok (.bipush 104, 2) := by decide +kernel
theorem dX12_keep_75 : decode cX12_keep 75 = .ok (.if_icmp .ge 26, 3) := by decide +kernel
theorem dX12_keep_78 : decode cX12_keep 78 = .ok (.aload_n 0, 1) := by decide +kernel
theorem dX12_keep_79 : decode cX12_keep 79 = .ok (.getfield 7, 3) := by decide +kernel
theorem dX12_keep_82 : decode cX12_keep 82 = .ok (.iload_n 1, 1) := by decide +kernel
theorem dX12_keep_83 : decode cX12_keep 83 = .ok (.iload_n 2, 1) := by decide +kernel
theorem dX12_keep_84 : decode cX12_keep 84 = .ok (.iadd, 1) := by decide +kernel
theorem dX12_keep_85 : decode cX12_keep 85 = .ok (.aload_n 0, 1) := by decide +kernel
theorem dX12_keep_86 : decode cX12_keep 86 = .ok (.getfield 7, 3) := by decide +kernel
theorem dX12_keep_89 : decode cX12_keep 89 = .ok (.bipush 10, 2) := by decide +kernel
theorem dX12_keep_91 : decode cX12_keep 91 = .ok (.iload_n 2, 1) := by decide +kernel
theorem dX12_keep_92 : decode cX12_keep 92 = .ok (.iadd, 1) := by decide +kernel
theorem dX12_keep_93 : decode cX12_keep 93 = .ok (.iaload, 1) := by decide +kernel
theorem dX12_keep_94 : decode cX12_keep 94 = .ok (.iastore, 1) := by decide +kernel
theorem dX12_keep_95 : decode cX12_keep 95 = .ok (.iinc 2 1, 3) := by decide +kernel
theorem dX12_keep_98 : decode cX12_keep 98 = .ok (.goto (-26), 3) := by decide +kernel
theorem dX12_keep_13 : decode cX12_keep 13 = .ok (.iload_n 1, 1) := by decide +kernel
theorem dX12_keep_14 : decode cX12_keep 14 = .ok (.sipush 3016, 3) := by decide +kernel
theorem dX12_keep_17 : decode cX12_keep 17 = .ok (.if_icmp .ge 29, 3) := by decide +kernel
theorem dX12_keep_20 : decode cX12_keep 20 = .ok (.aload_n 0, 1) := by decide +kernel
theorem dX12_keep_21 : decode cX12_keep 21 = .ok (.getfield 7, 3) := by decide +kernel
theorem dX12_keep_24 : decode cX12_keep 24 = .ok (.sipush 208, 3) := by decide +kernel
theorem dX12_keep_27 : decode cX12_keep 27 = .ok (.iload_n 1, 1) := by decide +kernel
theorem dX12_keep_28 : decode cX12_keep 28 = .ok (.iadd, 1) := by decide +kernel
theorem dX12_keep_29 : decode cX12_keep 29 = .ok (.aload_n 0, 1) := by decide +kernel
theorem dX12_keep_30 : decode cX12_keep 30 = .ok (.getfield 7, 3) := by decide +kernel
theorem dX12_keep_33 : decode cX12_keep 33 = .ok (.sipush 312, 3) := by decide +kernel
theorem dX12_keep_36 : decode cX12_keep 36 = .ok (.iload_n 1, 1) := by decide +kernel
theorem dX12_keep_37 : decode cX12_keep 37 = .ok (.iadd, 1) := by decide +kernel
theorem dX12_keep_38 : decode cX12_keep 38 = .ok (.iaload, 1) := by decide +kernel
theorem dX12_keep_39 : decode cX12_keep 39 = .ok (.iastore, 1) := by decide +kernel
theorem dX12_keep_40 : decode cX12_keep 40 = .ok (.iinc 1 1, 3) := by decide +kernel
theorem dX12_keep_43 : decode cX12_keep 43 = .ok (.goto (-30), 3) := by decide +kernel
theorem dX12_keep_101 : decode cX12_keep 101 = .ok (.aload_n 0, 1) := by decide +kernel
theorem dX12_keep_102 : decode cX12_keep 102 = .ok (.getfield 7, 3) := by decide +kernel
theorem dX12_keep_105 : decode cX12_keep 105 = .ok (.iconst 3, 1) := by decide +kernel
theorem dX12_keep_106 : decode cX12_keep 106 = .ok (.dup2, 1) := by decide +kernel
theorem dX12_keep_107 : decode cX12_keep 107 = .ok (.iaload, 1) := by decide +kernel
theorem dX12_keep_108 : decode cX12_keep 108 = .ok (.iconst 1, 1) := by decide +kernel
theorem dX12_keep_109 : decode cX12_keep 109 = .ok (.iadd, 1) := by decide +kernel
theorem dX12_keep_110 : decode cX12_keep 110 = .ok (.iastore, 1) := by decide +kernel
theorem dX12_keep_111 : decode cX12_keep 111 = .ok (.return_, 1) := by decide +kernel
theorem dX12_keep_46 : decode cX12_keep 46 = .ok (.aload_n 0, 1) := by decide +kernel
theorem dX12_keep_47 : decode cX12_keep 47 = .ok (.getfield 7, 3) := by decide +kernel
theorem dX12_keep_50 : decode cX12_keep 50 = .ok (.iconst 3, 1) := by decide +kernel
theorem dX12_keep_51 : decode cX12_keep 51 = .ok (.dup2, 1) := by decide +kernel
theorem dX12_keep_52 : decode cX12_keep 52 = .ok (.iaload, 1) := by decide +kernel
theorem dX12_keep_53 : decode cX12_keep 53 = .ok (.iconst 1, 1) := by decide +kernel
theorem dX12_keep_54 : decode cX12_keep 54 = .ok (.isub, 1) := by decide +kernel
theorem dX12_keep_55 : decode cX12_keep 55 = .ok (.iastore, 1) := by decide +kernel
theorem tn_eq {x : Int32} {n : Nat} (h : bn n n x) : x.toInt.toNat = n := by
  obtain ⟨h1, h2⟩ := h; omega
theorem b30 {x : Int32} {n : Int} (h : x.toInt = n) : bn n n x := ⟨by omega, by omega⟩
def MV (src dst n : Nat) (g1 g : Nat → Int32) : Prop := ∀ i, g i = if dst ≤ i ∧ i < dst + n then g1 (i - dst + src) else g1 i
def LDa (h : Nat → Int32) : Prop := LD 0 14 9999 10 h
section MVR
variable {src dst n idx : Nat} {g1 g : Nat → Int32} {v : Int32} {sl pl oh dh s2 oh2 dh2 : Int} {w : WW} {P : (Nat → Int32) → Prop} {x : Int32}
theorem MV_0 : MV src dst 0 g g := fun i => by rw [if_neg (by omega)]
theorem MV_st (h : MV src dst n g1 g) (hi : idx = dst + n) (hv : v = g (src + n)) (hd : src + n < dst ∨ dst ≤ src) : MV src dst (n + 1) g1 (upd g idx v) := by
  intro i
  have e : g (src + n) = g1 (src + n) := by rw [h]; exact if_neg (by omega)
  by_cases z : i = idx
  · subst z; rw [pk_us, if_pos (by omega), hv, e]; congr 1; omega
  · rw [pk_un z, h]
    by_cases q : dst ≤ i ∧ i < dst + n
    · rw [if_pos q, if_pos (by omega)]
    · rw [if_neg q, if_neg (by omega)]
theorem MV_out (h : MV src dst n g1 g) {i : Nat} (q : i < dst ∨ dst + n ≤ i) : g i = g1 i := by rw [h]; exact if_neg (by omega)
theorem MV_in (h : MV src dst n g1 g) {j : Nat} (q : j < n) : g (dst + j) = g1 (src + j) := by rw [h, if_pos (by omega)]; congr 1; omega
theorem LD_mv {b b2 : Nat} (h : LD sl oh dh b2 g1) (e : ∀ j, j < 104 → g (b + j) = g1 (b2 + j)) : LD sl oh dh b g := by
  obtain ⟨h1, h2, h3, h4, h5, h6⟩ := h
  have e0 : g b = g1 b2 := e 0 (by decide)
  have e3 := e 3 (by decide); have e4 := e 4 (by decide); have e2 := e 2 (by decide)
  refine ⟨by rw [e0]; exact h1, by rw [e3]; exact h2, by rw [e4]; exact h3, by rw [e4, e0]; exact h4, fun o ho => ?_, by rw [e2]; exact h6⟩
  have := e (7 + 7 * o) (by omega)
  rw [Nat.add_assoc, this, ← Nat.add_assoc]; exact h5 o ho
theorem LD_w {b : Nat} (h : LD sl oh dh b g) (q1 : sl ≤ s2) (q2 : oh ≤ oh2) (q3 : dh ≤ dh2) : LD s2 oh2 dh2 b g := by
  obtain ⟨h1, h2, h3, h4, h5⟩ := h
  exact ⟨bn_w h1 ⟨Int.le_refl _, q3⟩, bn_w h2 ⟨Int.le_refl _, q2⟩, h3, by omega, h5⟩
def K1 (P : (Nat → Int32) → Prop) (n : Nat) (g : Nat → Int32) : Prop := ∃ g1, P g1 ∧ (g1 3).toInt = 30 ∧ MV 312 208 n g1 g
theorem K1_0 (h : P g) (q : (g 3).toInt = 30) : K1 P 0 g := ⟨g, h, q, MV_0⟩
theorem K1_st (h : K1 P n g) (hi : idx = 208 + n) (hv : v = g (312 + n)) : K1 P (n + 1) (upd g idx v) := by
  obtain ⟨g1, h1, h2, h3⟩ := h; exact ⟨g1, h1, h2, MV_st h3 hi hv (by omega)⟩
theorem K1_3 (h : K1 P n g) : (g 3).toInt = 30 := by
  obtain ⟨g1, h1, h2, h3⟩ := h; rw [MV_out h3 (by omega)]; exact h2
theorem K1_end (h : K1 (IA sl pl oh dh w) 3016 g) : IA sl pl oh dh w g := by
  obtain ⟨g1, h1, h2, h3⟩ := h
  obtain ⟨a0, a1, a2, a3, a4, a5, a6, a7, a8, a9, aw, a10⟩ := h1
  have o : ∀ i, i < 208 → g i = g1 i := fun i hi => MV_out h3 (by omega)
  refine ⟨by rw [o 0 (by decide)]; exact a0, by rw [o 1 (by decide)]; exact a1, by rw [o 2 (by decide)]; exact a2, by rw [o 3 (by decide)]; exact a3, by rw [o 4 (by decide)]; exact a4, by rw [o 5 (by decide)]; exact a5, by rw [o 6 (by decide)]; exact a6, by rw [o 7 (by decide)]; exact a7, by rw [o 8 (by decide)]; exact a8, LD_ext a9 (fun i hi => o i (by unfold ldc at hi; omega)), fun k k1 k2 => by rw [o k (by omega)]; exact aw k k1 k2, fun t ht => ?_⟩
  by_cases z : t < 29
  · refine LD_mv (a10 (t + 1) (by omega)) (fun j hj => ?_)
    have := MV_in h3 (j := 104 * t + j) (by omega)
    rw [Nat.add_assoc, this]; congr 1; omega
  · exact LD_ext (a10 t ht) (fun i hi => MV_out h3 (by unfold ldc at hi; omega))
def K2 (P : (Nat → Int32) → Prop) (x : Int32) (n : Nat) (g : Nat → Int32) : Prop := ∃ (g1 : Nat → Int32) (t : Nat), P g1 ∧ t < 30 ∧ x.toInt = 208 + 104 * t ∧ (g1 3).toInt = t ∧ MV 10 x.toInt.toNat n g1 g
theorem K2_0 {y : Int32} (h : P g) (hy : g 3 = y) (b : bn 0 29 y) (e : x.toInt = 208 + 104 * y.toInt) : K2 P x 0 g := by
  obtain ⟨b1, b2⟩ := b
  exact ⟨g, y.toInt.toNat, h, by omega, by omega, by rw [hy]; omega, MV_0⟩
theorem K2_st (h : K2 P x n g) (hi : idx = x.toInt.toNat + n) (hv : v = g (10 + n)) (hn : n < 104) : K2 P x (n + 1) (upd g idx v) := by
  obtain ⟨g1, t, h1, h2, h3, h4, h5⟩ := h; exact ⟨g1, t, h1, h2, h3, h4, MV_st h5 hi hv (by omega)⟩
theorem K2_3 (h : K2 P x n g) : bn 0 29 (g 3) := by
  obtain ⟨g1, t, h1, h2, h3, h4, h5⟩ := h; rw [MV_out h5 (by omega)]; exact ⟨by omega, by omega⟩
theorem K2_end (h : K2 (IA 0 pl oh dh w) x 104 g) (q : oh ≤ 14) (q2 : dh ≤ 9999) : IA 0 pl oh dh w g := by
  obtain ⟨g1, t, h1, h2, h3, h4, h5⟩ := h
  obtain ⟨a0, a1, a2, a3, a4, a5, a6, a7, a8, a9, aw, a10⟩ := h1
  have o : ∀ i, i < 208 → g i = g1 i := fun i hi => MV_out h5 (by omega)
  refine ⟨by rw [o 0 (by decide)]; exact a0, by rw [o 1 (by decide)]; exact a1, by rw [o 2 (by decide)]; exact a2, by rw [o 3 (by decide)]; exact a3, by rw [o 4 (by decide)]; exact a4, by rw [o 5 (by decide)]; exact a5, by rw [o 6 (by decide)]; exact a6, by rw [o 7 (by decide)]; exact a7, by rw [o 8 (by decide)]; exact a8, LD_ext a9 (fun i hi => o i (by unfold ldc at hi; omega)), fun k k1 k2 => by rw [o k (by omega)]; exact aw k k1 k2, fun r hr => ?_⟩
  by_cases z : r = t
  · subst z
    refine LD_w (LD_mv a9 (fun j hj => ?_)) (Int.le_refl _) q q2
    have := MV_in h5 (j := j) hj
    rw [← this]; congr 1; omega
  · exact LD_ext (a10 r hr) (fun i hi => MV_out h5 (by unfold ldc at hi; omega))
def UP (P : (Nat → Int32) → Prop) (x : Int32) (n : Nat) (g : Nat → Int32) : Prop := ∃ (g1 : Nat → Int32) (t : Nat), P g1 ∧ t < 30 ∧ x.toInt = 208 + 104 * t ∧ MV x.toInt.toNat 10 n g1 g
theorem UP_0 {y : Int32} (h : P g) (b : bn 0 29 y) (e : x.toInt = 208 + 104 * y.toInt) : UP P x 0 g := by
  obtain ⟨b1, b2⟩ := b
  exact ⟨g, y.toInt.toNat, h, by omega, by omega, MV_0⟩
theorem UP_st (h : UP P x n g) (hi : idx = 10 + n) (hv : v = g (x.toInt.toNat + n)) : UP P x (n + 1) (upd g idx v) := by
  obtain ⟨g1, t, h1, h2, h3, h5⟩ := h; exact ⟨g1, t, h1, h2, h3, MV_st h5 hi hv (by omega)⟩
theorem UP_end (h : UP (IA sl pl oh dh w) x 104 g) : IA 0 pl 14 9999 w g := by
  obtain ⟨g1, t, h1, h2, h3, h5⟩ := h
  refine IA_b (IA_b h1 (fun i hi => MV_out h5 (by omega)) (fun r hr i hi => MV_out h5 (by unfold ldc at hi; omega)) (s2 := 0) (oh2 := 14) (dh2 := 9999) ?_) (fun _ _ => rfl) (fun _ _ _ _ => rfl) ?_ <;>
  · refine LD_mv (IA_st h1 t h2) (fun j hj => ?_)
    have := MV_in h5 (j := j) hj
    rw [this]; congr 1; omega
/-- setAside: the row beside holds what a held -/
def SA (ga : Nat → Int32) (n : Nat) (h : Nat → Int32) : Prop := ∀ j, j < n → h (10 + j) = ga (10 + j)
theorem SA_st {h : Nat → Int32} (q : SA g1 n h) (hi : idx = 10 + n) (hv : v = g1 (10 + n)) : SA g1 (n + 1) (upd h idx v) := by
  intro j hj
  by_cases z : 10 + j = idx
  · subst z; rw [pk_us, hv, show j = n from by omega]
  · rw [pk_un z]; exact q j (by omega)
theorem SA_end {h : Nat → Int32} (q : SA g1 104 h) (hl : LD sl oh dh 10 g1) (q1 : sl ≤ 0) (q2 : oh ≤ 14) (q3 : dh ≤ 9999) : LDa h := LD_w (LD_mv hl (fun j hj => q j hj)) q1 q2 q3
def PBk (P : (Nat → Int32) → Prop) (h0 : Nat → Int32) (n : Nat) (g : Nat → Int32) : Prop := ∃ g1, P g1 ∧ ∀ i, g i = if 10 ≤ i ∧ i < 10 + n then h0 i else g1 i
theorem PBk_0 {h0 : Nat → Int32} (h : P g) : PBk P h0 0 g := ⟨g, h, fun i => by rw [if_neg (by omega)]⟩
theorem PBk_st {h0 : Nat → Int32} (q : PBk P h0 n g) (hi : idx = 10 + n) (hv : v = h0 (10 + n)) : PBk P h0 (n + 1) (upd g idx v) := by
  obtain ⟨g1, h1, h2⟩ := q
  refine ⟨g1, h1, fun i => ?_⟩
  by_cases z : i = idx
  · subst z; rw [pk_us, if_pos (by omega), hv, hi]
  · rw [pk_un z, h2]
    by_cases y : 10 ≤ i ∧ i < 10 + n
    · rw [if_pos y, if_pos (by omega)]
    · rw [if_neg y, if_neg (by omega)]
theorem PBk_end {h0 : Nat → Int32} (q : PBk (IA sl pl oh dh w) h0 104 g) (hl : LDa h0) : IA 0 pl 14 9999 w g := by
  obtain ⟨g1, h1, h2⟩ := q
  have o : ∀ i, (i < 10 ∨ 114 ≤ i) → g i = g1 i := fun i hi => by rw [h2]; exact if_neg (by omega)
  exact IA_b h1 (fun i hi => o i (by omega)) (fun t ht i hi => o i (by unfold ldc at hi; omega)) (LD_mv hl (fun j hj => by rw [h2]; exact if_pos (by omega)))
def CPk (ga : Nat → Int32) (n : Nat) (h : Nat → Int32) : Prop := ∀ j, j < n → h j = ga j
theorem CPk_st {h : Nat → Int32} (q : CPk g1 n h) (hi : idx = n) (hv : v = g1 n) : CPk g1 (n + 1) (upd h idx v) := by
  intro j hj
  by_cases z : j = idx
  · subst z; rw [pk_us, hv, hi]
  · rw [pk_un z]; exact q j (by omega)
theorem CPk_end {h : Nat → Int32} (q : CPk g1 10568 h) (hl : IA sl pl oh dh w g1) : IA sl pl oh dh w h := IA_ext hl (fun i hi => q i (by omega)) (fun i hi => q i (by unfold ldc at hi; omega)) (fun t ht i hi => q i (by unfold ldc at hi; omega))
end MVR
set_option maxHeartbeats 4000000 in
set_option maxRecDepth 100000 in
theorem x_X12_keep {l : Launch} {G : GG}  {L : List Nat} {f : HF} {ad : Nat → Nat → Nat} {pl : Int} {oh : Int} {dh : Int} {w : WW} {pi : PIT} {px : (Nat → Int32) → Prop} {pa : (Nat → Int32) → Prop} (I : SH (spM (IA 0 pl oh dh w) pi px pa) nnM G ad L f) (hB : BBp 0 pl oh dh w) : PMv l yX12_keep cX12_keep 3 0 0 0 G [.ref (ad 0 0)] L f (fun L1 f1 => SH (spM (IA 0 pl oh dh w) pi px pa) nnM G ad L1 f1) := by
  refine PMv.of (post := fun L1 f1 => SH (spM (IA 0 pl oh dh w) pi px pa) nnM G ad L1 f1) (own := RX12) (by decide) rfl (Nat.le_of_ble_eq_true rfl) (fun sz p e s m args below meth c A ls hA1 hname S Y hl => ?_)
  have hx := S.hx
  have hb := S.hb
  have hl : lv_has ls 3 [(0, .ref (ad 0 0))] := hl
  have J_72 : ∀ (n72 : Nat) (y72_1 y72_2 : Int32) (L_72 : List Nat) (f_72 : HF) (H : Heap) (locs : List Loc) (ls : Array Slot), (SH (spM (K2 (IA 0 pl oh dh w) y72_1 y72_2.toInt.toNat) pi px pa) nnM G ad L_72 f_72) → (bn 208 3224 y72_1) → (bn 0 104 y72_2) → (((104 : Int) - y72_2.toInt).toNat = n72) → (DY G A s [] L_72 f_72 H locs) → (lv_has ls 3 [(0, .ref (ad 0 0)), (1, .int y72_1), (2, .int y72_2)]) → W p l e (rmD 0 0 0) s m args below meth c H locs (0) (0) (MQ below (va_Qv (fun (u : List Nat × HF) => (fun L1 f1 => SH (spM (IA 0 pl oh dh w) pi px pa) nnM G ad L1 f1) u.1 u.2) (fun u t => pOut G (va_A (va_pl L f) sz) u.1 u.2 t) (va_A (va_pl L f) sz)) args s 0 0 A) (F0 m 72 ls []) := by
    intro n72
    induction n72 using Nat.strongRecOn with
    | _ n72 ih72 =>
      intro y72_1 y72_2 L_72 f_72 H locs ls I b_y72_1 b_y72_2 hm72 Y hl
      refine lv_iload_n hx hb dX12_keep_72 rfl (lv_at hl 2 rfl) ?_
      refine lv_bipush (v := 104) hx hb dX12_keep_73 (by decide) ?_
      refine lv_icmp_ge (tgt := 101) hx hb dX12_keep_75 (by decide) (fun c_23878 => ?_) (fun c_23878 => ?_)
      · have B_23879 : bn 104 104 y72_2 := bn_w (bn_ler c_23878 (show bn 104 104 (104 : Int32) from bn_k (by decide)) b_y72_2) (by decide)
        obtain ⟨g_23881, p_ad_1_0, o_23882⟩ := I.opi (k := 1) (j := 0) (by decide) rfl
        have p_ad_1_0 : pt L_72 f_72 (ad 1 0) (.inl (G.2 0, 10568, .inl g_23881)) := p_ad_1_0
        have o_23884 : (IA 0 pl oh dh w) g_23881 := (K2_end (show K2 (IA 0 pl oh dh w) y72_1 104 g_23881 from by rw [← (tn_eq (n := 104) (bn_w B_23879 (by decide)))]; exact o_23882) (by have h9 := hB; unfold BBp at h9; omega) (by have h9 := hB; unfold BBp at h9; omega))
        have I := I.castS (sp' := spM (IA 0 pl oh dh w) pi px pa) (k := 1) (j := 0) (by decide) p_ad_1_0 (okE_a (g := g_23881) o_23884) pAC
        obtain ⟨v_23883, ev_23883⟩ : ∃ z, z = g_23881 (3 : Int32).toNatClampNeg := ⟨_, rfl⟩
        have bv_23883 : bn 0 29 v_23883 := by rw [ev_23883]; exact K2_3 o_23882
        refine lv_aload_n hx hb dX12_keep_101 rfl (lv_at hl 0 rfl) ?_
        obtain ⟨v_23885, v_23887, v_23889, v_23891, v_23893, v_23895, v_23897, v_23899, v_23900, v_23902, v_23904, v_23906, v_23908, v_23910, v_23912, v_23914, v_23916, v_23918, p_ad_0_0, b_23886, b_23888, b_23890, b_23892, b_23894, b_23896, b_23898, b_23901, b_23903, b_23905, b_23907, b_23909, b_23911, b_23913, b_23915, b_23917, b_23919⟩ := opnM_0 (j := 0) I (by decide)
        have p_ad_0_0 : pt L_72 f_72 (ad 0 0) (.inr (12, [.ref (ad 1 0), .ref (ad 2 0), .ref (ad 3 0), .ref (ad 4 0), .int v_23885, .int v_23887, .int v_23889, .int v_23891, .int v_23893, .int v_23895, .int v_23897, .long v_23899, .int v_23900, .int v_23902, .int v_23904, .ref (ad 5 0), .ref (ad 6 0), .int v_23906, .int v_23908, .int v_23910, .int v_23912, .int v_23914, .ref (ad 7 0), .ref (ad 8 0), .ref (ad 9 0), .int v_23916, .ref (ad 10 0), .ref (ad 11 0), .ref (ad 12 0), .ref (ad 13 0), .int v_23918, .ref (ad 14 0)])) := p_ad_0_0
        refine pg_get S Y ok_X12 0 (by decide) kf12_7 (v := .ref (ad 1 0)) p_ad_0_0 rfl dX12_keep_102 ?_
        refine lv_iconst (v := 3) hx hb dX12_keep_105 (by decide) ?_
        refine lv_dup2_11 hx hb dX12_keep_106 rfl rfl ?_
        refine pg_iald S Y (v := v_23883) p_ad_1_0 (by unfold vp_in; decide) ev_23883.symm dX12_keep_107 ?_
        refine lv_iconst (v := 1) hx hb dX12_keep_108 (by decide) ?_
        refine lv_iadd hx hb dX12_keep_109 ?_
        refine lv_topi (fun x_23920 ex_23920 => ?_)
        refine pg_iast S Y p_ad_1_0 (by unfold vp_in; decide) dX12_keep_110 (fun f_23922 H locs ef_23922 Y => ?_)
        obtain ⟨g_23921, eg_23921⟩ : ∃ z, z = upd (g_23881) (3 : Int32).toNatClampNeg x_23920 := ⟨_, rfl⟩
        rw [← eg_23921] at ef_23922
        have p_ad_0_0 := p_ad_0_0.up ef_23922 (I.ne (k := 0) (j := 0) (k' := 1) (j' := 0) (by decide) (by decide) (Or.inl (by decide)))
        have p_ad_1_0 := p_ad_1_0.me ef_23922
        have o_23923 : (IA 0 pl oh dh w) g_23921 := (by rw [eg_23921]; exact (IA_s3 o_23884 (bn_w (bn_eq ex_23920 (bn_add bv_23883 (show bn 1 1 (1 : Int32) from bn_k (by decide)) (by decide))) (by decide))))
        have I := I.up (k := 1) (j := 0) (by decide) ef_23922 (okE_a (g := g_23921) o_23923)
        have q_23924 : g_23921 (3 : Int32).toNatClampNeg = x_23920 := by rw [eg_23921]; exact pk_us
        exact prV (post := fun L1 f1 => SH (spM (IA 0 pl oh dh w) pi px pa) nnM G ad L1 f1) S Y (by decide) (by decide) hA1 I dX12_keep_111
      · have B_23880 : bn 0 103 y72_2 := bn_w (bn_gtr c_23878 (show bn 104 104 (104 : Int32) from bn_k (by decide)) b_y72_2) (by decide)
        refine lv_aload_n hx hb dX12_keep_78 rfl (lv_at hl 0 rfl) ?_
        obtain ⟨v_23925, v_23927, v_23929, v_23931, v_23933, v_23935, v_23937, v_23939, v_23940, v_23942, v_23944, v_23946, v_23948, v_23950, v_23952, v_23954, v_23956, v_23958, p_ad_0_0, b_23926, b_23928, b_23930, b_23932, b_23934, b_23936, b_23938, b_23941, b_23943, b_23945, b_23947, b_23949, b_23951, b_23953, b_23955, b_23957, b_23959⟩ := opnM_0 (j := 0) I (by decide)
        have p_ad_0_0 : pt L_72 f_72 (ad 0 0) (.inr (12, [.ref (ad 1 0), .ref (ad 2 0), .ref (ad 3 0), .ref (ad 4 0), .int v_23925, .int v_23927, .int v_23929, .int v_23931, .int v_23933, .int v_23935, .int v_23937, .long v_23939, .int v_23940, .int v_23942, .int v_23944, .ref (ad 5 0), .ref (ad 6 0), .int v_23946, .int v_23948, .int v_23950, .int v_23952, .int v_23954, .ref (ad 7 0), .ref (ad 8 0), .ref (ad 9 0), .int v_23956, .ref (ad 10 0), .ref (ad 11 0), .ref (ad 12 0), .ref (ad 13 0), .int v_23958, .ref (ad 14 0)])) := p_ad_0_0
        refine pg_get S Y ok_X12 0 (by decide) kf12_7 (v := .ref (ad 1 0)) p_ad_0_0 rfl dX12_keep_79 ?_
        refine lv_iload_n hx hb dX12_keep_82 rfl (lv_at hl 1 rfl) ?_
        refine lv_iload_n hx hb dX12_keep_83 rfl (lv_at hl 2 rfl) ?_
        refine lv_iadd hx hb dX12_keep_84 ?_
        refine lv_topi (fun x_23960 ex_23960 => ?_)
        refine lv_aload_n hx hb dX12_keep_85 rfl (lv_at hl 0 rfl) ?_
        refine pg_get S Y ok_X12 0 (by decide) kf12_7 (v := .ref (ad 1 0)) p_ad_0_0 rfl dX12_keep_86 ?_
        refine lv_bipush (v := 10) hx hb dX12_keep_89 (by decide) ?_
        refine lv_iload_n hx hb dX12_keep_91 rfl (lv_at hl 2 rfl) ?_
        refine lv_iadd hx hb dX12_keep_92 ?_
        refine lv_topi (fun x_23961 ex_23961 => ?_)
        obtain ⟨g_23962, p_ad_1_0, o_23963⟩ := I.opi (k := 1) (j := 0) (by decide) rfl
        have p_ad_1_0 : pt L_72 f_72 (ad 1 0) (.inl (G.2 0, 10568, .inl g_23962)) := p_ad_1_0
        obtain ⟨v_23964, ev_23964⟩ : ∃ z, z = g_23962 (x_23961 : Int32).toNatClampNeg := ⟨_, rfl⟩
        refine pg_iald S Y (v := v_23964) p_ad_1_0 (vp_bn (bn_eq ex_23961 (bn_add (show bn 10 10 (10 : Int32) from bn_k (by decide)) B_23880 (by decide))) (by decide)) ev_23964.symm dX12_keep_93 ?_
        refine pg_iast S Y p_ad_1_0 (vp_bn (bn_eq ex_23960 (bn_add b_y72_1 B_23880 (by decide))) (by decide)) dX12_keep_94 (fun f_23966 H locs ef_23966 Y => ?_)
        obtain ⟨g_23965, eg_23965⟩ : ∃ z, z = upd (g_23962) (x_23960 : Int32).toNatClampNeg v_23964 := ⟨_, rfl⟩
        rw [← eg_23965] at ef_23966
        have p_ad_0_0 := p_ad_0_0.up ef_23966 (I.ne (k := 0) (j := 0) (k' := 1) (j' := 0) (by decide) (by decide) (Or.inl (by decide)))
        have p_ad_1_0 := p_ad_1_0.me ef_23966
        have o_23967 : (K2 (IA 0 pl oh dh w) y72_1 (y72_2.toInt.toNat + 1)) g_23965 := (by rw [eg_23965]; exact K2_st o_23963 (show (x_23960 : Int32).toNatClampNeg = y72_1.toInt.toNat + y72_2.toInt.toNat from (by have z9 := (la_add ex_23960 (rfl : y72_1.toInt = y72_1.toInt) (rfl : y72_2.toInt = y72_2.toInt) b_y72_1 B_23880 (by decide)); have z0 := (b_y72_1).1; have z1 := (B_23880).1; simp only [tnc]; omega)) (by rw [ev_23964, show (x_23961 : Int32).toNatClampNeg = 10 + y72_2.toInt.toNat from (by have z9 := (la_add ex_23961 (show (10 : Int32).toInt = 10 from rfl) (rfl : y72_2.toInt = y72_2.toInt) (show bn 10 10 (10 : Int32) from bn_k (by decide)) B_23880 (by decide)); have z0 := (b_y72_1).1; have z1 := (B_23880).1; simp only [tnc]; omega)]) (by have z := B_23880.2; have z0 := B_23880.1; omega))
        have I := I.upS (sp' := spM (K2 (IA 0 pl oh dh w) y72_1 (y72_2.toInt.toNat + 1)) pi px pa) (k := 1) (j := 0) (by decide) ef_23966 (okE_a (g := g_23965) o_23967) pAC
        obtain ⟨x_23968, ex_23968⟩ : ∃ z : Int32, z = y72_2 + 1 := ⟨_, rfl⟩
        refine lv_iinc (v := x_23968) (lv' := [(2, .int x_23968), (0, .ref (ad 0 0)), (1, .int y72_1)]) hx hb dX12_keep_95 hl (k := 2) rfl (by rw [ex_23968]; rfl) (by decide) rfl (fun ls hl => ?_)
        refine lv_goto (tgt := 72) hx hb dX12_keep_98 (by decide) ?_
        have I : SH (spM (K2 (IA 0 pl oh dh w) y72_1 (x_23968 : Int32).toInt.toNat) pi px pa) nnM G ad L_72 f_23966 := by have z9 := (la_add ex_23968 (rfl : y72_2.toInt = y72_2.toInt) (show (1 : Int32).toInt = 1 from rfl) B_23880 (show bn 1 1 (1 : Int32) from bn_k (by decide)) (by decide)); have z8 := (B_23880).1; have e9 : (x_23968 : Int32).toInt.toNat = y72_2.toInt.toNat + 1 := (by omega); rw [e9]; exact I
        exact ih72 _ (by rw [← hm72]; exact ms_up (m := 1) ex_23968 (show bn 1 1 (1 : Int32) from bn_k (by decide)) B_23880 (bn_w (bn_eq ex_23968 (bn_add B_23880 (show bn 1 1 (1 : Int32) from bn_k (by decide)) (by decide))) (by decide) : bn 0 104 x_23968) (by decide)) y72_1 x_23968 _ _  _ _ _ I (bn_w b_y72_1 (by decide)) (bn_w (bn_eq ex_23968 (bn_add B_23880 (show bn 1 1 (1 : Int32) from bn_k (by decide)) (by decide))) (by decide)) rfl Y (lv_sub hl [1, 2, 0] rfl)
  have J_13 : ∀ (n13 : Nat) (y13_1 : Int32) (L_13 : List Nat) (f_13 : HF) (H : Heap) (locs : List Loc) (ls : Array Slot), (SH (spM (K1 (IA 0 pl oh dh w) y13_1.toInt.toNat) pi px pa) nnM G ad L_13 f_13) → (bn 0 3016 y13_1) → (((3016 : Int) - y13_1.toInt).toNat = n13) → (DY G A s [] L_13 f_13 H locs) → (lv_has ls 3 [(0, .ref (ad 0 0)), (1, .int y13_1)]) → W p l e (rmD 0 0 0) s m args below meth c H locs (0) (0) (MQ below (va_Qv (fun (u : List Nat × HF) => (fun L1 f1 => SH (spM (IA 0 pl oh dh w) pi px pa) nnM G ad L1 f1) u.1 u.2) (fun u t => pOut G (va_A (va_pl L f) sz) u.1 u.2 t) (va_A (va_pl L f) sz)) args s 0 0 A) (F0 m 13 ls []) := by
    intro n13
    induction n13 using Nat.strongRecOn with
    | _ n13 ih13 =>
      intro y13_1 L_13 f_13 H locs ls I b_y13_1 hm13 Y hl
      refine lv_iload_n hx hb dX12_keep_13 rfl (lv_at hl 1 rfl) ?_
      refine lv_sipush (v := 3016) hx hb dX12_keep_14 (by decide) ?_
      refine lv_icmp_ge (tgt := 46) hx hb dX12_keep_17 (by decide) (fun c_23969 => ?_) (fun c_23969 => ?_)
      · have B_23970 : bn 3016 3016 y13_1 := bn_w (bn_ler c_23969 (show bn 3016 3016 (3016 : Int32) from bn_k (by decide)) b_y13_1) (by decide)
        obtain ⟨g_23972, p_ad_1_0, o_23973⟩ := I.opi (k := 1) (j := 0) (by decide) rfl
        have p_ad_1_0 : pt L_13 f_13 (ad 1 0) (.inl (G.2 0, 10568, .inl g_23972)) := p_ad_1_0
        have o_23975 : (IA 0 pl oh dh w) g_23972 := (K1_end (show K1 (IA 0 pl oh dh w) 3016 g_23972 from by rw [← (tn_eq (n := 3016) (bn_w B_23970 (by decide)))]; exact o_23973))
        have I := I.castS (sp' := spM (IA 0 pl oh dh w) pi px pa) (k := 1) (j := 0) (by decide) p_ad_1_0 (okE_a (g := g_23972) o_23975) pAC
        obtain ⟨v_23974, ev_23974⟩ : ∃ z, z = g_23972 (3 : Int32).toNatClampNeg := ⟨_, rfl⟩
        have bv_23974 : bn 30 30 v_23974 := by rw [ev_23974]; exact (b30 (K1_3 o_23973))
        refine lv_aload_n hx hb dX12_keep_46 rfl (lv_at hl 0 rfl) ?_
        obtain ⟨v_23976, v_23978, v_23980, v_23982, v_23984, v_23986, v_23988, v_23990, v_23991, v_23993, v_23995, v_23997, v_23999, v_24001, v_24003, v_24005, v_24007, v_24009, p_ad_0_0, b_23977, b_23979, b_23981, b_23983, b_23985, b_23987, b_23989, b_23992, b_23994, b_23996, b_23998, b_24000, b_24002, b_24004, b_24006, b_24008, b_24010⟩ := opnM_0 (j := 0) I (by decide)
        have p_ad_0_0 : pt L_13 f_13 (ad 0 0) (.inr (12, [.ref (ad 1 0), .ref (ad 2 0), .ref (ad 3 0), .ref (ad 4 0), .int v_23976, .int v_23978, .int v_23980, .int v_23982, .int v_23984, .int v_23986, .int v_23988, .long v_23990, .int v_23991, .int v_23993, .int v_23995, .ref (ad 5 0), .ref (ad 6 0), .int v_23997, .int v_23999, .int v_24001, .int v_24003, .int v_24005, .ref (ad 7 0), .ref (ad 8 0), .ref (ad 9 0), .int v_24007, .ref (ad 10 0), .ref (ad 11 0), .ref (ad 12 0), .ref (ad 13 0), .int v_24009, .ref (ad 14 0)])) := p_ad_0_0
        refine pg_get S Y ok_X12 0 (by decide) kf12_7 (v := .ref (ad 1 0)) p_ad_0_0 rfl dX12_keep_47 ?_
        refine lv_iconst (v := 3) hx hb dX12_keep_50 (by decide) ?_
        refine lv_dup2_11 hx hb dX12_keep_51 rfl rfl ?_
        refine pg_iald S Y (v := v_23974) p_ad_1_0 (by unfold vp_in; decide) ev_23974.symm dX12_keep_52 ?_
        refine lv_iconst (v := 1) hx hb dX12_keep_53 (by decide) ?_
        refine lv_isub hx hb dX12_keep_54 ?_
        refine lv_topi (fun x_24011 ex_24011 => ?_)
        refine pg_iast S Y p_ad_1_0 (by unfold vp_in; decide) dX12_keep_55 (fun f_24013 H locs ef_24013 Y => ?_)
        obtain ⟨g_24012, eg_24012⟩ : ∃ z, z = upd (g_23972) (3 : Int32).toNatClampNeg x_24011 := ⟨_, rfl⟩
        rw [← eg_24012] at ef_24013
        have p_ad_0_0 := p_ad_0_0.up ef_24013 (I.ne (k := 0) (j := 0) (k' := 1) (j' := 0) (by decide) (by decide) (Or.inl (by decide)))
        have p_ad_1_0 := p_ad_1_0.me ef_24013
        have o_24014 : (IA 0 pl oh dh w) g_24012 := (by rw [eg_24012]; exact (IA_s3 o_23975 (bn_w (bn_eq ex_24011 (bn_sub bv_23974 (show bn 1 1 (1 : Int32) from bn_k (by decide)) (by decide))) (by decide))))
        have I := I.up (k := 1) (j := 0) (by decide) ef_24013 (okE_a (g := g_24012) o_24014)
        have q_24015 : g_24012 (3 : Int32).toNatClampNeg = x_24011 := by rw [eg_24012]; exact pk_us
        refine lv_sipush (v := 208) hx hb dX12_keep_56 (by decide) ?_
        refine lv_bipush (v := 104) hx hb dX12_keep_59 (by decide) ?_
        refine lv_aload_n hx hb dX12_keep_61 rfl (lv_at hl 0 rfl) ?_
        refine pg_get S Y ok_X12 0 (by decide) kf12_7 (v := .ref (ad 1 0)) p_ad_0_0 rfl dX12_keep_62 ?_
        refine lv_iconst (v := 3) hx hb dX12_keep_65 (by decide) ?_
        refine pg_iald S Y (v := x_24011) p_ad_1_0 (by unfold vp_in; decide) q_24015 dX12_keep_66 ?_
        refine lv_imul hx hb dX12_keep_67 ?_
        refine lv_topi (fun x_24016 ex_24016 => ?_)
        refine lv_iadd hx hb dX12_keep_68 ?_
        refine lv_topi (fun x_24017 ex_24017 => ?_)
        have B_24018 : bn 3224 3224 x_24017 := bn_w (bn_eq ex_24017 (bn_add (show bn 208 208 (208 : Int32) from bn_k (by decide)) (bn_eq ex_24016 (bn_mul (show bn 104 104 (104 : Int32) from bn_k (by decide)) (bn_eq ex_24011 (bn_sub bv_23974 (show bn 1 1 (1 : Int32) from bn_k (by decide)) (by decide))) (by decide))) (by decide))) (by decide)
        refine lv_istore_n (lv' := [(1, .int x_24017), (0, .ref (ad 0 0))]) hx hb dX12_keep_69 rfl hl (by decide) rfl (fun ls hl => ?_)
        refine lv_iconst (v := 0) hx hb dX12_keep_70 (by decide) ?_
        refine lv_istore_n (lv' := [(2, .int 0), (1, .int x_24017), (0, .ref (ad 0 0))]) hx hb dX12_keep_71 rfl hl (by decide) rfl (fun ls hl => ?_)
        have o_24019 : (K2 (IA 0 pl oh dh w) x_24017 (0 : Int32).toInt.toNat) g_24012 := (K2_0 o_24014 (show g_24012 3 = x_24011 from q_24015) (bn_w (bn_eq ex_24011 (bn_sub bv_23974 (show bn 1 1 (1 : Int32) from bn_k (by decide)) (by decide))) (by decide)) (by have z9 := (la_add ex_24017 (show (208 : Int32).toInt = 208 from rfl) (la_mul ex_24016 (show (104 : Int32).toInt = 104 from rfl) (rfl : x_24011.toInt = x_24011.toInt) (show bn 104 104 (104 : Int32) from bn_k (by decide)) (bn_eq ex_24011 (bn_sub bv_23974 (show bn 1 1 (1 : Int32) from bn_k (by decide)) (by decide))) (by decide)) (show bn 208 208 (208 : Int32) from bn_k (by decide)) (bn_eq ex_24016 (bn_mul (show bn 104 104 (104 : Int32) from bn_k (by decide)) (bn_eq ex_24011 (bn_sub bv_23974 (show bn 1 1 (1 : Int32) from bn_k (by decide)) (by decide))) (by decide))) (by decide)); omega))
        have I := I.castS (sp' := spM (K2 (IA 0 pl oh dh w) x_24017 (0 : Int32).toInt.toNat) pi px pa) (k := 1) (j := 0) (by decide) p_ad_1_0 (okE_a (g := g_24012) o_24019) pAC
        exact J_72 _ x_24017 0 _ _  _ _ _ I (bn_w B_24018 (by decide)) (bn_w (show bn 0 0 (0 : Int32) from bn_k (by decide)) (by decide)) rfl Y (lv_sub hl [2, 1, 0] rfl)
      · have B_23971 : bn 0 3015 y13_1 := bn_w (bn_gtr c_23969 (show bn 3016 3016 (3016 : Int32) from bn_k (by decide)) b_y13_1) (by decide)
        refine lv_aload_n hx hb dX12_keep_20 rfl (lv_at hl 0 rfl) ?_
        obtain ⟨v_24020, v_24022, v_24024, v_24026, v_24028, v_24030, v_24032, v_24034, v_24035, v_24037, v_24039, v_24041, v_24043, v_24045, v_24047, v_24049, v_24051, v_24053, p_ad_0_0, b_24021, b_24023, b_24025, b_24027, b_24029, b_24031, b_24033, b_24036, b_24038, b_24040, b_24042, b_24044, b_24046, b_24048, b_24050, b_24052, b_24054⟩ := opnM_0 (j := 0) I (by decide)
        have p_ad_0_0 : pt L_13 f_13 (ad 0 0) (.inr (12, [.ref (ad 1 0), .ref (ad 2 0), .ref (ad 3 0), .ref (ad 4 0), .int v_24020, .int v_24022, .int v_24024, .int v_24026, .int v_24028, .int v_24030, .int v_24032, .long v_24034, .int v_24035, .int v_24037, .int v_24039, .ref (ad 5 0), .ref (ad 6 0), .int v_24041, .int v_24043, .int v_24045, .int v_24047, .int v_24049, .ref (ad 7 0), .ref (ad 8 0), .ref (ad 9 0), .int v_24051, .ref (ad 10 0), .ref (ad 11 0), .ref (ad 12 0), .ref (ad 13 0), .int v_24053, .ref (ad 14 0)])) := p_ad_0_0
        refine pg_get S Y ok_X12 0 (by decide) kf12_7 (v := .ref (ad 1 0)) p_ad_0_0 rfl dX12_keep_21 ?_
        refine lv_sipush (v := 208) hx hb dX12_keep_24 (by decide) ?_
        refine lv_iload_n hx hb dX12_keep_27 rfl (lv_at hl 1 rfl) ?_
        refine lv_iadd hx hb dX12_keep_28 ?_
        refine lv_topi (fun x_24055 ex_24055 => ?_)
        refine lv_aload_n hx hb dX12_keep_29 rfl (lv_at hl 0 rfl) ?_
        refine pg_get S Y ok_X12 0 (by decide) kf12_7 (v := .ref (ad 1 0)) p_ad_0_0 rfl dX12_keep_30 ?_
        refine lv_sipush (v := 312) hx hb dX12_keep_33 (by decide) ?_
        refine lv_iload_n hx hb dX12_keep_36 rfl (lv_at hl 1 rfl) ?_
        refine lv_iadd hx hb dX12_keep_37 ?_
        refine lv_topi (fun x_24056 ex_24056 => ?_)
        obtain ⟨g_24057, p_ad_1_0, o_24058⟩ := I.opi (k := 1) (j := 0) (by decide) rfl
        have p_ad_1_0 : pt L_13 f_13 (ad 1 0) (.inl (G.2 0, 10568, .inl g_24057)) := p_ad_1_0
        obtain ⟨v_24059, ev_24059⟩ : ∃ z, z = g_24057 (x_24056 : Int32).toNatClampNeg := ⟨_, rfl⟩
        refine pg_iald S Y (v := v_24059) p_ad_1_0 (vp_bn (bn_eq ex_24056 (bn_add (show bn 312 312 (312 : Int32) from bn_k (by decide)) B_23971 (by decide))) (by decide)) ev_24059.symm dX12_keep_38 ?_
        refine pg_iast S Y p_ad_1_0 (vp_bn (bn_eq ex_24055 (bn_add (show bn 208 208 (208 : Int32) from bn_k (by decide)) B_23971 (by decide))) (by decide)) dX12_keep_39 (fun f_24061 H locs ef_24061 Y => ?_)
        obtain ⟨g_24060, eg_24060⟩ : ∃ z, z = upd (g_24057) (x_24055 : Int32).toNatClampNeg v_24059 := ⟨_, rfl⟩
        rw [← eg_24060] at ef_24061
        have p_ad_0_0 := p_ad_0_0.up ef_24061 (I.ne (k := 0) (j := 0) (k' := 1) (j' := 0) (by decide) (by decide) (Or.inl (by decide)))
        have p_ad_1_0 := p_ad_1_0.me ef_24061
        have o_24062 : (K1 (IA 0 pl oh dh w) (y13_1.toInt.toNat + 1)) g_24060 := (by rw [eg_24060]; exact K1_st o_24058 (show (x_24055 : Int32).toNatClampNeg = 208 + y13_1.toInt.toNat from (by have z9 := (la_add ex_24055 (show (208 : Int32).toInt = 208 from rfl) (rfl : y13_1.toInt = y13_1.toInt) (show bn 208 208 (208 : Int32) from bn_k (by decide)) B_23971 (by decide)); have z0 := (B_23971).1; simp only [tnc]; omega)) (by rw [ev_24059, show (x_24056 : Int32).toNatClampNeg = 312 + y13_1.toInt.toNat from (by have z9 := (la_add ex_24056 (show (312 : Int32).toInt = 312 from rfl) (rfl : y13_1.toInt = y13_1.toInt) (show bn 312 312 (312 : Int32) from bn_k (by decide)) B_23971 (by decide)); have z0 := (B_23971).1; simp only [tnc]; omega)]))
        have I := I.upS (sp' := spM (K1 (IA 0 pl oh dh w) (y13_1.toInt.toNat + 1)) pi px pa) (k := 1) (j := 0) (by decide) ef_24061 (okE_a (g := g_24060) o_24062) pAC
        obtain ⟨x_24063, ex_24063⟩ : ∃ z : Int32, z = y13_1 + 1 := ⟨_, rfl⟩
        refine lv_iinc (v := x_24063) (lv' := [(1, .int x_24063), (0, .ref (ad 0 0))]) hx hb dX12_keep_40 hl (k := 1) rfl (by rw [ex_24063]; rfl) (by decide) rfl (fun ls hl => ?_)
        refine lv_goto (tgt := 13) hx hb dX12_keep_43 (by decide) ?_
        have I : SH (spM (K1 (IA 0 pl oh dh w) (x_24063 : Int32).toInt.toNat) pi px pa) nnM G ad L_13 f_24061 := by have z9 := (la_add ex_24063 (rfl : y13_1.toInt = y13_1.toInt) (show (1 : Int32).toInt = 1 from rfl) B_23971 (show bn 1 1 (1 : Int32) from bn_k (by decide)) (by decide)); have z8 := (B_23971).1; have e9 : (x_24063 : Int32).toInt.toNat = y13_1.toInt.toNat + 1 := (by omega); rw [e9]; exact I
        exact ih13 _ (by rw [← hm13]; exact ms_up (m := 1) ex_24063 (show bn 1 1 (1 : Int32) from bn_k (by decide)) B_23971 (bn_w (bn_eq ex_24063 (bn_add B_23971 (show bn 1 1 (1 : Int32) from bn_k (by decide)) (by decide))) (by decide) : bn 0 3016 x_24063) (by decide)) x_24063 _ _  _ _ _ I (bn_w (bn_eq ex_24063 (bn_add B_23971 (show bn 1 1 (1 : Int32) from bn_k (by decide)) (by decide))) (by decide)) rfl Y (lv_sub hl [1, 0] rfl)
  refine lv_aload_n hx hb dX12_keep_0 rfl (lv_at hl 0 rfl) ?_
  obtain ⟨v_24064, v_24066, v_24068, v_24070, v_24072, v_24074, v_24076, v_24078, v_24079, v_24081, v_24083, v_24085, v_24087, v_24089, v_24091, v_24093, v_24095, v_24097, p_ad_0_0, b_24065, b_24067, b_24069, b_24071, b_24073, b_24075, b_24077, b_24080, b_24082, b_24084, b_24086, b_24088, b_24090, b_24092, b_24094, b_24096, b_24098⟩ := opnM_0 (j := 0) I (by decide)
  have p_ad_0_0 : pt L f (ad 0 0) (.inr (12, [.ref (ad 1 0), .ref (ad 2 0), .ref (ad 3 0), .ref (ad 4 0), .int v_24064, .int v_24066, .int v_24068, .int v_24070, .int v_24072, .int v_24074, .int v_24076, .long v_24078, .int v_24079, .int v_24081, .int v_24083, .ref (ad 5 0), .ref (ad 6 0), .int v_24085, .int v_24087, .int v_24089, .int v_24091, .int v_24093, .ref (ad 7 0), .ref (ad 8 0), .ref (ad 9 0), .int v_24095, .ref (ad 10 0), .ref (ad 11 0), .ref (ad 12 0), .ref (ad 13 0), .int v_24097, .ref (ad 14 0)])) := p_ad_0_0
  refine pg_get S Y ok_X12 0 (by decide) kf12_7 (v := .ref (ad 1 0)) p_ad_0_0 rfl dX12_keep_1 ?_
  refine lv_iconst (v := 3) hx hb dX12_keep_4 (by decide) ?_
  obtain ⟨g_24099, p_ad_1_0, o_24100⟩ := I.opi (k := 1) (j := 0) (by decide) rfl
  have p_ad_1_0 : pt L f (ad 1 0) (.inl (G.2 0, 10568, .inl g_24099)) := p_ad_1_0
  obtain ⟨v_24101, ev_24101⟩ : ∃ z, z = g_24099 (3 : Int32).toNatClampNeg := ⟨_, rfl⟩
  refine pg_iald S Y (v := v_24101) p_ad_1_0 (by unfold vp_in; decide) ev_24101.symm dX12_keep_5 ?_
  have bv_24101 : bn 0 30 v_24101 := bn_eq ev_24101 (IA_3 o_24100)
  refine lv_bipush (v := 30) hx hb dX12_keep_6 (by decide) ?_
  refine lv_icmp_ne (tgt := 56) hx hb dX12_keep_8 (by decide) (fun c_24102 => ?_) (fun c_24102 => ?_)
  · have B_24103 : bn 0 29 v_24101 := bn_w (bn_neu c_24102 bv_24101 (show bn 30 30 (30 : Int32) from bn_k (by decide))) (by decide)
    refine lv_sipush (v := 208) hx hb dX12_keep_56 (by decide) ?_
    refine lv_bipush (v := 104) hx hb dX12_keep_59 (by decide) ?_
    refine lv_aload_n hx hb dX12_keep_61 rfl (lv_at hl 0 rfl) ?_
    refine pg_get S Y ok_X12 0 (by decide) kf12_7 (v := .ref (ad 1 0)) p_ad_0_0 rfl dX12_keep_62 ?_
    refine lv_iconst (v := 3) hx hb dX12_keep_65 (by decide) ?_
    refine pg_iald S Y (v := v_24101) p_ad_1_0 (by unfold vp_in; decide) ev_24101.symm dX12_keep_66 ?_
    refine lv_imul hx hb dX12_keep_67 ?_
    refine lv_topi (fun x_24105 ex_24105 => ?_)
    refine lv_iadd hx hb dX12_keep_68 ?_
    refine lv_topi (fun x_24106 ex_24106 => ?_)
    refine lv_istore_n (lv' := [(1, .int x_24106), (0, .ref (ad 0 0))]) hx hb dX12_keep_69 rfl hl (by decide) rfl (fun ls hl => ?_)
    refine lv_iconst (v := 0) hx hb dX12_keep_70 (by decide) ?_
    refine lv_istore_n (lv' := [(2, .int 0), (1, .int x_24106), (0, .ref (ad 0 0))]) hx hb dX12_keep_71 rfl hl (by decide) rfl (fun ls hl => ?_)
    have o_24107 : (K2 (IA 0 pl oh dh w) x_24106 (0 : Int32).toInt.toNat) g_24099 := (K2_0 o_24100 (show g_24099 3 = v_24101 from ev_24101.symm) (bn_w B_24103 (by decide)) (by have z9 := (la_add ex_24106 (show (208 : Int32).toInt = 208 from rfl) (la_mul ex_24105 (show (104 : Int32).toInt = 104 from rfl) (rfl : v_24101.toInt = v_24101.toInt) (show bn 104 104 (104 : Int32) from bn_k (by decide)) B_24103 (by decide)) (show bn 208 208 (208 : Int32) from bn_k (by decide)) (bn_eq ex_24105 (bn_mul (show bn 104 104 (104 : Int32) from bn_k (by decide)) B_24103 (by decide))) (by decide)); omega))
    have I := I.castS (sp' := spM (K2 (IA 0 pl oh dh w) x_24106 (0 : Int32).toInt.toNat) pi px pa) (k := 1) (j := 0) (by decide) p_ad_1_0 (okE_a (g := g_24099) o_24107) pAC
    exact J_72 _ x_24106 0 _ _  _ _ _ I (bn_w (bn_eq ex_24106 (bn_add (show bn 208 208 (208 : Int32) from bn_k (by decide)) (bn_eq ex_24105 (bn_mul (show bn 104 104 (104 : Int32) from bn_k (by decide)) B_24103 (by decide))) (by decide))) (by decide)) (bn_w (show bn 0 0 (0 : Int32) from bn_k (by decide)) (by decide)) rfl Y (lv_sub hl [2, 1, 0] rfl)
  · have B_24104 : bn 30 30 v_24101 := bn_w (bn_eq c_24102 (show bn 30 30 (30 : Int32) from bn_k (by decide))) (by decide)
    refine lv_iconst (v := 0) hx hb dX12_keep_11 (by decide) ?_
    refine lv_istore_n (lv' := [(1, .int 0), (0, .ref (ad 0 0))]) hx hb dX12_keep_12 rfl hl (by decide) rfl (fun ls hl => ?_)
    have o_24108 : (K1 (IA 0 pl oh dh w) (0 : Int32).toInt.toNat) g_24099 := (K1_0 o_24100 (by rw [show g_24099 3 = v_24101 from ev_24101.symm]; have z := B_24104; exact Int.le_antisymm z.2 z.1))
    have I := I.castS (sp' := spM (K1 (IA 0 pl oh dh w) (0 : Int32).toInt.toNat) pi px pa) (k := 1) (j := 0) (by decide) p_ad_1_0 (okE_a (g := g_24099) o_24108) pAC
    exact J_13 _ 0 _ _  _ _ _ I (bn_w (show bn 0 0 (0 : Int32) from bn_k (by decide)) (by decide)) rfl Y (lv_sub hl [1, 0] rfl)
