theorem dX12_init_0 : decode cX12_init 0 = .ok (.aload_n 0, 1) := by decide +kernel
theorem dX12_init_1 : decode cX12_init 1 = .ok (.invokespecial 1, 3) := by decide +kernel
theorem km12_1 : inW (Cond.methodLink RX12 1 objectInit) := ⟨List.mem_of_getElem? (i := 1494) (by decide +kernel), by decide +kernel⟩
theorem kObj1m : inW (Cond.instanceMethod objectInit) := ⟨List.mem_of_getElem? (i := 151) (by decide +kernel), by decide +kernel⟩
theorem kObj2m : inW (Cond.code objectInit ⟨#[0xb1]⟩ 1 none) := ⟨List.mem_of_getElem? (i := 152) (by decide +kernel), by decide +kernel⟩
theorem dX12_init_4 : decode cX12_init 4 = .ok (.aload_n 0, 1) := by decide +kernel
theorem dX12_init_5 : decode cX12_init 5 = .ok (.sipush 10568, 3) := by decide +kernel
theorem dX12_init_8 : decode cX12_init 8 = .ok (.newarray .int, 2) := by decide +kernel
theorem ka_intm : inW (Cond.arrayClass .int) := ⟨List.mem_of_getElem? (i := 197) (by decide +kernel), by decide +kernel⟩
theorem dX12_init_10 : decode cX12_init 10 = .ok (.putfield 7, 3) := by decide +kernel
theorem dX12_init_13 : decode cX12_init 13 = .ok (.aload_n 0, 1) := by decide +kernel
theorem dX12_init_14 : decode cX12_init 14 = .ok (.sipush 10568, 3) := by decide +kernel
theorem dX12_init_17 : decode cX12_init 17 = .ok (.newarray .int, 2) := by decide +kernel
theorem dX12_init_19 : decode cX12_init 19 = .ok (.putfield 13, 3) := by decide +kernel
theorem dX12_init_22 : decode cX12_init 22 = .ok (.aload_n 0, 1) := by decide +kernel
theorem dX12_init_23 : decode cX12_init 23 = .ok (.sipush 2916, 3) := by decide +kernel
theorem dX12_init_26 : decode cX12_init 26 = .ok (.newarray .int, 2) := by decide +kernel
theorem dX12_init_28 : decode cX12_init 28 = .ok (.putfield 16, 3) := by decide +kernel
theorem dX12_init_31 : decode cX12_init 31 = .ok (.aload_n 0, 1) := by decide +kernel
theorem dX12_init_32 : decode cX12_init 32 = .ok (.sipush 300, 3) := by decide +kernel
theorem dX12_init_35 : decode cX12_init 35 = .ok (.newarray .int, 2) := by decide +kernel
theorem dX12_init_37 : decode cX12_init 37 = .ok (.putfield 19, 3) := by decide +kernel
theorem dX12_init_40 : decode cX12_init 40 = .ok (.aload_n 0, 1) := by decide +kernel
theorem dX12_init_41 : decode cX12_init 41 = .ok (.iconst (-1), 1) := by decide +kernel
theorem dX12_init_42 : decode cX12_init 42 = .ok (.putfield 22, 3) := by decide +kernel
theorem dX12_init_45 : decode cX12_init 45 = .ok (.aload_n 0, 1) := by decide +kernel
theorem dX12_init_46 : decode cX12_init 46 = .ok (.iconst (-1), 1) := by decide +kernel
theorem dX12_init_47 : decode cX12_init 47 = .ok (.putfield 26, 3) := by decide +kernel
theorem dX12_init_50 : decode cX12_init 50 = .ok (.aload_n 0, 1) := by decide +kernel
theorem dX12_init_51 : decode cX12_init 51 = .ok (.sipush 160, 3) := by decide +kernel
theorem dX12_init_54 : decode cX12_init 54 = .ok (.newarray .int, 2) := by decide +kernel
theorem dX12_init_56 : decode cX12_init 56 = .ok (.putfield 29, 3) := by decide +kernel
theorem dX12_init_59 : decode cX12_init 59 = .ok (.aload_n 0, 1) := by decide +kernel
theorem dX12_init_60 : decode cX12_init 60 = .ok (.bipush 9, 2) := by decide +kernel
theorem dX12_init_62 : decode cX12_init 62 = .ok (.newarray .int, 2) := by decide +kernel
theorem dX12_init_64 : decode cX12_init 64 = .ok (.putfield 32, 3) := by decide +kernel
theorem dX12_init_67 : decode cX12_init 67 = .ok (.aload_n 0, 1) := by decide +kernel
theorem dX12_init_68 : decode cX12_init 68 = .ok (.bipush 10, 2) := by decide +kernel
theorem dX12_init_70 : decode cX12_init 70 = .ok (.newarray .int, 2) := by decide +kernel
theorem dX12_init_72 : decode cX12_init 72 = .ok (.putfield 35, 3) := by decide +kernel
theorem dX12_init_75 : decode cX12_init 75 = .ok (.aload_n 0, 1) := by decide +kernel
theorem dX12_init_76 : decode cX12_init 76 = .ok (.sipush 330, 3) := by decide +kernel
theorem dX12_init_79 : decode cX12_init 79 = .ok (.newarray .long, 2) := by decide +kernel
theorem ka_long : inW (Cond.arrayClass .long) := ⟨List.mem_of_getElem? (i := 1595) (by decide +kernel), by decide +kernel⟩
theorem dX12_init_81 : decode cX12_init 81 = .ok (.putfield 38, 3) := by decide +kernel
theorem dX12_init_84 : decode cX12_init 84 = .ok (.aload_n 0, 1) := by decide +kernel
theorem dX12_init_85 : decode cX12_init 85 = .ok (.sipush 330, 3) := by decide +kernel
theorem dX12_init_88 : decode cX12_init 88 = .ok (.newarray .boolean, 2) := by decide +kernel
theorem ka_boolean : inW (Cond.arrayClass .boolean) := ⟨List.mem_of_getElem? (i := 1596) (by decide +kernel), by decide +kernel⟩
theorem dX12_init_90 : decode cX12_init 90 = .ok (.putfield 42, 3) := by decide +kernel
theorem dX12_init_93 : decode cX12_init 93 = .ok (.aload_n 0, 1) := by decide +kernel
theorem dX12_init_94 : decode cX12_init 94 = .ok (.iconst 1, 1) := by decide +kernel
theorem dX12_init_95 : decode cX12_init 95 = .ok (.putfield 46, 3) := by decide +kernel
theorem dX12_init_98 : decode cX12_init 98 = .ok (.aload_n 0, 1) := by decide +kernel
theorem dX12_init_99 : decode cX12_init 99 = .ok (.bipush 6, 2) := by decide +kernel
theorem dX12_init_101 : decode cX12_init 101 = .ok (.newarray .int, 2) := by decide +kernel
theorem dX12_init_103 : decode cX12_init 103 = .ok (.putfield 50, 3) := by decide +kernel
theorem dX12_init_106 : decode cX12_init 106 = .ok (.aload_n 0, 1) := by decide +kernel
theorem dX12_init_107 : decode cX12_init 107 = .ok (.bipush 114, 2) := by decide +kernel
theorem dX12_init_109 : decode cX12_init 109 = .ok (.newarray .int, 2) := by decide +kernel
theorem dX12_init_111 : decode cX12_init 111 = .ok (.putfield 53, 3) := by decide +kernel
theorem dX12_init_114 : decode cX12_init 114 = .ok (.aload_n 0, 1) := by decide +kernel
theorem dX12_init_115 : decode cX12_init 115 = .ok (.bipush 84, 2) := by decide +kernel
theorem dX12_init_117 : decode cX12_init 117 = .ok (.newarray .int, 2) := by decide +kernel
theorem dX12_init_119 : decode cX12_init 119 = .ok (.putfield 56, 3) := by decide +kernel
theorem dX12_init_122 : decode cX12_init 122 = .ok (.aload_n 0, 1) := by decide +kernel
theorem dX12_init_123 : decode cX12_init 123 = .ok (.bipush 14, 2) := by decide +kernel
theorem dX12_init_125 : decode cX12_init 125 = .ok (.newarray .int, 2) := by decide +kernel
theorem dX12_init_127 : decode cX12_init 127 = .ok (.putfield 59, 3) := by decide +kernel
theorem dX12_init_130 : decode cX12_init 130 = .ok (.aload_n 0, 1) := by decide +kernel
theorem dX12_init_131 : decode cX12_init 131 = .ok (.bipush 6, 2) := by decide +kernel
theorem dX12_init_133 : decode cX12_init 133 = .ok (.newarray .int, 2) := by decide +kernel
theorem dX12_init_135 : decode cX12_init 135 = .ok (.putfield 62, 3) := by decide +kernel
theorem dX12_init_138 : decode cX12_init 138 = .ok (.aload_n 0, 1) := by decide +kernel
theorem dX12_init_139 : decode cX12_init 139 = .ok (.getfield 7, 3) := by decide +kernel
theorem dX12_init_142 : decode cX12_init 142 = .ok (.bipush 12, 2) := by decide +kernel
theorem dX12_init_144 : decode cX12_init 144 = .ok (.sipush 137, 3) := by decide +kernel
theorem dX12_init_147 : decode cX12_init 147 = .ok (.iastore, 1) := by decide +kernel
theorem dX12_init_148 : decode cX12_init 148 = .ok (.aload_n 0, 1) := by decide +kernel
theorem dX12_init_149 : decode cX12_init 149 = .ok (.getfield 7, 3) := by decide +kernel
theorem dX12_init_152 : decode cX12_init 152 = .ok (.iconst 2, 1) := by decide +kernel
theorem dX12_init_153 : decode cX12_init 153 = .ok (.iconst (-1), 1) := by decide +kernel
theorem dX12_init_154 : decode cX12_init 154 = .ok (.iastore, 1) := by decide +kernel
theorem dX12_init_155 : decode cX12_init 155 = .ok (.aload_n 0, 1) := by decide +kernel
theorem dX12_init_156 : decode cX12_init 156 = .ok (.getfield 7, 3) := by decide +kernel
theorem dX12_init_159 : decode cX12_init 159 = .ok (.aload_n 0, 1) := by decide +kernel
theorem dX12_init_160 : decode cX12_init 160 = .ok (.getfield 13, 3) := by decide +kernel
theorem dX12_init_163 : decode cX12_init 163 = .ok (.invokestatic 65, 3) := by decide +kernel
theorem dX12_init_166 : decode cX12_init 166 = .ok (.return_, 1) := by decide +kernel
theorem cpStep {g g0 : Nat → Int32} {i : Nat} (h : ∀ k, k < i → g k = g0 k) : ∀ k, k < i + 1 → upd g i (g0 i) k = g0 k := fun k hk => by
  by_cases q : k = i
  · rw [q]; exact pk_us
  · rw [pk_un q]; exact h k (by omega)
def a0m : Nat → Int32 := upd (upd (fun _ => 0) 12 137) 2 (-1)
theorem a0m_made {g1 g2 : Nat → Int32} (h1 : g1 = upd (fun _ => 0) (12 : Int32).toNatClampNeg 137) (h2 : g2 = upd g1 (2 : Int32).toNatClampNeg (-1)) : g2 = a0m := by
  rw [h2, h1]; rfl
theorem a0m_z {k : Nat} (h1 : k ≠ 12) (h2 : k ≠ 2) : a0m k = 0 := by unfold a0m; rw [pk_un h2, pk_un h1]
def W00 : WW := ((0, 0), fun _ => 0)
theorem IA_0m {g : Nat → Int32} (h : ∀ k, k < 10568 → g k = a0m k) : IA 0 0 14 9999 W00 g := by
  have z : ∀ k, k < 10568 → k ≠ 12 → k ≠ 2 → g k = 0 := fun k h0 h1 h2 => (h k h0).trans (a0m_z h1 h2)
  have b0 : ∀ a b : Int, a ≤ 0 → 0 ≤ b → bn a b (0 : Int32) := fun a b h1 h2 => ⟨h1, h2⟩
  have e2 : g 2 = -1 := (h 2 (by decide)).trans (by unfold a0m; rw [pk_us])
  have e12 : g 12 = 137 := (h 12 (by decide)).trans (by unfold a0m; rw [pk_un (by decide), pk_us])
  have ld : ∀ b : Nat, b + 200 < 10568 → b ≠ 10 → b ≠ 12 → b ≠ 2 → 12 < b → LD 0 14 9999 b g := fun b hb h1 h2 h3 h4 => ⟨by rw [z b (by omega) h2 h3]; exact b0 _ _ (by decide) (by decide), by rw [z (b + 3) (by omega) (by omega) (by omega)]; exact b0 _ _ (by decide) (by decide), by rw [z (b + 4) (by omega) (by omega) (by omega)]; decide, by rw [z (b + 4) (by omega) (by omega) (by omega), z b (by omega) h2 h3]; decide, fun o ho => by rw [z (b + 7 + 7 * o) (by omega) (by omega) (by omega)]; exact b0 _ _ (by decide) (by decide), by rw [z (b + 2) (by omega) (by omega) (by omega)]; exact b0 _ _ (by decide) (by decide)⟩
  refine ⟨?_, ?_, ?_, ?_, ?_, ?_, ?_, ?_, ?_, ?_, fun k k1 k2 => z k (by omega) (by omega) (by omega), fun t ht => ld (208 + 104 * t) (by omega) (by omega) (by omega) (by omega) (by omega)⟩
  · rw [z 0 (by decide) (by decide) (by decide)]; exact b0 _ _ (by decide) (by decide)
  · exact ⟨by rw [z 1 (by decide) (by decide) (by decide)]; exact b0 _ _ (by decide) (by decide), z 1 (by decide) (by decide) (by decide)⟩
  · rw [e2]; exact bn_k (by decide)
  · rw [z 3 (by decide) (by decide) (by decide)]; exact b0 _ _ (by decide) (by decide)
  · rw [z 4 (by decide) (by decide) (by decide)]; exact b0 _ _ (by decide) (by decide)
  · rw [z 5 (by decide) (by decide) (by decide)]; exact b0 _ _ (by decide) (by decide)
  · rw [z 6 (by decide) (by decide) (by decide)]; exact b0 0 0 (by decide) (by decide)
  · rw [z 7 (by decide) (by decide) (by decide)]; exact b0 _ _ (by decide) (by decide)
  · rw [z 8 (by decide) (by decide) (by decide)]; exact b0 _ _ (by decide) (by decide)
  · refine ⟨?_, ?_, ?_, ?_, fun o ho => ?_, ?_⟩
    · rw [z 10 (by decide) (by decide) (by decide)]; exact b0 _ _ (by decide) (by decide)
    · rw [z 13 (by decide) (by decide) (by decide)]; exact b0 _ _ (by decide) (by decide)
    · rw [z 14 (by decide) (by decide) (by decide)]; decide
    · rw [z 14 (by decide) (by decide) (by decide), z 10 (by decide) (by decide) (by decide)]; decide
    · rw [z (10 + 7 + 7 * o) (by omega) (by omega) (by omega)]; exact b0 _ _ (by decide) (by decide)
    · rw [e12]; exact bn_k (by decide)
theorem LDa_0 : LDa (fun _ => 0) := ⟨⟨by decide, by decide⟩, ⟨by decide, by decide⟩, by decide, by decide, fun _ _ => show bn 0 5 (0 : Int32) from ⟨by decide, by decide⟩, ⟨by decide, by decide⟩⟩
def ecd (e : va_E) : Nat × Nat := match e with
  | .inr q => (0, q.1)
  | .inl (_, n, .inl _) => (1, n)
  | .inl (_, n, .inr (.inl _)) => (2, n)
  | .inl (_, n, .inr (.inr _)) => (3, n)
set_option maxHeartbeats 4000000 in
set_option maxRecDepth 100000 in
theorem c_X12_copy {l : Launch} {G : GG} {L : List Nat} {f : HF} {a b : Nat} {g0 g1 : Nat → Int32}  (p_a : pt L f a (.inl (G.2 0, 10568, .inl g0))) (p_b : pt L f b (.inl (G.2 0, 10568, .inl g1))) (n1 : a ≠ b) : PMv l yX12_copy cX12_copy 3 0 0 0 G [.ref a, .ref b] L f (fun L1 f1 => ∃ g2 : Nat → Int32, kp L f L1 f1 [b] ∧ pt L1 f1 b (.inl (G.2 0, 10568, .inl g2)) ∧ ∀ k, k < 10568 → g2 k = g0 k) := by
  refine PMv.of (post := fun L1 f1 => ∃ g2 : Nat → Int32, kp L f L1 f1 [b] ∧ pt L1 f1 b (.inl (G.2 0, 10568, .inl g2)) ∧ ∀ k, k < 10568 → g2 k = g0 k) (own := RX12) (by decide) rfl (Nat.le_of_ble_eq_true rfl) (fun sz p e s m args below meth c A ls hA1 hname S Y hl => ?_)
  have hx := S.hx
  have hb := S.hb
  have hl : lv_has ls 3 [(0, .ref a), (1, .ref b)] := hl
  have hk : kp L f L f [b] := kp.rf
  refine lv_iconst (v := 0) hx hb dX12_copy_0 (by decide) ?_
  refine lv_istore_n (lv' := [(2, .int 0), (0, .ref a), (1, .ref b)]) hx hb dX12_copy_1 rfl hl (by decide) rfl (fun ls hl => ?_)
  have loop : ∀ (n i : Nat) (f2 : HF) (g : Nat → Int32) (H : Heap) (locs : List Loc) (ls : Array Slot) (x : Int32), i + n = 10568 → x = nI i → kp L f L f2 [b] → pt L f2 a (.inl (G.2 0, 10568, .inl g0)) → pt L f2 b (.inl (G.2 0, 10568, .inl g)) → (∀ k, k < i → g k = g0 k) → DY G A s [] L f2 H locs → lv_has ls 3 [(2, .int x), (0, .ref a), (1, .ref b)] → W p l e (rmD 0 0 0) s m args below meth c H locs (0) (0) (MQ below (va_Qv (fun (u : List Nat × HF) => (fun L1 f1 => ∃ g2 : Nat → Int32, kp L f L1 f1 [b] ∧ pt L1 f1 b (.inl (G.2 0, 10568, .inl g2)) ∧ ∀ k, k < 10568 → g2 k = g0 k) u.1 u.2) (fun u t => pOut G (va_A (va_pl L f) sz) u.1 u.2 t) (va_A (va_pl L f) sz)) args s 0 0 A) (F0 m 2 ls []) := by
    intro n
    induction n with
    | zero =>
      intro i f2 g H locs ls x hin ex hk p_a p_b hg Y hl
      obtain rfl : i = 10568 := by omega
      obtain rfl : x = 10568 := by rw [ex]; decide
      refine lv_iload_n hx hb dX12_copy_2 rfl (lv_at hl 0 rfl) ?_
      refine lv_sipush (v := 10568) hx hb dX12_copy_3 (by decide) ?_
      refine lv_icmp_ge (tgt := 21) hx hb dX12_copy_6 (by decide) (fun _ => ?_) (fun h => absurd (by decide) h)
      exact prV (post := fun L1 f1 => ∃ g2 : Nat → Int32, kp L f L1 f1 [b] ∧ pt L1 f1 b (.inl (G.2 0, 10568, .inl g2)) ∧ ∀ k, k < 10568 → g2 k = g0 k) S Y (by decide) (by decide) hA1 ⟨g, hk, p_b, hg⟩ dX12_copy_21
    | succ n ih =>
      intro i f2 g H locs ls x hin ex hk p_a p_b hg Y hl
      have hiN : i < 10568 := by omega
      have hi31 : i < 2 ^ 31 := by omega
      have hin2 : i + 1 + n = 10568 := by omega
      refine lv_iload_n hx hb dX12_copy_2 rfl (lv_at hl 0 rfl) ?_
      refine lv_sipush (v := 10568) hx hb dX12_copy_3 (by decide) ?_
      refine lv_icmp_ge (tgt := 21) hx hb dX12_copy_6 (by decide) (fun h => absurd h (by rw [ex]; exact nI_ge hiN (by decide))) (fun _ => ?_)
      refine lv_aload_n hx hb dX12_copy_9 rfl (lv_at hl 2 rfl) ?_
      refine lv_iload_n hx hb dX12_copy_10 rfl (lv_at hl 0 rfl) ?_
      refine lv_aload_n hx hb dX12_copy_11 rfl (lv_at hl 1 rfl) ?_
      refine lv_iload_n hx hb dX12_copy_12 rfl (lv_at hl 0 rfl) ?_
      refine pg_iald S Y (v := (g0 (x : Int32).toNatClampNeg)) p_a (by rw [ex]; exact vp_in_nI hiN (by decide)) rfl dX12_copy_13 ?_
      refine pg_iast S Y p_b (by rw [ex]; exact vp_in_nI hiN (by decide)) dX12_copy_14 (fun f_91255 H locs ef_91255 Y => ?_)
      obtain ⟨g_91254, eg_91254⟩ : ∃ z, z = upd (g) (x : Int32).toNatClampNeg (g0 (x : Int32).toNatClampNeg) := ⟨_, rfl⟩
      rw [← eg_91254] at ef_91255
      have p_a := p_a.up ef_91255 ((n1))
      have p_b := p_b.me ef_91255
      have hk := hk.up ef_91255 (by simp)
      obtain ⟨x_91256, ex_91256⟩ : ∃ z : Int32, z = x + 1 := ⟨_, rfl⟩
      refine lv_iinc (v := x_91256) (lv' := [(2, .int x_91256), (0, .ref a), (1, .ref b)]) hx hb dX12_copy_15 hl (k := 0) rfl (by rw [ex_91256]; rfl) (by decide) rfl (fun ls hl => ?_)
      refine lv_goto (tgt := 2) hx hb dX12_copy_18 (by decide) ?_
      have hg2 : ∀ k, k < i + 1 → g_91254 k = g0 k := by rw [eg_91254, ex, nI_clamp hi31]; exact cpStep hg
      have ex2 : x_91256 = nI (i + 1) := by rw [ex_91256, ex]; exact nI_1 i
      exact ih (i + 1) _ _ _ _ _ _ hin2 ex2 hk p_a p_b hg2 Y hl
  exact loop 10568 0 _ _ _ _ _ 0 rfl rfl hk p_a p_b (fun k hk => absurd hk (Nat.not_lt_zero k)) Y hl
set_option maxHeartbeats 4000000 in
set_option maxRecDepth 100000 in
theorem c_X12_init {l : Launch} {G : GG} {L : List Nat} {f : HF} {h : Nat}  (p_h : pt L f h (.inr (12, [.null, .null, .null, .null, .int 0, .int 0, .int 0, .int 0, .int 0, .int 0, .int 0, .long 0, .int 0, .int 0, .int 0, .null, .null, .int 0, .int 0, .int 0, .int 0, .int 0, .null, .null, .null, .int 0, .null, .null, .null, .null, .int 0, .null])))  : PMv l yX12_init cX12_init 1 1 14 25415 G [.ref h] L f (fun L1 f1 => ∃ m0 : Nat, ∃ m1 : Nat, ∃ m2 : Nat, ∃ m3 : Nat, ∃ m15 : Nat, ∃ m16 : Nat, ∃ m22 : Nat, ∃ m23 : Nat, ∃ m24 : Nat, ∃ m26 : Nat, ∃ m27 : Nat, ∃ m28 : Nat, ∃ m29 : Nat, ∃ m31 : Nat, ∃ gi : Nat → Int32, kp L f L1 f1 [h] ∧ pt L1 f1 h (.inr (12, [.ref m0, .ref m1, .ref m2, .ref m3, .int 0, .int (-1), .int (-1), .int 0, .int 0, .int 0, .int 0, .long 0, .int 0, .int 0, .int 0, .ref m15, .ref m16, .int 0, .int 0, .int 0, .int 0, .int 0, .ref m22, .ref m23, .ref m24, .int 1, .ref m26, .ref m27, .ref m28, .ref m29, .int 0, .ref m31])) ∧ pt L1 f1 m0 (.inl (G.2 0, 10568, .inl a0m)) ∧ pt L1 f1 m1 (.inl (G.2 0, 10568, .inl gi)) ∧ pt L1 f1 m2 (.inl (G.2 0, 2916, .inl (fun _ => 0))) ∧ pt L1 f1 m3 (.inl (G.2 0, 300, .inl (fun _ => 0))) ∧ pt L1 f1 m15 (.inl (G.2 0, 160, .inl (fun _ => 0))) ∧ pt L1 f1 m16 (.inl (G.2 0, 9, .inl (fun _ => 0))) ∧ pt L1 f1 m22 (.inl (G.2 0, 10, .inl (fun _ => 0))) ∧ pt L1 f1 m23 (.inl (G.2 1, 330, .inr (.inl (fun _ => 0)))) ∧ pt L1 f1 m24 (.inl (G.2 2, 330, .inl (fun _ => 0))) ∧ pt L1 f1 m26 (.inl (G.2 0, 6, .inl (fun _ => 0))) ∧ pt L1 f1 m27 (.inl (G.2 0, 114, .inl (fun _ => 0))) ∧ pt L1 f1 m28 (.inl (G.2 0, 84, .inl (fun _ => 0))) ∧ pt L1 f1 m29 (.inl (G.2 0, 14, .inl (fun _ => 0))) ∧ pt L1 f1 m31 (.inl (G.2 0, 6, .inl (fun _ => 0))) ∧ m0 ≠ m1 ∧ m26 ≠ m31 ∧ ∀ k, k < 10568 → gi k = a0m k) := by
  refine PMv.of (post := fun L1 f1 => ∃ m0 : Nat, ∃ m1 : Nat, ∃ m2 : Nat, ∃ m3 : Nat, ∃ m15 : Nat, ∃ m16 : Nat, ∃ m22 : Nat, ∃ m23 : Nat, ∃ m24 : Nat, ∃ m26 : Nat, ∃ m27 : Nat, ∃ m28 : Nat, ∃ m29 : Nat, ∃ m31 : Nat, ∃ gi : Nat → Int32, kp L f L1 f1 [h] ∧ pt L1 f1 h (.inr (12, [.ref m0, .ref m1, .ref m2, .ref m3, .int 0, .int (-1), .int (-1), .int 0, .int 0, .int 0, .int 0, .long 0, .int 0, .int 0, .int 0, .ref m15, .ref m16, .int 0, .int 0, .int 0, .int 0, .int 0, .ref m22, .ref m23, .ref m24, .int 1, .ref m26, .ref m27, .ref m28, .ref m29, .int 0, .ref m31])) ∧ pt L1 f1 m0 (.inl (G.2 0, 10568, .inl a0m)) ∧ pt L1 f1 m1 (.inl (G.2 0, 10568, .inl gi)) ∧ pt L1 f1 m2 (.inl (G.2 0, 2916, .inl (fun _ => 0))) ∧ pt L1 f1 m3 (.inl (G.2 0, 300, .inl (fun _ => 0))) ∧ pt L1 f1 m15 (.inl (G.2 0, 160, .inl (fun _ => 0))) ∧ pt L1 f1 m16 (.inl (G.2 0, 9, .inl (fun _ => 0))) ∧ pt L1 f1 m22 (.inl (G.2 0, 10, .inl (fun _ => 0))) ∧ pt L1 f1 m23 (.inl (G.2 1, 330, .inr (.inl (fun _ => 0)))) ∧ pt L1 f1 m24 (.inl (G.2 2, 330, .inl (fun _ => 0))) ∧ pt L1 f1 m26 (.inl (G.2 0, 6, .inl (fun _ => 0))) ∧ pt L1 f1 m27 (.inl (G.2 0, 114, .inl (fun _ => 0))) ∧ pt L1 f1 m28 (.inl (G.2 0, 84, .inl (fun _ => 0))) ∧ pt L1 f1 m29 (.inl (G.2 0, 14, .inl (fun _ => 0))) ∧ pt L1 f1 m31 (.inl (G.2 0, 6, .inl (fun _ => 0))) ∧ m0 ≠ m1 ∧ m26 ≠ m31 ∧ ∀ k, k < 10568 → gi k = a0m k) (own := RX12) (by decide) rfl (Nat.le_of_ble_eq_true rfl) (fun sz p e s m args below meth c A ls hA1 hname S Y hl => ?_)
  have hx := S.hx
  have hb := S.hb
  have hl : lv_has ls 1 [(0, .ref h)] := hl
  have hk : kp L f L f [h] := kp.rf
  refine lv_aload_n hx hb dX12_init_0 rfl (lv_at hl 0 rfl) ?_
  refine pObj S km12_1 kObj1m kObj2m hl.1 (Nat.le_of_ble_eq_true rfl) (Nat.le_of_ble_eq_true rfl) dX12_init_1 ?_
  refine lv_aload_n hx hb dX12_init_4 rfl (lv_at hl 0 rfl) ?_
  refine lv_sipush (v := 10568) hx hb dX12_init_5 (by decide) ?_
  refine pg_newa S Y (ty := .int) rfl 0 rfl ka_intm (N' := 10568) (10568, .inl (fun _ => 0)) (fun _ => rfl) (by decide) (by decide) (by decide) (by decide) (by decide) dX12_init_8 (fun q_91257 f_91258 H nq_91257 ef_91258 Y => ?_)
  have whkq_91257 := hk.notin nq_91257
  have hk := hk.push ef_91258 nq_91257
  have p_h := p_h.push ef_91258 nq_91257
  have p_q_91257 := pt.new (L := L) ef_91258
  refine pg_putF S Y hname ok_X12 0 (by decide) kf12_7 rfl rfl (fs' := [.ref q_91257, .null, .null, .null, .int 0, .int 0, .int 0, .int 0, .int 0, .int 0, .int 0, .long 0, .int 0, .int 0, .int 0, .null, .null, .int 0, .int 0, .int 0, .int 0, .int 0, .null, .null, .null, .int 0, .null, .null, .null, .null, .int 0, .null]) (v := .ref q_91257) p_h rfl rfl rfl (Nat.le_of_ble_eq_true rfl) dX12_init_10 (fun f_91259 H locs ef_91259 Y => ?_)
  have p_q_91257 := p_q_91257.up ef_91259 ((p_q_91257.neB p_h))
  have p_h := p_h.me ef_91259
  have hk := hk.up ef_91259 (by simp)
  refine lv_aload_n hx hb dX12_init_13 rfl (lv_at hl 0 rfl) ?_
  refine lv_sipush (v := 10568) hx hb dX12_init_14 (by decide) ?_
  refine pg_newa S Y (ty := .int) rfl 0 rfl ka_intm (N' := 10568) (10568, .inl (fun _ => 0)) (fun _ => rfl) (by decide) (by decide) (by decide) (by decide) (by decide) dX12_init_17 (fun q_91260 f_91261 H nq_91260 ef_91261 Y => ?_)
  have whkq_91260 := hk.notin nq_91260
  have hk := hk.push ef_91261 nq_91260
  have p_h := p_h.push ef_91261 nq_91260
  have dq_91257_q_91260 := p_q_91257.neQ nq_91260
  have p_q_91257 := p_q_91257.push ef_91261 nq_91260
  have p_q_91260 := pt.new (L := (L ++ [q_91257])) ef_91261
  refine pg_putF S Y hname ok_X12 1 (by decide) kf12_13 rfl rfl (fs' := [.ref q_91257, .ref q_91260, .null, .null, .int 0, .int 0, .int 0, .int 0, .int 0, .int 0, .int 0, .long 0, .int 0, .int 0, .int 0, .null, .null, .int 0, .int 0, .int 0, .int 0, .int 0, .null, .null, .null, .int 0, .null, .null, .null, .null, .int 0, .null]) (v := .ref q_91260) p_h rfl rfl rfl (Nat.le_of_ble_eq_true rfl) dX12_init_19 (fun f_91262 H locs ef_91262 Y => ?_)
  have p_q_91257 := p_q_91257.up ef_91262 ((p_q_91257.neB p_h))
  have p_q_91260 := p_q_91260.up ef_91262 ((p_q_91260.neB p_h))
  have p_h := p_h.me ef_91262
  have hk := hk.up ef_91262 (by simp)
  refine lv_aload_n hx hb dX12_init_22 rfl (lv_at hl 0 rfl) ?_
  refine lv_sipush (v := 2916) hx hb dX12_init_23 (by decide) ?_
  refine pg_newa S Y (ty := .int) rfl 0 rfl ka_intm (N' := 2916) (2916, .inl (fun _ => 0)) (fun _ => rfl) (by decide) (by decide) (by decide) (by decide) (by decide) dX12_init_26 (fun q_91263 f_91264 H nq_91263 ef_91264 Y => ?_)
  have whkq_91263 := hk.notin nq_91263
  have hk := hk.push ef_91264 nq_91263
  have p_h := p_h.push ef_91264 nq_91263
  have p_q_91257 := p_q_91257.push ef_91264 nq_91263
  have p_q_91260 := p_q_91260.push ef_91264 nq_91263
  have p_q_91263 := pt.new (L := ((L ++ [q_91257]) ++ [q_91260])) ef_91264
  refine pg_putF S Y hname ok_X12 2 (by decide) kf12_16 rfl rfl (fs' := [.ref q_91257, .ref q_91260, .ref q_91263, .null, .int 0, .int 0, .int 0, .int 0, .int 0, .int 0, .int 0, .long 0, .int 0, .int 0, .int 0, .null, .null, .int 0, .int 0, .int 0, .int 0, .int 0, .null, .null, .null, .int 0, .null, .null, .null, .null, .int 0, .null]) (v := .ref q_91263) p_h rfl rfl rfl (Nat.le_of_ble_eq_true rfl) dX12_init_28 (fun f_91265 H locs ef_91265 Y => ?_)
  have p_q_91257 := p_q_91257.up ef_91265 ((p_q_91257.neB p_h))
  have p_q_91260 := p_q_91260.up ef_91265 ((p_q_91260.neB p_h))
  have p_q_91263 := p_q_91263.up ef_91265 ((p_q_91263.neB p_h))
  have p_h := p_h.me ef_91265
  have hk := hk.up ef_91265 (by simp)
  refine lv_aload_n hx hb dX12_init_31 rfl (lv_at hl 0 rfl) ?_
  refine lv_sipush (v := 300) hx hb dX12_init_32 (by decide) ?_
  refine pg_newa S Y (ty := .int) rfl 0 rfl ka_intm (N' := 300) (300, .inl (fun _ => 0)) (fun _ => rfl) (by decide) (by decide) (by decide) (by decide) (by decide) dX12_init_35 (fun q_91266 f_91267 H nq_91266 ef_91267 Y => ?_)
  have whkq_91266 := hk.notin nq_91266
  have hk := hk.push ef_91267 nq_91266
  have p_h := p_h.push ef_91267 nq_91266
  have p_q_91257 := p_q_91257.push ef_91267 nq_91266
  have p_q_91260 := p_q_91260.push ef_91267 nq_91266
  have p_q_91263 := p_q_91263.push ef_91267 nq_91266
  have p_q_91266 := pt.new (L := (((L ++ [q_91257]) ++ [q_91260]) ++ [q_91263])) ef_91267
  refine pg_putF S Y hname ok_X12 3 (by decide) kf12_19 rfl rfl (fs' := [.ref q_91257, .ref q_91260, .ref q_91263, .ref q_91266, .int 0, .int 0, .int 0, .int 0, .int 0, .int 0, .int 0, .long 0, .int 0, .int 0, .int 0, .null, .null, .int 0, .int 0, .int 0, .int 0, .int 0, .null, .null, .null, .int 0, .null, .null, .null, .null, .int 0, .null]) (v := .ref q_91266) p_h rfl rfl rfl (Nat.le_of_ble_eq_true rfl) dX12_init_37 (fun f_91268 H locs ef_91268 Y => ?_)
  have p_q_91257 := p_q_91257.up ef_91268 ((p_q_91257.neB p_h))
  have p_q_91260 := p_q_91260.up ef_91268 ((p_q_91260.neB p_h))
  have p_q_91263 := p_q_91263.up ef_91268 ((p_q_91263.neB p_h))
  have p_q_91266 := p_q_91266.up ef_91268 ((p_q_91266.neB p_h))
  have p_h := p_h.me ef_91268
  have hk := hk.up ef_91268 (by simp)
  refine lv_aload_n hx hb dX12_init_40 rfl (lv_at hl 0 rfl) ?_
  refine lv_iconst (v := (-1)) hx hb dX12_init_41 (by decide) ?_
  refine pg_put S Y ok_X12 5 (by decide) kf12_22 rfl (fs' := [.ref q_91257, .ref q_91260, .ref q_91263, .ref q_91266, .int 0, .int (-1), .int 0, .int 0, .int 0, .int 0, .int 0, .long 0, .int 0, .int 0, .int 0, .null, .null, .int 0, .int 0, .int 0, .int 0, .int 0, .null, .null, .null, .int 0, .null, .null, .null, .null, .int 0, .null]) (v := .int (-1)) p_h rfl rfl rfl (Nat.le_of_ble_eq_true rfl) dX12_init_42 (fun f_91269 H locs ef_91269 Y => ?_)
  have p_q_91257 := p_q_91257.up ef_91269 ((p_q_91257.neB p_h))
  have p_q_91260 := p_q_91260.up ef_91269 ((p_q_91260.neB p_h))
  have p_q_91263 := p_q_91263.up ef_91269 ((p_q_91263.neB p_h))
  have p_q_91266 := p_q_91266.up ef_91269 ((p_q_91266.neB p_h))
  have p_h := p_h.me ef_91269
  have hk := hk.up ef_91269 (by simp)
  refine lv_aload_n hx hb dX12_init_45 rfl (lv_at hl 0 rfl) ?_
  refine lv_iconst (v := (-1)) hx hb dX12_init_46 (by decide) ?_
  refine pg_put S Y ok_X12 6 (by decide) kf12_26 rfl (fs' := [.ref q_91257, .ref q_91260, .ref q_91263, .ref q_91266, .int 0, .int (-1), .int (-1), .int 0, .int 0, .int 0, .int 0, .long 0, .int 0, .int 0, .int 0, .null, .null, .int 0, .int 0, .int 0, .int 0, .int 0, .null, .null, .null, .int 0, .null, .null, .null, .null, .int 0, .null]) (v := .int (-1)) p_h rfl rfl rfl (Nat.le_of_ble_eq_true rfl) dX12_init_47 (fun f_91270 H locs ef_91270 Y => ?_)
  have p_q_91257 := p_q_91257.up ef_91270 ((p_q_91257.neB p_h))
  have p_q_91260 := p_q_91260.up ef_91270 ((p_q_91260.neB p_h))
  have p_q_91263 := p_q_91263.up ef_91270 ((p_q_91263.neB p_h))
  have p_q_91266 := p_q_91266.up ef_91270 ((p_q_91266.neB p_h))
  have p_h := p_h.me ef_91270
  have hk := hk.up ef_91270 (by simp)
  refine lv_aload_n hx hb dX12_init_50 rfl (lv_at hl 0 rfl) ?_
  refine lv_sipush (v := 160) hx hb dX12_init_51 (by decide) ?_
  refine pg_newa S Y (ty := .int) rfl 0 rfl ka_intm (N' := 160) (160, .inl (fun _ => 0)) (fun _ => rfl) (by decide) (by decide) (by decide) (by decide) (by decide) dX12_init_54 (fun q_91271 f_91272 H nq_91271 ef_91272 Y => ?_)
  have whkq_91271 := hk.notin nq_91271
  have hk := hk.push ef_91272 nq_91271
  have p_h := p_h.push ef_91272 nq_91271
  have p_q_91257 := p_q_91257.push ef_91272 nq_91271
  have p_q_91260 := p_q_91260.push ef_91272 nq_91271
  have p_q_91263 := p_q_91263.push ef_91272 nq_91271
  have p_q_91266 := p_q_91266.push ef_91272 nq_91271
  have p_q_91271 := pt.new (L := ((((L ++ [q_91257]) ++ [q_91260]) ++ [q_91263]) ++ [q_91266])) ef_91272
  refine pg_putF S Y hname ok_X12 15 (by decide) kf12_29 rfl rfl (fs' := [.ref q_91257, .ref q_91260, .ref q_91263, .ref q_91266, .int 0, .int (-1), .int (-1), .int 0, .int 0, .int 0, .int 0, .long 0, .int 0, .int 0, .int 0, .ref q_91271, .null, .int 0, .int 0, .int 0, .int 0, .int 0, .null, .null, .null, .int 0, .null, .null, .null, .null, .int 0, .null]) (v := .ref q_91271) p_h rfl rfl rfl (Nat.le_of_ble_eq_true rfl) dX12_init_56 (fun f_91273 H locs ef_91273 Y => ?_)
  have p_q_91257 := p_q_91257.up ef_91273 ((p_q_91257.neB p_h))
  have p_q_91260 := p_q_91260.up ef_91273 ((p_q_91260.neB p_h))
  have p_q_91263 := p_q_91263.up ef_91273 ((p_q_91263.neB p_h))
  have p_q_91266 := p_q_91266.up ef_91273 ((p_q_91266.neB p_h))
  have p_q_91271 := p_q_91271.up ef_91273 ((p_q_91271.neB p_h))
  have p_h := p_h.me ef_91273
  have hk := hk.up ef_91273 (by simp)
  refine lv_aload_n hx hb dX12_init_59 rfl (lv_at hl 0 rfl) ?_
  refine lv_bipush (v := 9) hx hb dX12_init_60 (by decide) ?_
  refine pg_newa S Y (ty := .int) rfl 0 rfl ka_intm (N' := 9) (9, .inl (fun _ => 0)) (fun _ => rfl) (by decide) (by decide) (by decide) (by decide) (by decide) dX12_init_62 (fun q_91274 f_91275 H nq_91274 ef_91275 Y => ?_)
  have whkq_91274 := hk.notin nq_91274
  have hk := hk.push ef_91275 nq_91274
  have p_h := p_h.push ef_91275 nq_91274
  have p_q_91257 := p_q_91257.push ef_91275 nq_91274
  have p_q_91260 := p_q_91260.push ef_91275 nq_91274
  have p_q_91263 := p_q_91263.push ef_91275 nq_91274
  have p_q_91266 := p_q_91266.push ef_91275 nq_91274
  have p_q_91271 := p_q_91271.push ef_91275 nq_91274
  have p_q_91274 := pt.new (L := (((((L ++ [q_91257]) ++ [q_91260]) ++ [q_91263]) ++ [q_91266]) ++ [q_91271])) ef_91275
  refine pg_putF S Y hname ok_X12 16 (by decide) kf12_32 rfl rfl (fs' := [.ref q_91257, .ref q_91260, .ref q_91263, .ref q_91266, .int 0, .int (-1), .int (-1), .int 0, .int 0, .int 0, .int 0, .long 0, .int 0, .int 0, .int 0, .ref q_91271, .ref q_91274, .int 0, .int 0, .int 0, .int 0, .int 0, .null, .null, .null, .int 0, .null, .null, .null, .null, .int 0, .null]) (v := .ref q_91274) p_h rfl rfl rfl (Nat.le_of_ble_eq_true rfl) dX12_init_64 (fun f_91276 H locs ef_91276 Y => ?_)
  have p_q_91257 := p_q_91257.up ef_91276 ((p_q_91257.neB p_h))
  have p_q_91260 := p_q_91260.up ef_91276 ((p_q_91260.neB p_h))
  have p_q_91263 := p_q_91263.up ef_91276 ((p_q_91263.neB p_h))
  have p_q_91266 := p_q_91266.up ef_91276 ((p_q_91266.neB p_h))
  have p_q_91271 := p_q_91271.up ef_91276 ((p_q_91271.neB p_h))
  have p_q_91274 := p_q_91274.up ef_91276 ((p_q_91274.neB p_h))
  have p_h := p_h.me ef_91276
  have hk := hk.up ef_91276 (by simp)
  refine lv_aload_n hx hb dX12_init_67 rfl (lv_at hl 0 rfl) ?_
  refine lv_bipush (v := 10) hx hb dX12_init_68 (by decide) ?_
  refine pg_newa S Y (ty := .int) rfl 0 rfl ka_intm (N' := 10) (10, .inl (fun _ => 0)) (fun _ => rfl) (by decide) (by decide) (by decide) (by decide) (by decide) dX12_init_70 (fun q_91277 f_91278 H nq_91277 ef_91278 Y => ?_)
  have whkq_91277 := hk.notin nq_91277
  have hk := hk.push ef_91278 nq_91277
  have p_h := p_h.push ef_91278 nq_91277
  have p_q_91257 := p_q_91257.push ef_91278 nq_91277
  have p_q_91260 := p_q_91260.push ef_91278 nq_91277
  have p_q_91263 := p_q_91263.push ef_91278 nq_91277
  have p_q_91266 := p_q_91266.push ef_91278 nq_91277
  have p_q_91271 := p_q_91271.push ef_91278 nq_91277
  have p_q_91274 := p_q_91274.push ef_91278 nq_91277
  have p_q_91277 := pt.new (L := ((((((L ++ [q_91257]) ++ [q_91260]) ++ [q_91263]) ++ [q_91266]) ++ [q_91271]) ++ [q_91274])) ef_91278
  refine pg_putF S Y hname ok_X12 22 (by decide) kf12_35 rfl rfl (fs' := [.ref q_91257, .ref q_91260, .ref q_91263, .ref q_91266, .int 0, .int (-1), .int (-1), .int 0, .int 0, .int 0, .int 0, .long 0, .int 0, .int 0, .int 0, .ref q_91271, .ref q_91274, .int 0, .int 0, .int 0, .int 0, .int 0, .ref q_91277, .null, .null, .int 0, .null, .null, .null, .null, .int 0, .null]) (v := .ref q_91277) p_h rfl rfl rfl (Nat.le_of_ble_eq_true rfl) dX12_init_72 (fun f_91279 H locs ef_91279 Y => ?_)
  have p_q_91257 := p_q_91257.up ef_91279 ((p_q_91257.neB p_h))
  have p_q_91260 := p_q_91260.up ef_91279 ((p_q_91260.neB p_h))
  have p_q_91263 := p_q_91263.up ef_91279 ((p_q_91263.neB p_h))
  have p_q_91266 := p_q_91266.up ef_91279 ((p_q_91266.neB p_h))
  have p_q_91271 := p_q_91271.up ef_91279 ((p_q_91271.neB p_h))
  have p_q_91274 := p_q_91274.up ef_91279 ((p_q_91274.neB p_h))
  have p_q_91277 := p_q_91277.up ef_91279 ((p_q_91277.neB p_h))
  have p_h := p_h.me ef_91279
  have hk := hk.up ef_91279 (by simp)
  refine lv_aload_n hx hb dX12_init_75 rfl (lv_at hl 0 rfl) ?_
  refine lv_sipush (v := 330) hx hb dX12_init_76 (by decide) ?_
  refine pg_newa S Y (ty := .long) rfl 1 rfl ka_long (N' := 330) (330, .inr (.inl (fun _ => 0))) (fun _ => rfl) (by decide) (by decide) (by decide) (by decide) (by decide) dX12_init_79 (fun q_91280 f_91281 H nq_91280 ef_91281 Y => ?_)
  have whkq_91280 := hk.notin nq_91280
  have hk := hk.push ef_91281 nq_91280
  have p_h := p_h.push ef_91281 nq_91280
  have p_q_91257 := p_q_91257.push ef_91281 nq_91280
  have p_q_91260 := p_q_91260.push ef_91281 nq_91280
  have p_q_91263 := p_q_91263.push ef_91281 nq_91280
  have p_q_91266 := p_q_91266.push ef_91281 nq_91280
  have p_q_91271 := p_q_91271.push ef_91281 nq_91280
  have p_q_91274 := p_q_91274.push ef_91281 nq_91280
  have p_q_91277 := p_q_91277.push ef_91281 nq_91280
  have p_q_91280 := pt.new (L := (((((((L ++ [q_91257]) ++ [q_91260]) ++ [q_91263]) ++ [q_91266]) ++ [q_91271]) ++ [q_91274]) ++ [q_91277])) ef_91281
  refine pg_putF S Y hname ok_X12 23 (by decide) kf12_38 rfl rfl (fs' := [.ref q_91257, .ref q_91260, .ref q_91263, .ref q_91266, .int 0, .int (-1), .int (-1), .int 0, .int 0, .int 0, .int 0, .long 0, .int 0, .int 0, .int 0, .ref q_91271, .ref q_91274, .int 0, .int 0, .int 0, .int 0, .int 0, .ref q_91277, .ref q_91280, .null, .int 0, .null, .null, .null, .null, .int 0, .null]) (v := .ref q_91280) p_h rfl rfl rfl (Nat.le_of_ble_eq_true rfl) dX12_init_81 (fun f_91282 H locs ef_91282 Y => ?_)
  have p_q_91257 := p_q_91257.up ef_91282 ((p_q_91257.neB p_h))
  have p_q_91260 := p_q_91260.up ef_91282 ((p_q_91260.neB p_h))
  have p_q_91263 := p_q_91263.up ef_91282 ((p_q_91263.neB p_h))
  have p_q_91266 := p_q_91266.up ef_91282 ((p_q_91266.neB p_h))
  have p_q_91271 := p_q_91271.up ef_91282 ((p_q_91271.neB p_h))
  have p_q_91274 := p_q_91274.up ef_91282 ((p_q_91274.neB p_h))
  have p_q_91277 := p_q_91277.up ef_91282 ((p_q_91277.neB p_h))
  have p_q_91280 := p_q_91280.up ef_91282 ((p_q_91280.neB p_h))
  have p_h := p_h.me ef_91282
  have hk := hk.up ef_91282 (by simp)
  refine lv_aload_n hx hb dX12_init_84 rfl (lv_at hl 0 rfl) ?_
  refine lv_sipush (v := 330) hx hb dX12_init_85 (by decide) ?_
  refine pg_newa S Y (ty := .boolean) rfl 2 rfl ka_boolean (N' := 330) (330, .inl (fun _ => 0)) (fun _ => rfl) (by decide) (by decide) (by decide) (by decide) (by decide) dX12_init_88 (fun q_91283 f_91284 H nq_91283 ef_91284 Y => ?_)
  have whkq_91283 := hk.notin nq_91283
  have hk := hk.push ef_91284 nq_91283
  have p_h := p_h.push ef_91284 nq_91283
  have p_q_91257 := p_q_91257.push ef_91284 nq_91283
  have p_q_91260 := p_q_91260.push ef_91284 nq_91283
  have p_q_91263 := p_q_91263.push ef_91284 nq_91283
  have p_q_91266 := p_q_91266.push ef_91284 nq_91283
  have p_q_91271 := p_q_91271.push ef_91284 nq_91283
  have p_q_91274 := p_q_91274.push ef_91284 nq_91283
  have p_q_91277 := p_q_91277.push ef_91284 nq_91283
  have dq_91280_q_91283 := p_q_91280.neQ nq_91283
  have p_q_91280 := p_q_91280.push ef_91284 nq_91283
  have p_q_91283 := pt.new (L := ((((((((L ++ [q_91257]) ++ [q_91260]) ++ [q_91263]) ++ [q_91266]) ++ [q_91271]) ++ [q_91274]) ++ [q_91277]) ++ [q_91280])) ef_91284
  refine pg_putF S Y hname ok_X12 24 (by decide) kf12_42 rfl rfl (fs' := [.ref q_91257, .ref q_91260, .ref q_91263, .ref q_91266, .int 0, .int (-1), .int (-1), .int 0, .int 0, .int 0, .int 0, .long 0, .int 0, .int 0, .int 0, .ref q_91271, .ref q_91274, .int 0, .int 0, .int 0, .int 0, .int 0, .ref q_91277, .ref q_91280, .ref q_91283, .int 0, .null, .null, .null, .null, .int 0, .null]) (v := .ref q_91283) p_h rfl rfl rfl (Nat.le_of_ble_eq_true rfl) dX12_init_90 (fun f_91285 H locs ef_91285 Y => ?_)
  have p_q_91257 := p_q_91257.up ef_91285 ((p_q_91257.neB p_h))
  have p_q_91260 := p_q_91260.up ef_91285 ((p_q_91260.neB p_h))
  have p_q_91263 := p_q_91263.up ef_91285 ((p_q_91263.neB p_h))
  have p_q_91266 := p_q_91266.up ef_91285 ((p_q_91266.neB p_h))
  have p_q_91271 := p_q_91271.up ef_91285 ((p_q_91271.neB p_h))
  have p_q_91274 := p_q_91274.up ef_91285 ((p_q_91274.neB p_h))
  have p_q_91277 := p_q_91277.up ef_91285 ((p_q_91277.neB p_h))
  have p_q_91280 := p_q_91280.up ef_91285 ((p_q_91280.neB p_h))
  have p_q_91283 := p_q_91283.up ef_91285 ((p_q_91283.neB p_h))
  have p_h := p_h.me ef_91285
  have hk := hk.up ef_91285 (by simp)
  refine lv_aload_n hx hb dX12_init_93 rfl (lv_at hl 0 rfl) ?_
  refine lv_iconst (v := 1) hx hb dX12_init_94 (by decide) ?_
  refine pg_put S Y ok_X12 25 (by decide) kf12_46 rfl (fs' := [.ref q_91257, .ref q_91260, .ref q_91263, .ref q_91266, .int 0, .int (-1), .int (-1), .int 0, .int 0, .int 0, .int 0, .long 0, .int 0, .int 0, .int 0, .ref q_91271, .ref q_91274, .int 0, .int 0, .int 0, .int 0, .int 0, .ref q_91277, .ref q_91280, .ref q_91283, .int 1, .null, .null, .null, .null, .int 0, .null]) (v := .int 1) p_h rfl rfl rfl (Nat.le_of_ble_eq_true rfl) dX12_init_95 (fun f_91286 H locs ef_91286 Y => ?_)
  have p_q_91257 := p_q_91257.up ef_91286 ((p_q_91257.neB p_h))
  have p_q_91260 := p_q_91260.up ef_91286 ((p_q_91260.neB p_h))
  have p_q_91263 := p_q_91263.up ef_91286 ((p_q_91263.neB p_h))
  have p_q_91266 := p_q_91266.up ef_91286 ((p_q_91266.neB p_h))
  have p_q_91271 := p_q_91271.up ef_91286 ((p_q_91271.neB p_h))
  have p_q_91274 := p_q_91274.up ef_91286 ((p_q_91274.neB p_h))
  have p_q_91277 := p_q_91277.up ef_91286 ((p_q_91277.neB p_h))
  have p_q_91280 := p_q_91280.up ef_91286 ((p_q_91280.neB p_h))
  have p_q_91283 := p_q_91283.up ef_91286 ((p_q_91283.neB p_h))
  have p_h := p_h.me ef_91286
  have hk := hk.up ef_91286 (by simp)
  refine lv_aload_n hx hb dX12_init_98 rfl (lv_at hl 0 rfl) ?_
  refine lv_bipush (v := 6) hx hb dX12_init_99 (by decide) ?_
  refine pg_newa S Y (ty := .int) rfl 0 rfl ka_intm (N' := 6) (6, .inl (fun _ => 0)) (fun _ => rfl) (by decide) (by decide) (by decide) (by decide) (by decide) dX12_init_101 (fun q_91287 f_91288 H nq_91287 ef_91288 Y => ?_)
  have whkq_91287 := hk.notin nq_91287
  have hk := hk.push ef_91288 nq_91287
  have p_h := p_h.push ef_91288 nq_91287
  have p_q_91257 := p_q_91257.push ef_91288 nq_91287
  have p_q_91260 := p_q_91260.push ef_91288 nq_91287
  have p_q_91263 := p_q_91263.push ef_91288 nq_91287
  have p_q_91266 := p_q_91266.push ef_91288 nq_91287
  have p_q_91271 := p_q_91271.push ef_91288 nq_91287
  have p_q_91274 := p_q_91274.push ef_91288 nq_91287
  have p_q_91277 := p_q_91277.push ef_91288 nq_91287
  have p_q_91280 := p_q_91280.push ef_91288 nq_91287
  have p_q_91283 := p_q_91283.push ef_91288 nq_91287
  have p_q_91287 := pt.new (L := (((((((((L ++ [q_91257]) ++ [q_91260]) ++ [q_91263]) ++ [q_91266]) ++ [q_91271]) ++ [q_91274]) ++ [q_91277]) ++ [q_91280]) ++ [q_91283])) ef_91288
  refine pg_putF S Y hname ok_X12 26 (by decide) kf12_50 rfl rfl (fs' := [.ref q_91257, .ref q_91260, .ref q_91263, .ref q_91266, .int 0, .int (-1), .int (-1), .int 0, .int 0, .int 0, .int 0, .long 0, .int 0, .int 0, .int 0, .ref q_91271, .ref q_91274, .int 0, .int 0, .int 0, .int 0, .int 0, .ref q_91277, .ref q_91280, .ref q_91283, .int 1, .ref q_91287, .null, .null, .null, .int 0, .null]) (v := .ref q_91287) p_h rfl rfl rfl (Nat.le_of_ble_eq_true rfl) dX12_init_103 (fun f_91289 H locs ef_91289 Y => ?_)
  have p_q_91257 := p_q_91257.up ef_91289 ((p_q_91257.neB p_h))
  have p_q_91260 := p_q_91260.up ef_91289 ((p_q_91260.neB p_h))
  have p_q_91263 := p_q_91263.up ef_91289 ((p_q_91263.neB p_h))
  have p_q_91266 := p_q_91266.up ef_91289 ((p_q_91266.neB p_h))
  have p_q_91271 := p_q_91271.up ef_91289 ((p_q_91271.neB p_h))
  have p_q_91274 := p_q_91274.up ef_91289 ((p_q_91274.neB p_h))
  have p_q_91277 := p_q_91277.up ef_91289 ((p_q_91277.neB p_h))
  have p_q_91280 := p_q_91280.up ef_91289 ((p_q_91280.neB p_h))
  have p_q_91283 := p_q_91283.up ef_91289 ((p_q_91283.neB p_h))
  have p_q_91287 := p_q_91287.up ef_91289 ((p_q_91287.neB p_h))
  have p_h := p_h.me ef_91289
  have hk := hk.up ef_91289 (by simp)
  refine lv_aload_n hx hb dX12_init_106 rfl (lv_at hl 0 rfl) ?_
  refine lv_bipush (v := 114) hx hb dX12_init_107 (by decide) ?_
  refine pg_newa S Y (ty := .int) rfl 0 rfl ka_intm (N' := 114) (114, .inl (fun _ => 0)) (fun _ => rfl) (by decide) (by decide) (by decide) (by decide) (by decide) dX12_init_109 (fun q_91290 f_91291 H nq_91290 ef_91291 Y => ?_)
  have whkq_91290 := hk.notin nq_91290
  have hk := hk.push ef_91291 nq_91290
  have p_h := p_h.push ef_91291 nq_91290
  have p_q_91257 := p_q_91257.push ef_91291 nq_91290
  have p_q_91260 := p_q_91260.push ef_91291 nq_91290
  have p_q_91263 := p_q_91263.push ef_91291 nq_91290
  have p_q_91266 := p_q_91266.push ef_91291 nq_91290
  have p_q_91271 := p_q_91271.push ef_91291 nq_91290
  have p_q_91274 := p_q_91274.push ef_91291 nq_91290
  have p_q_91277 := p_q_91277.push ef_91291 nq_91290
  have p_q_91280 := p_q_91280.push ef_91291 nq_91290
  have p_q_91283 := p_q_91283.push ef_91291 nq_91290
  have p_q_91287 := p_q_91287.push ef_91291 nq_91290
  have p_q_91290 := pt.new (L := ((((((((((L ++ [q_91257]) ++ [q_91260]) ++ [q_91263]) ++ [q_91266]) ++ [q_91271]) ++ [q_91274]) ++ [q_91277]) ++ [q_91280]) ++ [q_91283]) ++ [q_91287])) ef_91291
  refine pg_putF S Y hname ok_X12 27 (by decide) kf12_53 rfl rfl (fs' := [.ref q_91257, .ref q_91260, .ref q_91263, .ref q_91266, .int 0, .int (-1), .int (-1), .int 0, .int 0, .int 0, .int 0, .long 0, .int 0, .int 0, .int 0, .ref q_91271, .ref q_91274, .int 0, .int 0, .int 0, .int 0, .int 0, .ref q_91277, .ref q_91280, .ref q_91283, .int 1, .ref q_91287, .ref q_91290, .null, .null, .int 0, .null]) (v := .ref q_91290) p_h rfl rfl rfl (Nat.le_of_ble_eq_true rfl) dX12_init_111 (fun f_91292 H locs ef_91292 Y => ?_)
  have p_q_91257 := p_q_91257.up ef_91292 ((p_q_91257.neB p_h))
  have p_q_91260 := p_q_91260.up ef_91292 ((p_q_91260.neB p_h))
  have p_q_91263 := p_q_91263.up ef_91292 ((p_q_91263.neB p_h))
  have p_q_91266 := p_q_91266.up ef_91292 ((p_q_91266.neB p_h))
  have p_q_91271 := p_q_91271.up ef_91292 ((p_q_91271.neB p_h))
  have p_q_91274 := p_q_91274.up ef_91292 ((p_q_91274.neB p_h))
  have p_q_91277 := p_q_91277.up ef_91292 ((p_q_91277.neB p_h))
  have p_q_91280 := p_q_91280.up ef_91292 ((p_q_91280.neB p_h))
  have p_q_91283 := p_q_91283.up ef_91292 ((p_q_91283.neB p_h))
  have p_q_91287 := p_q_91287.up ef_91292 ((p_q_91287.neB p_h))
  have p_q_91290 := p_q_91290.up ef_91292 ((p_q_91290.neB p_h))
  have p_h := p_h.me ef_91292
  have hk := hk.up ef_91292 (by simp)
  refine lv_aload_n hx hb dX12_init_114 rfl (lv_at hl 0 rfl) ?_
  refine lv_bipush (v := 84) hx hb dX12_init_115 (by decide) ?_
  refine pg_newa S Y (ty := .int) rfl 0 rfl ka_intm (N' := 84) (84, .inl (fun _ => 0)) (fun _ => rfl) (by decide) (by decide) (by decide) (by decide) (by decide) dX12_init_117 (fun q_91293 f_91294 H nq_91293 ef_91294 Y => ?_)
  have whkq_91293 := hk.notin nq_91293
  have hk := hk.push ef_91294 nq_91293
  have p_h := p_h.push ef_91294 nq_91293
  have p_q_91257 := p_q_91257.push ef_91294 nq_91293
  have p_q_91260 := p_q_91260.push ef_91294 nq_91293
  have p_q_91263 := p_q_91263.push ef_91294 nq_91293
  have p_q_91266 := p_q_91266.push ef_91294 nq_91293
  have p_q_91271 := p_q_91271.push ef_91294 nq_91293
  have p_q_91274 := p_q_91274.push ef_91294 nq_91293
  have p_q_91277 := p_q_91277.push ef_91294 nq_91293
  have p_q_91280 := p_q_91280.push ef_91294 nq_91293
  have p_q_91283 := p_q_91283.push ef_91294 nq_91293
  have p_q_91287 := p_q_91287.push ef_91294 nq_91293
  have p_q_91290 := p_q_91290.push ef_91294 nq_91293
  have p_q_91293 := pt.new (L := (((((((((((L ++ [q_91257]) ++ [q_91260]) ++ [q_91263]) ++ [q_91266]) ++ [q_91271]) ++ [q_91274]) ++ [q_91277]) ++ [q_91280]) ++ [q_91283]) ++ [q_91287]) ++ [q_91290])) ef_91294
  refine pg_putF S Y hname ok_X12 28 (by decide) kf12_56 rfl rfl (fs' := [.ref q_91257, .ref q_91260, .ref q_91263, .ref q_91266, .int 0, .int (-1), .int (-1), .int 0, .int 0, .int 0, .int 0, .long 0, .int 0, .int 0, .int 0, .ref q_91271, .ref q_91274, .int 0, .int 0, .int 0, .int 0, .int 0, .ref q_91277, .ref q_91280, .ref q_91283, .int 1, .ref q_91287, .ref q_91290, .ref q_91293, .null, .int 0, .null]) (v := .ref q_91293) p_h rfl rfl rfl (Nat.le_of_ble_eq_true rfl) dX12_init_119 (fun f_91295 H locs ef_91295 Y => ?_)
  have p_q_91257 := p_q_91257.up ef_91295 ((p_q_91257.neB p_h))
  have p_q_91260 := p_q_91260.up ef_91295 ((p_q_91260.neB p_h))
  have p_q_91263 := p_q_91263.up ef_91295 ((p_q_91263.neB p_h))
  have p_q_91266 := p_q_91266.up ef_91295 ((p_q_91266.neB p_h))
  have p_q_91271 := p_q_91271.up ef_91295 ((p_q_91271.neB p_h))
  have p_q_91274 := p_q_91274.up ef_91295 ((p_q_91274.neB p_h))
  have p_q_91277 := p_q_91277.up ef_91295 ((p_q_91277.neB p_h))
  have p_q_91280 := p_q_91280.up ef_91295 ((p_q_91280.neB p_h))
  have p_q_91283 := p_q_91283.up ef_91295 ((p_q_91283.neB p_h))
  have p_q_91287 := p_q_91287.up ef_91295 ((p_q_91287.neB p_h))
  have p_q_91290 := p_q_91290.up ef_91295 ((p_q_91290.neB p_h))
  have p_q_91293 := p_q_91293.up ef_91295 ((p_q_91293.neB p_h))
  have p_h := p_h.me ef_91295
  have hk := hk.up ef_91295 (by simp)
  refine lv_aload_n hx hb dX12_init_122 rfl (lv_at hl 0 rfl) ?_
  refine lv_bipush (v := 14) hx hb dX12_init_123 (by decide) ?_
  refine pg_newa S Y (ty := .int) rfl 0 rfl ka_intm (N' := 14) (14, .inl (fun _ => 0)) (fun _ => rfl) (by decide) (by decide) (by decide) (by decide) (by decide) dX12_init_125 (fun q_91296 f_91297 H nq_91296 ef_91297 Y => ?_)
  have whkq_91296 := hk.notin nq_91296
  have hk := hk.push ef_91297 nq_91296
  have p_h := p_h.push ef_91297 nq_91296
  have p_q_91257 := p_q_91257.push ef_91297 nq_91296
  have p_q_91260 := p_q_91260.push ef_91297 nq_91296
  have p_q_91263 := p_q_91263.push ef_91297 nq_91296
  have p_q_91266 := p_q_91266.push ef_91297 nq_91296
  have p_q_91271 := p_q_91271.push ef_91297 nq_91296
  have p_q_91274 := p_q_91274.push ef_91297 nq_91296
  have p_q_91277 := p_q_91277.push ef_91297 nq_91296
  have p_q_91280 := p_q_91280.push ef_91297 nq_91296
  have p_q_91283 := p_q_91283.push ef_91297 nq_91296
  have p_q_91287 := p_q_91287.push ef_91297 nq_91296
  have p_q_91290 := p_q_91290.push ef_91297 nq_91296
  have p_q_91293 := p_q_91293.push ef_91297 nq_91296
  have p_q_91296 := pt.new (L := ((((((((((((L ++ [q_91257]) ++ [q_91260]) ++ [q_91263]) ++ [q_91266]) ++ [q_91271]) ++ [q_91274]) ++ [q_91277]) ++ [q_91280]) ++ [q_91283]) ++ [q_91287]) ++ [q_91290]) ++ [q_91293])) ef_91297
  refine pg_putF S Y hname ok_X12 29 (by decide) kf12_59 rfl rfl (fs' := [.ref q_91257, .ref q_91260, .ref q_91263, .ref q_91266, .int 0, .int (-1), .int (-1), .int 0, .int 0, .int 0, .int 0, .long 0, .int 0, .int 0, .int 0, .ref q_91271, .ref q_91274, .int 0, .int 0, .int 0, .int 0, .int 0, .ref q_91277, .ref q_91280, .ref q_91283, .int 1, .ref q_91287, .ref q_91290, .ref q_91293, .ref q_91296, .int 0, .null]) (v := .ref q_91296) p_h rfl rfl rfl (Nat.le_of_ble_eq_true rfl) dX12_init_127 (fun f_91298 H locs ef_91298 Y => ?_)
  have p_q_91257 := p_q_91257.up ef_91298 ((p_q_91257.neB p_h))
  have p_q_91260 := p_q_91260.up ef_91298 ((p_q_91260.neB p_h))
  have p_q_91263 := p_q_91263.up ef_91298 ((p_q_91263.neB p_h))
  have p_q_91266 := p_q_91266.up ef_91298 ((p_q_91266.neB p_h))
  have p_q_91271 := p_q_91271.up ef_91298 ((p_q_91271.neB p_h))
  have p_q_91274 := p_q_91274.up ef_91298 ((p_q_91274.neB p_h))
  have p_q_91277 := p_q_91277.up ef_91298 ((p_q_91277.neB p_h))
  have p_q_91280 := p_q_91280.up ef_91298 ((p_q_91280.neB p_h))
  have p_q_91283 := p_q_91283.up ef_91298 ((p_q_91283.neB p_h))
  have p_q_91287 := p_q_91287.up ef_91298 ((p_q_91287.neB p_h))
  have p_q_91290 := p_q_91290.up ef_91298 ((p_q_91290.neB p_h))
  have p_q_91293 := p_q_91293.up ef_91298 ((p_q_91293.neB p_h))
  have p_q_91296 := p_q_91296.up ef_91298 ((p_q_91296.neB p_h))
  have p_h := p_h.me ef_91298
  have hk := hk.up ef_91298 (by simp)
  refine lv_aload_n hx hb dX12_init_130 rfl (lv_at hl 0 rfl) ?_
  refine lv_bipush (v := 6) hx hb dX12_init_131 (by decide) ?_
  refine pg_newa S Y (ty := .int) rfl 0 rfl ka_intm (N' := 6) (6, .inl (fun _ => 0)) (fun _ => rfl) (by decide) (by decide) (by decide) (by decide) (by decide) dX12_init_133 (fun q_91299 f_91300 H nq_91299 ef_91300 Y => ?_)
  have whkq_91299 := hk.notin nq_91299
  have hk := hk.push ef_91300 nq_91299
  have p_h := p_h.push ef_91300 nq_91299
  have p_q_91257 := p_q_91257.push ef_91300 nq_91299
  have p_q_91260 := p_q_91260.push ef_91300 nq_91299
  have p_q_91263 := p_q_91263.push ef_91300 nq_91299
  have p_q_91266 := p_q_91266.push ef_91300 nq_91299
  have p_q_91271 := p_q_91271.push ef_91300 nq_91299
  have p_q_91274 := p_q_91274.push ef_91300 nq_91299
  have p_q_91277 := p_q_91277.push ef_91300 nq_91299
  have p_q_91280 := p_q_91280.push ef_91300 nq_91299
  have p_q_91283 := p_q_91283.push ef_91300 nq_91299
  have dq_91287_q_91299 := p_q_91287.neQ nq_91299
  have p_q_91287 := p_q_91287.push ef_91300 nq_91299
  have p_q_91290 := p_q_91290.push ef_91300 nq_91299
  have p_q_91293 := p_q_91293.push ef_91300 nq_91299
  have p_q_91296 := p_q_91296.push ef_91300 nq_91299
  have p_q_91299 := pt.new (L := (((((((((((((L ++ [q_91257]) ++ [q_91260]) ++ [q_91263]) ++ [q_91266]) ++ [q_91271]) ++ [q_91274]) ++ [q_91277]) ++ [q_91280]) ++ [q_91283]) ++ [q_91287]) ++ [q_91290]) ++ [q_91293]) ++ [q_91296])) ef_91300
  refine pg_putF S Y hname ok_X12 31 (by decide) kf12_62 rfl rfl (fs' := [.ref q_91257, .ref q_91260, .ref q_91263, .ref q_91266, .int 0, .int (-1), .int (-1), .int 0, .int 0, .int 0, .int 0, .long 0, .int 0, .int 0, .int 0, .ref q_91271, .ref q_91274, .int 0, .int 0, .int 0, .int 0, .int 0, .ref q_91277, .ref q_91280, .ref q_91283, .int 1, .ref q_91287, .ref q_91290, .ref q_91293, .ref q_91296, .int 0, .ref q_91299]) (v := .ref q_91299) p_h rfl rfl rfl (Nat.le_of_ble_eq_true rfl) dX12_init_135 (fun f_91301 H locs ef_91301 Y => ?_)
  have p_q_91257 := p_q_91257.up ef_91301 ((p_q_91257.neB p_h))
  have p_q_91260 := p_q_91260.up ef_91301 ((p_q_91260.neB p_h))
  have p_q_91263 := p_q_91263.up ef_91301 ((p_q_91263.neB p_h))
  have p_q_91266 := p_q_91266.up ef_91301 ((p_q_91266.neB p_h))
  have p_q_91271 := p_q_91271.up ef_91301 ((p_q_91271.neB p_h))
  have p_q_91274 := p_q_91274.up ef_91301 ((p_q_91274.neB p_h))
  have p_q_91277 := p_q_91277.up ef_91301 ((p_q_91277.neB p_h))
  have p_q_91280 := p_q_91280.up ef_91301 ((p_q_91280.neB p_h))
  have p_q_91283 := p_q_91283.up ef_91301 ((p_q_91283.neB p_h))
  have p_q_91287 := p_q_91287.up ef_91301 ((p_q_91287.neB p_h))
  have p_q_91290 := p_q_91290.up ef_91301 ((p_q_91290.neB p_h))
  have p_q_91293 := p_q_91293.up ef_91301 ((p_q_91293.neB p_h))
  have p_q_91296 := p_q_91296.up ef_91301 ((p_q_91296.neB p_h))
  have p_q_91299 := p_q_91299.up ef_91301 ((p_q_91299.neB p_h))
  have p_h := p_h.me ef_91301
  have hk := hk.up ef_91301 (by simp)
  refine lv_aload_n hx hb dX12_init_138 rfl (lv_at hl 0 rfl) ?_
  refine pg_get S Y ok_X12 0 (by decide) kf12_7 (v := .ref q_91257) p_h rfl dX12_init_139 ?_
  refine lv_bipush (v := 12) hx hb dX12_init_142 (by decide) ?_
  refine lv_sipush (v := 137) hx hb dX12_init_144 (by decide) ?_
  refine pg_iast S Y p_q_91257 (by unfold vp_in; decide) dX12_init_147 (fun f_91303 H locs ef_91303 Y => ?_)
  obtain ⟨g_91302, eg_91302⟩ : ∃ z, z = upd ((fun _ => 0)) (12 : Int32).toNatClampNeg 137 := ⟨_, rfl⟩
  rw [← eg_91302] at ef_91303
  have p_h := p_h.up ef_91303 ((p_h.neA p_q_91257))
  have p_q_91260 := p_q_91260.up ef_91303 ((Ne.symm (dq_91257_q_91260)))
  have p_q_91263 := p_q_91263.up ef_91303 ((p_q_91263.neN p_q_91257 (by decide)))
  have p_q_91266 := p_q_91266.up ef_91303 ((p_q_91266.neN p_q_91257 (by decide)))
  have p_q_91271 := p_q_91271.up ef_91303 ((p_q_91271.neN p_q_91257 (by decide)))
  have p_q_91274 := p_q_91274.up ef_91303 ((p_q_91274.neN p_q_91257 (by decide)))
  have p_q_91277 := p_q_91277.up ef_91303 ((p_q_91277.neN p_q_91257 (by decide)))
  have p_q_91280 := p_q_91280.up ef_91303 ((p_q_91280.neN p_q_91257 (by decide)))
  have p_q_91283 := p_q_91283.up ef_91303 ((p_q_91283.neN p_q_91257 (by decide)))
  have p_q_91287 := p_q_91287.up ef_91303 ((p_q_91287.neN p_q_91257 (by decide)))
  have p_q_91290 := p_q_91290.up ef_91303 ((p_q_91290.neN p_q_91257 (by decide)))
  have p_q_91293 := p_q_91293.up ef_91303 ((p_q_91293.neN p_q_91257 (by decide)))
  have p_q_91296 := p_q_91296.up ef_91303 ((p_q_91296.neN p_q_91257 (by decide)))
  have p_q_91299 := p_q_91299.up ef_91303 ((p_q_91299.neN p_q_91257 (by decide)))
  have p_q_91257 := p_q_91257.me ef_91303
  have hk := hk.upN ef_91303 whkq_91257
  refine lv_aload_n hx hb dX12_init_148 rfl (lv_at hl 0 rfl) ?_
  refine pg_get S Y ok_X12 0 (by decide) kf12_7 (v := .ref q_91257) p_h rfl dX12_init_149 ?_
  refine lv_iconst (v := 2) hx hb dX12_init_152 (by decide) ?_
  refine lv_iconst (v := (-1)) hx hb dX12_init_153 (by decide) ?_
  refine pg_iast S Y p_q_91257 (by unfold vp_in; decide) dX12_init_154 (fun f_91305 H locs ef_91305 Y => ?_)
  obtain ⟨g_91304, eg_91304⟩ : ∃ z, z = upd (g_91302) (2 : Int32).toNatClampNeg (-1) := ⟨_, rfl⟩
  rw [← eg_91304] at ef_91305
  have p_h := p_h.up ef_91305 ((p_h.neA p_q_91257))
  have p_q_91260 := p_q_91260.up ef_91305 ((Ne.symm (dq_91257_q_91260)))
  have p_q_91263 := p_q_91263.up ef_91305 ((p_q_91263.neN p_q_91257 (by decide)))
  have p_q_91266 := p_q_91266.up ef_91305 ((p_q_91266.neN p_q_91257 (by decide)))
  have p_q_91271 := p_q_91271.up ef_91305 ((p_q_91271.neN p_q_91257 (by decide)))
  have p_q_91274 := p_q_91274.up ef_91305 ((p_q_91274.neN p_q_91257 (by decide)))
  have p_q_91277 := p_q_91277.up ef_91305 ((p_q_91277.neN p_q_91257 (by decide)))
  have p_q_91280 := p_q_91280.up ef_91305 ((p_q_91280.neN p_q_91257 (by decide)))
  have p_q_91283 := p_q_91283.up ef_91305 ((p_q_91283.neN p_q_91257 (by decide)))
  have p_q_91287 := p_q_91287.up ef_91305 ((p_q_91287.neN p_q_91257 (by decide)))
  have p_q_91290 := p_q_91290.up ef_91305 ((p_q_91290.neN p_q_91257 (by decide)))
  have p_q_91293 := p_q_91293.up ef_91305 ((p_q_91293.neN p_q_91257 (by decide)))
  have p_q_91296 := p_q_91296.up ef_91305 ((p_q_91296.neN p_q_91257 (by decide)))
  have p_q_91299 := p_q_91299.up ef_91305 ((p_q_91299.neN p_q_91257 (by decide)))
  have p_q_91257 := p_q_91257.me ef_91305
  have hk := hk.upN ef_91305 whkq_91257
  have ea0 := a0m_made eg_91302 eg_91304
  rw [ea0] at p_q_91257
  refine lv_aload_n hx hb dX12_init_155 rfl (lv_at hl 0 rfl) ?_
  refine pg_get S Y ok_X12 0 (by decide) kf12_7 (v := .ref q_91257) p_h rfl dX12_init_156 ?_
  refine lv_aload_n hx hb dX12_init_159 rfl (lv_at hl 0 rfl) ?_
  refine pg_get S Y ok_X12 1 (by decide) kf12_13 (v := .ref q_91260) p_h rfl dX12_init_160 ?_
  refine cSv (As := [.ref q_91257, .ref q_91260]) (rest := []) S Y (c_X12_copy (l := l) p_q_91257 p_q_91260 (dq_91257_q_91260)) cw_X12_copy km12_65 rfl ⟨Nat.le_of_ble_eq_true rfl, Nat.le_of_ble_eq_true rfl⟩ hl.1 rfl (Nat.le_of_ble_eq_true rfl) ⟨Nat.le_of_ble_eq_true rfl, Nat.le_of_ble_eq_true rfl⟩ dX12_init_163 (fun L_91306 f_91307 H locs hf_91307 Y => ?_)
  obtain ⟨g__91308, kf_91307, z_z_91309, hg_91310⟩ := hf_91307
  have p_h := kf_91307.1 h _ (nmc (p_h.neA p_q_91260) nm0) p_h
  have p_q_91257 := kf_91307.1 q_91257 _ (nmc (dq_91257_q_91260) nm0) p_q_91257
  have p_q_91263 := kf_91307.1 q_91263 _ (nmc (p_q_91263.neN p_q_91260 (by decide)) nm0) p_q_91263
  have p_q_91266 := kf_91307.1 q_91266 _ (nmc (p_q_91266.neN p_q_91260 (by decide)) nm0) p_q_91266
  have p_q_91271 := kf_91307.1 q_91271 _ (nmc (p_q_91271.neN p_q_91260 (by decide)) nm0) p_q_91271
  have p_q_91274 := kf_91307.1 q_91274 _ (nmc (p_q_91274.neN p_q_91260 (by decide)) nm0) p_q_91274
  have p_q_91277 := kf_91307.1 q_91277 _ (nmc (p_q_91277.neN p_q_91260 (by decide)) nm0) p_q_91277
  have p_q_91280 := kf_91307.1 q_91280 _ (nmc (p_q_91280.neN p_q_91260 (by decide)) nm0) p_q_91280
  have p_q_91283 := kf_91307.1 q_91283 _ (nmc (p_q_91283.neN p_q_91260 (by decide)) nm0) p_q_91283
  have p_q_91287 := kf_91307.1 q_91287 _ (nmc (p_q_91287.neN p_q_91260 (by decide)) nm0) p_q_91287
  have p_q_91290 := kf_91307.1 q_91290 _ (nmc (p_q_91290.neN p_q_91260 (by decide)) nm0) p_q_91290
  have p_q_91293 := kf_91307.1 q_91293 _ (nmc (p_q_91293.neN p_q_91260 (by decide)) nm0) p_q_91293
  have p_q_91296 := kf_91307.1 q_91296 _ (nmc (p_q_91296.neN p_q_91260 (by decide)) nm0) p_q_91296
  have p_q_91299 := kf_91307.1 q_91299 _ (nmc (p_q_91299.neN p_q_91260 (by decide)) nm0) p_q_91299
  have p_q_91260 := z_z_91309
  have hk := hk.call kf_91307 (fun b hb hp => (nmc (neL hp whkq_91260) nm0))
  exact prV (post := fun L1 f1 => ∃ m0 : Nat, ∃ m1 : Nat, ∃ m2 : Nat, ∃ m3 : Nat, ∃ m15 : Nat, ∃ m16 : Nat, ∃ m22 : Nat, ∃ m23 : Nat, ∃ m24 : Nat, ∃ m26 : Nat, ∃ m27 : Nat, ∃ m28 : Nat, ∃ m29 : Nat, ∃ m31 : Nat, ∃ gi : Nat → Int32, kp L f L1 f1 [h] ∧ pt L1 f1 h (.inr (12, [.ref m0, .ref m1, .ref m2, .ref m3, .int 0, .int (-1), .int (-1), .int 0, .int 0, .int 0, .int 0, .long 0, .int 0, .int 0, .int 0, .ref m15, .ref m16, .int 0, .int 0, .int 0, .int 0, .int 0, .ref m22, .ref m23, .ref m24, .int 1, .ref m26, .ref m27, .ref m28, .ref m29, .int 0, .ref m31])) ∧ pt L1 f1 m0 (.inl (G.2 0, 10568, .inl a0m)) ∧ pt L1 f1 m1 (.inl (G.2 0, 10568, .inl gi)) ∧ pt L1 f1 m2 (.inl (G.2 0, 2916, .inl (fun _ => 0))) ∧ pt L1 f1 m3 (.inl (G.2 0, 300, .inl (fun _ => 0))) ∧ pt L1 f1 m15 (.inl (G.2 0, 160, .inl (fun _ => 0))) ∧ pt L1 f1 m16 (.inl (G.2 0, 9, .inl (fun _ => 0))) ∧ pt L1 f1 m22 (.inl (G.2 0, 10, .inl (fun _ => 0))) ∧ pt L1 f1 m23 (.inl (G.2 1, 330, .inr (.inl (fun _ => 0)))) ∧ pt L1 f1 m24 (.inl (G.2 2, 330, .inl (fun _ => 0))) ∧ pt L1 f1 m26 (.inl (G.2 0, 6, .inl (fun _ => 0))) ∧ pt L1 f1 m27 (.inl (G.2 0, 114, .inl (fun _ => 0))) ∧ pt L1 f1 m28 (.inl (G.2 0, 84, .inl (fun _ => 0))) ∧ pt L1 f1 m29 (.inl (G.2 0, 14, .inl (fun _ => 0))) ∧ pt L1 f1 m31 (.inl (G.2 0, 6, .inl (fun _ => 0))) ∧ m0 ≠ m1 ∧ m26 ≠ m31 ∧ ∀ k, k < 10568 → gi k = a0m k) S Y (by decide) (by decide) hA1 ⟨q_91257, q_91260, q_91263, q_91266, q_91271, q_91274, q_91277, q_91280, q_91283, q_91287, q_91290, q_91293, q_91296, q_91299, g__91308, hk, p_h, p_q_91257, p_q_91260, p_q_91263, p_q_91266, p_q_91271, p_q_91274, p_q_91277, p_q_91280, p_q_91283, p_q_91287, p_q_91290, p_q_91293, p_q_91296, p_q_91299, (dq_91257_q_91260), (dq_91287_q_91299), hg_91310⟩ dX12_init_166
theorem SHM_mk {G : GG} {L : List Nat} {f : HF} {h m0 m1 m2 m3 m15 m16 m22 m23 m24 m26 m27 m28 m29 m31 : Nat} {gi : Nat → Int32} (p_h : pt L f h (.inr (12, [.ref m0, .ref m1, .ref m2, .ref m3, .int 0, .int (-1), .int (-1), .int 0, .int 0, .int 0, .int 0, .long 0, .int 0, .int 0, .int 0, .ref m15, .ref m16, .int 0, .int 0, .int 0, .int 0, .int 0, .ref m22, .ref m23, .ref m24, .int 1, .ref m26, .ref m27, .ref m28, .ref m29, .int 0, .ref m31]))) (p_m0 : pt L f m0 (.inl (G.2 0, 10568, .inl a0m))) (p_m1 : pt L f m1 (.inl (G.2 0, 10568, .inl gi))) (p_m2 : pt L f m2 (.inl (G.2 0, 2916, .inl (fun _ => 0)))) (p_m3 : pt L f m3 (.inl (G.2 0, 300, .inl (fun _ => 0)))) (p_m15 : pt L f m15 (.inl (G.2 0, 160, .inl (fun _ => 0)))) (p_m16 : pt L f m16 (.inl (G.2 0, 9, .inl (fun _ => 0)))) (p_m22 : pt L f m22 (.inl (G.2 0, 10, .inl (fun _ => 0)))) (p_m23 : pt L f m23 (.inl (G.2 1, 330, .inr (.inl (fun _ => 0))))) (p_m24 : pt L f m24 (.inl (G.2 2, 330, .inl (fun _ => 0)))) (p_m26 : pt L f m26 (.inl (G.2 0, 6, .inl (fun _ => 0)))) (p_m27 : pt L f m27 (.inl (G.2 0, 114, .inl (fun _ => 0)))) (p_m28 : pt L f m28 (.inl (G.2 0, 84, .inl (fun _ => 0)))) (p_m29 : pt L f m29 (.inl (G.2 0, 14, .inl (fun _ => 0)))) (p_m31 : pt L f m31 (.inl (G.2 0, 6, .inl (fun _ => 0)))) (n1 : m0 ≠ m1) (n2 : m26 ≠ m31) (hgi : ∀ k, k < 10568 → gi k = a0m k) : ∃ ad : Nat → Nat → Nat, ad 0 0 = h ∧ SH (spM (IA 0 0 14 9999 W00) (((IA 0 0 14 9999 W00), (pp 0), (pp (-1)), (pp (-1)), (EQ (fun _ => 0))) : PIT) (EQ (fun _ => 0)) LDa) nnM G ad L f := by
  refine ⟨fun k _ => match k with
    | 0 => h
    | 1 => m0
    | 2 => m1
    | 3 => m2
    | 4 => m3
    | 5 => m15
    | 6 => m16
    | 7 => m22
    | 8 => m23
    | 9 => m24
    | 10 => m26
    | 11 => m27
    | 12 => m28
    | 13 => m29
    | _ => m31, rfl, ?_, ?_⟩
  · intro k j hj
    obtain ⟨hk, rfl⟩ := nnM_k hj
    match k, hk with
    | 0, _ => exact ⟨p_h.1, by show okE _ _ _ (f h); rw [p_h.2]; exact okE_o (okFs_c okV_r (okFs_c okV_r (okFs_c okV_r (okFs_c okV_r (okFs_c (okV_p (lim_mk (show bn 0 300 (0 : Int32) from by constructor <;> decide) rfl)) (okFs_c (okV_p (lim_mk (show bn (-2147483648) 2147483647 ((-1) : Int32) from by constructor <;> decide) rfl)) (okFs_c (okV_p (lim_mk (show bn (-2147483648) 2147483647 ((-1) : Int32) from by constructor <;> decide) rfl)) (okFs_c (okV_i (by constructor <;> decide)) (okFs_c (okV_i (by constructor <;> decide)) (okFs_c (okV_i (by constructor <;> decide)) (okFs_c (okV_i (by constructor <;> decide)) (okFs_c okV_l (okFs_c (okV_i (by constructor <;> decide)) (okFs_c (okV_i (by constructor <;> decide)) (okFs_c (okV_i (by constructor <;> decide)) (okFs_c okV_r (okFs_c okV_r (okFs_c (okV_i (by constructor <;> decide)) (okFs_c (okV_i (by constructor <;> decide)) (okFs_c (okV_i (by constructor <;> decide)) (okFs_c (okV_i (by constructor <;> decide)) (okFs_c (okV_i (by constructor <;> decide)) (okFs_c okV_r (okFs_c okV_r (okFs_c okV_r (okFs_c (okV_i (by constructor <;> decide)) (okFs_c okV_r (okFs_c okV_r (okFs_c okV_r (okFs_c okV_r (okFs_c (okV_i (by constructor <;> decide)) (okFs_c okV_r okFs_n))))))))))))))))))))))))))))))))⟩
    | 1, _ => exact ⟨p_m0.1, by show okE _ _ _ (f m0); rw [p_m0.2]; exact okE_a (g := a0m) (IA_0m (fun _ _ => rfl))⟩
    | 2, _ => exact ⟨p_m1.1, by show okE _ _ _ (f m1); rw [p_m1.2]; exact okE_a (g := gi) (IA_0m hgi)⟩
    | 3, _ => exact ⟨p_m2.1, by show okE _ _ _ (f m2); rw [p_m2.2]; exact okE_a (g := fun _ => 0) rfl⟩
    | 4, _ => exact ⟨p_m3.1, by show okE _ _ _ (f m3); rw [p_m3.2]; exact okE_a (g := fun _ => 0) rfl⟩
    | 5, _ => exact ⟨p_m15.1, by show okE _ _ _ (f m15); rw [p_m15.2]; exact okE_a (g := fun _ => 0) trivial⟩
    | 6, _ => exact ⟨p_m16.1, by show okE _ _ _ (f m16); rw [p_m16.2]; exact okE_a (g := fun _ => 0) trivial⟩
    | 7, _ => exact ⟨p_m22.1, by show okE _ _ _ (f m22); rw [p_m22.2]; exact okE_a (g := fun _ => 0) trivial⟩
    | 8, _ => exact ⟨p_m23.1, by show okE _ _ _ (f m23); rw [p_m23.2]; exact okE_l (g := fun _ => 0)⟩
    | 9, _ => exact ⟨p_m24.1, by show okE _ _ _ (f m24); rw [p_m24.2]; exact okE_a (g := fun _ => 0) (fun _ => show bn 0 1 (0 : Int32) from ⟨by decide, by decide⟩)⟩
    | 10, _ => exact ⟨p_m26.1, by show okE _ _ _ (f m26); rw [p_m26.2]; exact okE_a (g := fun _ => 0) trivial⟩
    | 11, _ => exact ⟨p_m27.1, by show okE _ _ _ (f m27); rw [p_m27.2]; exact okE_a (g := fun _ => 0) LDa_0⟩
    | 12, _ => exact ⟨p_m28.1, by show okE _ _ _ (f m28); rw [p_m28.2]; exact okE_a (g := fun _ => 0) trivial⟩
    | 13, _ => exact ⟨p_m29.1, by show okE _ _ _ (f m29); rw [p_m29.2]; exact okE_a (g := fun _ => 0) trivial⟩
    | 14, _ => exact ⟨p_m31.1, by show okE _ _ _ (f m31); rw [p_m31.2]; exact okE_a (g := fun _ => 0) trivial⟩
  · have key : ∀ k, k < 15 → ecd (f ((fun k _ => match k with
        | 0 => h
        | 1 => m0
        | 2 => m1
        | 3 => m2
        | 4 => m3
        | 5 => m15
        | 6 => m16
        | 7 => m22
        | 8 => m23
        | 9 => m24
        | 10 => m26
        | 11 => m27
        | 12 => m28
        | 13 => m29
        | _ => m31 : Nat → Nat → Nat) k 0)) = [(0, 12), (1, 10568), (1, 10568), (1, 2916), (1, 300), (1, 160), (1, 9), (1, 10), (2, 330), (1, 330), (1, 6), (1, 114), (1, 84), (1, 14), (1, 6)].getD k (0, 0) := by
      intro k hk
      match k, hk with
      | 0, _ => show ecd (f h) = _; rw [p_h.2]; rfl
      | 1, _ => show ecd (f m0) = _; rw [p_m0.2]; rfl
      | 2, _ => show ecd (f m1) = _; rw [p_m1.2]; rfl
      | 3, _ => show ecd (f m2) = _; rw [p_m2.2]; rfl
      | 4, _ => show ecd (f m3) = _; rw [p_m3.2]; rfl
      | 5, _ => show ecd (f m15) = _; rw [p_m15.2]; rfl
      | 6, _ => show ecd (f m16) = _; rw [p_m16.2]; rfl
      | 7, _ => show ecd (f m22) = _; rw [p_m22.2]; rfl
      | 8, _ => show ecd (f m23) = _; rw [p_m23.2]; rfl
      | 9, _ => show ecd (f m24) = _; rw [p_m24.2]; rfl
      | 10, _ => show ecd (f m26) = _; rw [p_m26.2]; rfl
      | 11, _ => show ecd (f m27) = _; rw [p_m27.2]; rfl
      | 12, _ => show ecd (f m28) = _; rw [p_m28.2]; rfl
      | 13, _ => show ecd (f m29) = _; rw [p_m29.2]; rfl
      | 14, _ => show ecd (f m31) = _; rw [p_m31.2]; rfl
    have dec : ∀ k k' : Fin 15, [(0, 12), (1, 10568), (1, 10568), (1, 2916), (1, 300), (1, 160), (1, 9), (1, 10), (2, 330), (1, 330), (1, 6), (1, 114), (1, 84), (1, 14), (1, 6)].getD k.1 (0, 0) = [(0, 12), (1, 10568), (1, 10568), (1, 2916), (1, 300), (1, 160), (1, 9), (1, 10), (2, 330), (1, 330), (1, 6), (1, 114), (1, 84), (1, 14), (1, 6)].getD k'.1 (0, 0) → k.1 = k'.1 ∨ (k.1 = 1 ∧ k'.1 = 2) ∨ (k.1 = 2 ∧ k'.1 = 1) ∨ (k.1 = 10 ∧ k'.1 = 14) ∨ (k.1 = 14 ∧ k'.1 = 10) := by decide
    intro k j k' j' hj hj' e
    obtain ⟨hk, rfl⟩ := nnM_k hj
    obtain ⟨hk', rfl⟩ := nnM_k hj'
    have e1 := (key k hk).symm.trans ((congrArg (fun x => ecd (f x)) e).trans (key k' hk'))
    rcases dec ⟨k, hk⟩ ⟨k', hk'⟩ e1 with q | ⟨q1, q2⟩ | ⟨q1, q2⟩ | ⟨q1, q2⟩ | ⟨q1, q2⟩
    all_goals try (simp only at q1 q2; subst q1; subst q2)
    · exact ⟨q, rfl⟩
    · exact absurd e n1
    · exact absurd e (Ne.symm n1)
    · exact absurd e n2
    · exact absurd e (Ne.symm n2)
