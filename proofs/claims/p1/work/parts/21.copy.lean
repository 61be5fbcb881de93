theorem dX12_copy_0 : decode cX12_copy 0 = .ok (.iconst 0, 1) := by decide +kernel
theorem dX12_copy_1 : decode cX12_copy 1 = .ok (.istore_n 2, 1) := by decide +kernel
theorem dX12_copy_2 : decode cX12_copy 2 = .ok (.iload_n 2, 1) := by decide +kernel
theorem dX12_copy_3 : decode cX12_copy 3 = .ok (.sipush 10568, 3) := by decide +kernel
theorem dX12_copy_6 : decode cX12_copy 6 = .ok (.if_icmp .ge 15, 3) := by decide +kernel
theorem dX12_copy_21 : decode cX12_copy 21 = .ok (.return_, 1) := by decide +kernel
theorem dX12_copy_9 : decode cX12_copy 9 = .ok (.aload_n 1, 1) := by decide +kernel
theorem dX12_copy_10 : decode cX12_copy 10 = .ok (.iload_n 2, 1) := by decide +kernel
theorem dX12_copy_11 : decode cX12_copy 11 = .ok (.aload_n 0, 1) := by decide +kernel
theorem dX12_copy_12 : decode cX12_copy 12 = .ok (.iload_n 2, 1) := by decide +kernel
theorem dX12_copy_13 : decode cX12_copy 13 = .ok (.iaload, 1) := by decide +kernel
theorem dX12_copy_14 : decode cX12_copy 14 = .ok (.iastore, 1) := by decide +kernel
theorem dX12_copy_15 : decode cX12_copy 15 = .ok (.iinc 2 1, 3) := by decide +kernel
theorem dX12_copy_18 : decode cX12_copy 18 = .ok (.goto (-16), 3) := by decide +kernel
theorem dX12_image_0 : decode cX12_image 0 = .ok (.aload_n 0, 1) := by decide +kernel
theorem dX12_image_1 : decode cX12_image 1 = .ok (.getfield 7, 3) := by decide +kernel
theorem dX12_image_4 : decode cX12_image 4 = .ok (.aload_n 0, 1) := by decide +kernel
theorem dX12_image_5 : decode cX12_image 5 = .ok (.getfield 13, 3) := by decide +kernel
theorem kf12_13 : inW (Cond.fieldLink RX12 13 "KneeOathsModel" "image" "[I") := ⟨List.mem_of_getElem? (i := 1499) (by decide +kernel), by decide +kernel⟩
theorem dX12_image_8 : decode cX12_image 8 = .ok (.invokestatic 65, 3) := by decide +kernel
theorem cw_X12_copy : CWs yX12_copy cX12_copy 3 none 2 := ⟨⟨⟨List.mem_of_getElem? (i := 137) (by decide +kernel), by decide +kernel⟩, ⟨List.mem_of_getElem? (i := 1497) (by decide +kernel), by decide +kernel⟩, by decide +kernel⟩, ⟨List.mem_of_getElem? (i := 1496) (by decide +kernel), by decide +kernel⟩⟩
theorem km12_65 : inW (Cond.methodLink RX12 65 yX12_copy) := ⟨List.mem_of_getElem? (i := 1495) (by decide +kernel), by decide +kernel⟩
theorem dX12_image_11 : decode cX12_image 11 = .ok (.aload_n 0, 1) := by decide +kernel
theorem dX12_image_12 : decode cX12_image 12 = .ok (.getfield 7, 3) := by decide +kernel
theorem dX12_image_15 : decode cX12_image 15 = .ok (.bipush 10, 2) := by decide +kernel
theorem dX12_image_17 : decode cX12_image 17 = .ok (.iaload, 1) := by decide +kernel
theorem dX12_image_18 : decode cX12_image 18 = .ok (.ireturn, 1) := by decide +kernel
theorem dX12_back_0 : decode cX12_back 0 = .ok (.aload_n 0, 1) := by decide +kernel
theorem dX12_back_1 : decode cX12_back 1 = .ok (.getfield 13, 3) := by decide +kernel
theorem dX12_back_4 : decode cX12_back 4 = .ok (.aload_n 0, 1) := by decide +kernel
theorem dX12_back_5 : decode cX12_back 5 = .ok (.getfield 7, 3) := by decide +kernel
theorem dX12_back_8 : decode cX12_back 8 = .ok (.invokestatic 65, 3) := by decide +kernel
theorem dX12_back_11 : decode cX12_back 11 = .ok (.aload_n 0, 1) := by decide +kernel
theorem dX12_back_12 : decode cX12_back 12 = .ok (.getfield 7, 3) := by decide +kernel
theorem dX12_back_15 : decode cX12_back 15 = .ok (.bipush 10, 2) := by decide +kernel
theorem dX12_back_17 : decode cX12_back 17 = .ok (.iaload, 1) := by decide +kernel
theorem dX12_back_18 : decode cX12_back 18 = .ok (.ireturn, 1) := by decide +kernel
theorem dX12_init_0 : decode cX12_init 0 = .ok (.aload_n 0, 1) := by decide +kernel
theorem dX12_init_1 : decode cX12_init 1 = .ok (.invokespecial 1, 3) := by decide +kernel
theorem km12_1 : inW (Cond.methodLink RX12 1 objectInit) := ⟨List.mem_of_getElem? (i := 1494) (by decide +kernel), by decide +kernel⟩
theorem dX12_init_4 : decode cX12_init 4 = .ok (.aload_n 0, 1) := by decide +kernel
theorem dX12_init_5 : decode cX12_init 5 = .ok (.sipush 10568, 3) := by decide +kernel
theorem dX12_init_8 : decode cX12_init 8 = .ok (.newarray .int, 2) := by decide +kernel
theorem dX12_init_10 : decode cX12_init 10 = .ok (.putfield 7, 3) := by decide +kernel
theorem dX12_init_13 : decode cX12_init 13 = .ok (.aload_n 0, 1) := by decide +kernel
theorem dX12_init_14 : decode cX12_init 14 = .ok (.sipush 10568, 3) := by decide +kernel
theorem dX12_init_17 : decode cX12_init 17 = .ok (.newarray .int, 2) := by decide +kernel
theorem dX12_init_19 : decode cX12_init 19 = .ok (.putfield 13, 3) := by decide +kernel
theorem dX12_init_22 : decode cX12_init 22 = .ok (.aload_n 0, 1) := by decide +kernel
theorem dX12_init_23 : decode cX12_init 23 = .ok (.sipush 2916, 3) := by decide +kernel
theorem dX12_init_26 : decode cX12_init 26 = .ok (.newarray .int, 2) := by decide +kernel
theorem dX12_init_28 : decode cX12_init 28 = .ok (.putfield 16, 3) := by decide +kernel
theorem dX12_init_31 : decode cX12_init 31 = .ok (.aload_n 0, 1) := by decide +kernel
theorem dX12_init_32 : decode cX12_init 32 = .ok (.sipush 300, 3) := by decide +kernel
theorem dX12_init_35 : decode cX12_init 35 = .ok (.newarray .int, 2) := by decide +kernel
theorem dX12_init_37 : decode cX12_init 37 = .ok (.putfield 19, 3) := by decide +kernel
theorem dX12_init_40 : decode cX12_init 40 = .ok (.aload_n 0, 1) := by decide +kernel
theorem dX12_init_41 : decode cX12_init 41 = .ok (.iconst (-1), 1) := by decide +kernel
theorem dX12_init_42 : decode cX12_init 42 = .ok (.putfield 22, 3) := by decide +kernel
theorem dX12_init_45 : decode cX12_init 45 = .ok (.aload_n 0, 1) := by decide +kernel
theorem dX12_init_46 : decode cX12_init 46 = .ok (.iconst (-1), 1) := by decide +kernel
theorem dX12_init_47 : decode cX12_init 47 = .ok (.putfield 26, 3) := by decide +kernel
theorem dX12_init_50 : decode cX12_init 50 = .ok (.aload_n 0, 1) := by decide +kernel
theorem dX12_init_51 : decode cX12_init 51 = .ok (.sipush 160, 3) := by decide +kernel
theorem dX12_init_54 : decode cX12_init 54 = .ok (.newarray .int, 2) := by decide +kernel
theorem dX12_init_56 : decode cX12_init 56 = .ok (.putfield 29, 3) := by decide +kernel
theorem kf12_29 : inW (Cond.fieldLink RX12 29 "KneeOathsModel" "pile" "[I") := ⟨List.mem_of_getElem? (i := 1513) (by decide +kernel), by decide +kernel⟩
theorem dX12_init_59 : decode cX12_init 59 = .ok (.aload_n 0, 1) := by decide +kernel
theorem dX12_init_60 : decode cX12_init 60 = .ok (.bipush 9, 2) := by decide +kernel
theorem dX12_init_62 : decode cX12_init 62 = .ok (.newarray .int, 2) := by decide +kernel
theorem dX12_init_64 : decode cX12_init 64 = .ok (.putfield 32, 3) := by decide +kernel
theorem kf12_32 : inW (Cond.fieldLink RX12 32 "KneeOathsModel" "counts" "[I") := ⟨List.mem_of_getElem? (i := 1514) (by decide +kernel), by decide +kernel⟩
theorem dX12_init_67 : decode cX12_init 67 = .ok (.aload_n 0, 1) := by decide +kernel
theorem dX12_init_68 : decode cX12_init 68 = .ok (.bipush 10, 2) := by decide +kernel
theorem dX12_init_70 : decode cX12_init 70 = .ok (.newarray .int, 2) := by decide +kernel
theorem dX12_init_72 : decode cX12_init 72 = .ok (.putfield 35, 3) := by decide +kernel
theorem kf12_35 : inW (Cond.fieldLink RX12 35 "KneeOathsModel" "named" "[I") := ⟨List.mem_of_getElem? (i := 1520) (by decide +kernel), by decide +kernel⟩
theorem dX12_init_75 : decode cX12_init 75 = .ok (.aload_n 0, 1) := by decide +kernel
theorem dX12_init_76 : decode cX12_init 76 = .ok (.sipush 330, 3) := by decide +kernel
theorem dX12_init_79 : decode cX12_init 79 = .ok (.newarray .long, 2) := by decide +kernel
theorem ka_long : inW (Cond.arrayClass .long) := ⟨List.mem_of_getElem? (i := 1595) (by decide +kernel), by decide +kernel⟩
theorem dX12_init_81 : decode cX12_init 81 = .ok (.putfield 38, 3) := by decide +kernel
theorem kf12_38 : inW (Cond.fieldLink RX12 38 "KneeOathsModel" "values" "[J") := ⟨List.mem_of_getElem? (i := 1521) (by decide +kernel), by decide +kernel⟩
theorem dX12_init_84 : decode cX12_init 84 = .ok (.aload_n 0, 1) := by decide +kernel
theorem dX12_init_85 : decode cX12_init 85 = .ok (.sipush 330, 3) := by decide +kernel
theorem dX12_init_88 : decode cX12_init 88 = .ok (.newarray .boolean, 2) := by decide +kernel
theorem ka_boolean : inW (Cond.arrayClass .boolean) := ⟨List.mem_of_getElem? (i := 1596) (by decide +kernel), by decide +kernel⟩
theorem dX12_init_90 : decode cX12_init 90 = .ok (.putfield 42, 3) := by decide +kernel
theorem kf12_42 : inW (Cond.fieldLink RX12 42 "KneeOathsModel" "truth" "[Z") := ⟨List.mem_of_getElem? (i := 1522) (by decide +kernel), by decide +kernel⟩
theorem dX12_init_93 : decode cX12_init 93 = .ok (.aload_n 0, 1) := by decide +kernel
theorem dX12_init_94 : decode cX12_init 94 = .ok (.iconst 1, 1) := by decide +kernel
theorem dX12_init_95 : decode cX12_init 95 = .ok (.putfield 46, 3) := by decide +kernel
theorem kf12_46 : inW (Cond.fieldLink RX12 46 "KneeOathsModel" "isWritten" "Z") := ⟨List.mem_of_getElem? (i := 1523) (by decide +kernel), by decide +kernel⟩
theorem dX12_init_98 : decode cX12_init 98 = .ok (.aload_n 0, 1) := by decide +kernel
theorem dX12_init_99 : decode cX12_init 99 = .ok (.bipush 6, 2) := by decide +kernel
theorem dX12_init_101 : decode cX12_init 101 = .ok (.newarray .int, 2) := by decide +kernel
theorem dX12_init_103 : decode cX12_init 103 = .ok (.putfield 50, 3) := by decide +kernel
theorem kf12_50 : inW (Cond.fieldLink RX12 50 "KneeOathsModel" "achedNow" "[I") := ⟨List.mem_of_getElem? (i := 1524) (by decide +kernel), by decide +kernel⟩
theorem dX12_init_106 : decode cX12_init 106 = .ok (.aload_n 0, 1) := by decide +kernel
theorem dX12_init_107 : decode cX12_init 107 = .ok (.bipush 114, 2) := by decide +kernel
theorem dX12_init_109 : decode cX12_init 109 = .ok (.newarray .int, 2) := by decide +kernel
theorem dX12_init_111 : decode cX12_init 111 = .ok (.putfield 53, 3) := by decide +kernel
theorem kf12_53 : inW (Cond.fieldLink RX12 53 "KneeOathsModel" "aside" "[I") := ⟨List.mem_of_getElem? (i := 1525) (by decide +kernel), by decide +kernel⟩
theorem dX12_init_114 : decode cX12_init 114 = .ok (.aload_n 0, 1) := by decide +kernel
theorem dX12_init_115 : decode cX12_init 115 = .ok (.bipush 84, 2) := by decide +kernel
theorem dX12_init_117 : decode cX12_init 117 = .ok (.newarray .int, 2) := by decide +kernel
theorem dX12_init_119 : decode cX12_init 119 = .ok (.putfield 56, 3) := by decide +kernel
theorem kf12_56 : inW (Cond.fieldLink RX12 56 "KneeOathsModel" "sums" "[I") := ⟨List.mem_of_getElem? (i := 1526) (by decide +kernel), by decide +kernel⟩
theorem dX12_init_122 : decode cX12_init 122 = .ok (.aload_n 0, 1) := by decide +kernel
theorem dX12_init_123 : decode cX12_init 123 = .ok (.bipush 14, 2) := by decide +kernel
theorem dX12_init_125 : decode cX12_init 125 = .ok (.newarray .int, 2) := by decide +kernel
theorem dX12_init_127 : decode cX12_init 127 = .ok (.putfield 59, 3) := by decide +kernel
theorem kf12_59 : inW (Cond.fieldLink RX12 59 "KneeOathsModel" "with" "[I") := ⟨List.mem_of_getElem? (i := 1527) (by decide +kernel), by decide +kernel⟩
theorem dX12_init_130 : decode cX12_init 130 = .ok (.aload_n 0, 1) := by decide +kernel
theorem dX12_init_131 : decode cX12_init 131 = .ok (.bipush 6, 2) := by decide +kernel
theorem dX12_init_133 : decode cX12_init 133 = .ok (.newarray .int, 2) := by decide +kernel
theorem dX12_init_135 : decode cX12_init 135 = .ok (.putfield 62, 3) := by decide +kernel
theorem kf12_62 : inW (Cond.fieldLink RX12 62 "KneeOathsModel" "sees" "[I") := ⟨List.mem_of_getElem? (i := 1529) (by decide +kernel), by decide +kernel⟩
theorem dX12_init_138 : decode cX12_init 138 = .ok (.aload_n 0, 1) := by decide +kernel
theorem dX12_init_139 : decode cX12_init 139 = .ok (.getfield 7, 3) := by decide +kernel
theorem dX12_init_142 : decode cX12_init 142 = .ok (.bipush 12, 2) := by decide +kernel
theorem dX12_init_144 : decode cX12_init 144 = .ok (.sipush 137, 3) := by decide +kernel
theorem dX12_init_147 : decode cX12_init 147 = .ok (.iastore, 1) := by decide +kernel
theorem dX12_init_148 : decode cX12_init 148 = .ok (.aload_n 0, 1) := by decide +kernel
theorem dX12_init_149 : decode cX12_init 149 = .ok (.getfield 7, 3) := by decide +kernel
theorem dX12_init_152 : decode cX12_init 152 = .ok (.iconst 2, 1) := by decide +kernel
theorem dX12_init_153 : decode cX12_init 153 = .ok (.iconst (-1), 1) := by decide +kernel
theorem dX12_init_154 : decode cX12_init 154 = .ok (.iastore, 1) := by decide +kernel
theorem dX12_init_155 : decode cX12_init 155 = .ok (.aload_n 0, 1) := by decide +kernel
theorem dX12_init_156 : decode cX12_init 156 = .ok (.getfield 7, 3) := by decide +kernel
theorem dX12_init_159 : decode cX12_init 159 = .ok (.aload_n 0, 1) := by decide +kernel
theorem dX12_init_160 : decode cX12_init 160 = .ok (.getfield 13, 3) := by decide +kernel
theorem dX12_init_163 : decode cX12_init 163 = .ok (.invokestatic 65, 3) := by decide +kernel
theorem dX12_init_166 : decode cX12_init 166 = .ok (.return_, 1) := by decide +kernel
theorem cpStep {g g0 : Nat → Int32} {i : Nat} (h : ∀ k, k < i → g k = g0 k) : ∀ k, k < i + 1 → upd g i (g0 i) k = g0 k := fun k hk => by
  by_cases q : k = i
  · rw [q]; exact pk_us
  · rw [pk_un q]; exact h k (by omega)
theorem a0_made {g1 g2 : Nat → Int32} (h1 : g1 = upd (fun _ => 0) (12 : Int32).toNatClampNeg 137) (h2 : g2 = upd g1 (2 : Int32).toNatClampNeg (-1)) : g2 = a0 := by
  rw [h2, h1]
  funext k
  show upd (upd (fun _ => (0 : Int32)) 12 137) 2 (-1) k = a0 k
  unfold a0
  by_cases q1 : k = 12
  · rw [q1, pk_un (by decide), pk_us]; rfl
  · by_cases q2 : k = 2
    · rw [q2, pk_us]; rfl
    · rw [pk_un q2, pk_un q1, if_neg q1, if_neg q2]
set_option maxHeartbeats 4000000 in
set_option maxRecDepth 100000 in
theorem c_X12_copy {l : Launch} {G : GG} {L : List Nat} {f : HF} {a b : Nat} {g0 g1 : Nat → Int32}  (p_a : pt L f a (.inl (G.2 0, 10568, .inl g0))) (p_b : pt L f b (.inl (G.2 0, 10568, .inl g1))) (n1 : a ≠ b) : PMv l yX12_copy cX12_copy 3 0 0 0 G [.ref a, .ref b] L f (fun L1 f1 => ∃ g2 : Nat → Int32, kp L f L1 f1 [b] ∧ pt L1 f1 b (.inl (G.2 0, 10568, .inl g2)) ∧ ∀ k, k < 10568 → g2 k = g0 k) := by
  refine PMv.of (post := fun L1 f1 => ∃ g2 : Nat → Int32, kp L f L1 f1 [b] ∧ pt L1 f1 b (.inl (G.2 0, 10568, .inl g2)) ∧ ∀ k, k < 10568 → g2 k = g0 k) (own := RX12) (by decide) rfl (Nat.le_of_ble_eq_true rfl) (fun sz p e s m args below meth c A ls hA1 hname S Y hl => ?_)
  have hx := S.hx
  have hb := S.hb
  have hl : lv_has ls 3 [(0, .ref a), (1, .ref b)] := hl
  have hk : kp L f L f [b] := kp.rf
  refine lv_iconst (v := 0) hx hb dX12_copy_0 (by decide) ?_
  refine lv_istore_n (lv' := [(2, .int 0), (0, .ref a), (1, .ref b)]) hx hb dX12_copy_1 rfl hl (by decide) rfl (fun ls hl => ?_)
  have loop : ∀ (n i : Nat) (f2 : HF) (g : Nat → Int32) (H : Heap) (locs : List Loc) (ls : Array Slot) (x : Int32), i + n = 10568 → x = nI i → kp L f L f2 [b] → pt L f2 a (.inl (G.2 0, 10568, .inl g0)) → pt L f2 b (.inl (G.2 0, 10568, .inl g)) → (∀ k, k < i → g k = g0 k) → DY G A s [] L f2 H locs → lv_has ls 3 [(2, .int x), (0, .ref a), (1, .ref b)] → W p l e (rmD 0 0 0) s m args below meth c H locs (0) (0) (MQ below (va_Qv (fun (u : List Nat × HF) => (fun L1 f1 => ∃ g2 : Nat → Int32, kp L f L1 f1 [b] ∧ pt L1 f1 b (.inl (G.2 0, 10568, .inl g2)) ∧ ∀ k, k < 10568 → g2 k = g0 k) u.1 u.2) (fun u t => pOut G (va_A (va_pl L f) sz) u.1 u.2 t) (va_A (va_pl L f) sz)) args s 0 0 A) (F0 m 2 ls []) := by
    intro n
    induction n with
    | zero =>
      intro i f2 g H locs ls x hin ex hk p_a p_b hg Y hl
      obtain rfl : i = 10568 := by omega
      obtain rfl : x = 10568 := by rw [ex]; decide
      refine lv_iload_n hx hb dX12_copy_2 rfl (lv_at hl 0 rfl) ?_
      refine lv_sipush (v := 10568) hx hb dX12_copy_3 (by decide) ?_
      refine lv_icmp_ge (tgt := 21) hx hb dX12_copy_6 (by decide) (fun _ => ?_) (fun h => absurd (by decide) h)
      exact prV (post := fun L1 f1 => ∃ g2 : Nat → Int32, kp L f L1 f1 [b] ∧ pt L1 f1 b (.inl (G.2 0, 10568, .inl g2)) ∧ ∀ k, k < 10568 → g2 k = g0 k) S Y (by decide) (by decide) hA1 ⟨g, hk, p_b, hg⟩ dX12_copy_21
    | succ n ih =>
      intro i f2 g H locs ls x hin ex hk p_a p_b hg Y hl
      have hiN : i < 10568 := by omega
      have hi31 : i < 2 ^ 31 := by omega
      have hin2 : i + 1 + n = 10568 := by omega
      refine lv_iload_n hx hb dX12_copy_2 rfl (lv_at hl 0 rfl) ?_
      refine lv_sipush (v := 10568) hx hb dX12_copy_3 (by decide) ?_
      refine lv_icmp_ge (tgt := 21) hx hb dX12_copy_6 (by decide) (fun h => absurd h (by rw [ex]; exact nI_ge hiN (by decide))) (fun _ => ?_)
      refine lv_aload_n hx hb dX12_copy_9 rfl (lv_at hl 2 rfl) ?_
      refine lv_iload_n hx hb dX12_copy_10 rfl (lv_at hl 0 rfl) ?_
      refine lv_aload_n hx hb dX12_copy_11 rfl (lv_at hl 1 rfl) ?_
      refine lv_iload_n hx hb dX12_copy_12 rfl (lv_at hl 0 rfl) ?_
      refine pg_iald S Y (v := (g0 (x : Int32).toNatClampNeg)) p_a (by rw [ex]; exact vp_in_nI hiN (by decide)) rfl dX12_copy_13 ?_
      refine pg_iast S Y p_b (by rw [ex]; exact vp_in_nI hiN (by decide)) dX12_copy_14 (fun f_1163 H locs ef_1163 Y => ?_)
      obtain ⟨g_1162, eg_1162⟩ : ∃ z, z = upd (g) (x : Int32).toNatClampNeg (g0 (x : Int32).toNatClampNeg) := ⟨_, rfl⟩
      rw [← eg_1162] at ef_1163
      have p_a := p_a.up ef_1163 ((n1))
      have p_b := p_b.me ef_1163
      have hk := hk.up ef_1163 (by simp)
      obtain ⟨x_1164, ex_1164⟩ : ∃ z : Int32, z = x + 1 := ⟨_, rfl⟩
      refine lv_iinc (v := x_1164) (lv' := [(2, .int x_1164), (0, .ref a), (1, .ref b)]) hx hb dX12_copy_15 hl (k := 0) rfl (by rw [ex_1164]; rfl) (by decide) rfl (fun ls hl => ?_)
      refine lv_goto (tgt := 2) hx hb dX12_copy_18 (by decide) ?_
      have hg2 : ∀ k, k < i + 1 → g_1162 k = g0 k := by rw [eg_1162, ex, nI_clamp hi31]; exact cpStep hg
      have ex2 : x_1164 = nI (i + 1) := by rw [ex_1164, ex]; exact nI_1 i
      exact ih (i + 1) _ _ _ _ _ _ hin2 ex2 hk p_a p_b hg2 Y hl
  exact loop 10568 0 _ _ _ _ _ 0 rfl rfl hk p_a p_b (fun k hk => absurd hk (Nat.not_lt_zero k)) Y hl
set_option maxHeartbeats 4000000 in
set_option maxRecDepth 100000 in
theorem c_X12_image {l : Launch} {G : GG} {L : List Nat} {f : HF} {h a im te tp pi co na vl tr ac as_ su wi_ se : Nat} {gi : Nat → Int32}  (p_h : pt L f h (.inr (12, [.ref a, .ref im, .ref te, .ref tp, .int 0, .int (-1), .int (-1), .int 0, .int 0, .int 0, .int 0, .long 0, .int 0, .int 0, .int 0, .ref pi, .ref co, .int 0, .int 0, .int 0, .int 0, .int 0, .ref na, .ref vl, .ref tr, .int 1, .ref ac, .ref as_, .ref su, .ref wi_, .int 0, .ref se]))) (p_a : pt L f a (.inl (G.2 0, 10568, .inl a0))) (p_im : pt L f im (.inl (G.2 0, 10568, .inl gi))) (n1 : a ≠ im) : PMi l yX12_image cX12_image 1 .int 1 0 0 G [.ref h] L f (fun r L1 f1 => r = 0) := by
  refine PMi.of (post := fun r L1 f1 => r = 0) (own := RX12) (by decide) rfl (Nat.le_of_ble_eq_true rfl) (fun sz p e s m args below meth c A ls hA1 hname S Y hl => ?_)
  have hx := S.hx
  have hb := S.hb
  have hl : lv_has ls 1 [(0, .ref h)] := hl
  refine lv_aload_n hx hb dX12_image_0 rfl (lv_at hl 0 rfl) ?_
  refine pg_get S Y ok_X12 0 (by decide) kf12_7 (v := .ref a) p_h rfl dX12_image_1 ?_
  refine lv_aload_n hx hb dX12_image_4 rfl (lv_at hl 0 rfl) ?_
  refine pg_get S Y ok_X12 1 (by decide) kf12_13 (v := .ref im) p_h rfl dX12_image_5 ?_
  refine cSv (As := [.ref a, .ref im]) (rest := []) S Y (c_X12_copy (l := l) p_a p_im (n1)) cw_X12_copy km12_65 rfl ⟨Nat.le_of_ble_eq_true rfl, Nat.le_of_ble_eq_true rfl⟩ hl.1 rfl (Nat.le_of_ble_eq_true rfl) ⟨Nat.le_of_ble_eq_true rfl, Nat.le_of_ble_eq_true rfl⟩ dX12_image_8 (fun L_1165 f_1166 H locs hf_1166 Y => ?_)
  obtain ⟨g__1167, kf_1166, z_z_1168, hg_1169⟩ := hf_1166
  have p_h := kf_1166.1 h _ (nmc (p_h.neA p_im) nm0) p_h
  have p_a := kf_1166.1 a _ (nmc (n1) nm0) p_a
  have p_im := z_z_1168
  refine lv_aload_n hx hb dX12_image_11 rfl (lv_at hl 0 rfl) ?_
  refine pg_get S Y ok_X12 0 (by decide) kf12_7 (v := .ref a) p_h rfl dX12_image_12 ?_
  refine lv_bipush (v := 10) hx hb dX12_image_15 (by decide) ?_
  refine pg_iald S Y (v := 0) p_a (by unfold vp_in; decide) (by decide) dX12_image_17 ?_
  exact prI (post := fun r L1 f1 => r = 0) S Y rfl (by decide) (by decide) hA1 rfl dX12_image_18
set_option maxHeartbeats 4000000 in
set_option maxRecDepth 100000 in
theorem c_X12_back {l : Launch} {G : GG} {L : List Nat} {f : HF} {h a im te tp pi co na vl tr ac as_ su wi_ se : Nat} {gi : Nat → Int32}  (p_h : pt L f h (.inr (12, [.ref a, .ref im, .ref te, .ref tp, .int 0, .int (-1), .int (-1), .int 0, .int 0, .int 0, .int 0, .long 0, .int 0, .int 0, .int 0, .ref pi, .ref co, .int 0, .int 0, .int 0, .int 0, .int 0, .ref na, .ref vl, .ref tr, .int 1, .ref ac, .ref as_, .ref su, .ref wi_, .int 0, .ref se]))) (p_a : pt L f a (.inl (G.2 0, 10568, .inl a0))) (p_im : pt L f im (.inl (G.2 0, 10568, .inl gi))) (n1 : a ≠ im) (hi10 : gi 10 = 0) : PMi l yX12_back cX12_back 1 .int 1 0 0 G [.ref h] L f (fun r L1 f1 => r = 0) := by
  refine PMi.of (post := fun r L1 f1 => r = 0) (own := RX12) (by decide) rfl (Nat.le_of_ble_eq_true rfl) (fun sz p e s m args below meth c A ls hA1 hname S Y hl => ?_)
  have hx := S.hx
  have hb := S.hb
  have hl : lv_has ls 1 [(0, .ref h)] := hl
  refine lv_aload_n hx hb dX12_back_0 rfl (lv_at hl 0 rfl) ?_
  refine pg_get S Y ok_X12 1 (by decide) kf12_13 (v := .ref im) p_h rfl dX12_back_1 ?_
  refine lv_aload_n hx hb dX12_back_4 rfl (lv_at hl 0 rfl) ?_
  refine pg_get S Y ok_X12 0 (by decide) kf12_7 (v := .ref a) p_h rfl dX12_back_5 ?_
  refine cSv (As := [.ref im, .ref a]) (rest := []) S Y (c_X12_copy (l := l) p_im p_a (Ne.symm (n1))) cw_X12_copy km12_65 rfl ⟨Nat.le_of_ble_eq_true rfl, Nat.le_of_ble_eq_true rfl⟩ hl.1 rfl (Nat.le_of_ble_eq_true rfl) ⟨Nat.le_of_ble_eq_true rfl, Nat.le_of_ble_eq_true rfl⟩ dX12_back_8 (fun L_1170 f_1171 H locs hf_1171 Y => ?_)
  obtain ⟨g__1172, kf_1171, z_z_1173, hg_1174⟩ := hf_1171
  have p_h := kf_1171.1 h _ (nmc (p_h.neA p_a) nm0) p_h
  have p_im := kf_1171.1 im _ (nmc (Ne.symm (n1)) nm0) p_im
  have p_a := z_z_1173
  refine lv_aload_n hx hb dX12_back_11 rfl (lv_at hl 0 rfl) ?_
  refine pg_get S Y ok_X12 0 (by decide) kf12_7 (v := .ref a) p_h rfl dX12_back_12 ?_
  refine lv_bipush (v := 10) hx hb dX12_back_15 (by decide) ?_
  refine pg_iald S Y (v := 0) p_a (by unfold vp_in; decide) ((hg_1174 10 (by decide)).trans hi10) dX12_back_17 ?_
  exact prI (post := fun r L1 f1 => r = 0) S Y rfl (by decide) (by decide) hA1 rfl dX12_back_18
set_option maxHeartbeats 4000000 in
set_option maxRecDepth 100000 in
theorem c_X12_init {l : Launch} {G : GG} {L : List Nat} {f : HF} {h : Nat}  (p_h : pt L f h (.inr (12, [.null, .null, .null, .null, .int 0, .int 0, .int 0, .int 0, .int 0, .int 0, .int 0, .long 0, .int 0, .int 0, .int 0, .null, .null, .int 0, .int 0, .int 0, .int 0, .int 0, .null, .null, .null, .int 0, .null, .null, .null, .null, .int 0, .null])))  : PMv l yX12_init cX12_init 1 1 14 25415 G [.ref h] L f (fun L1 f1 => ∃ a : Nat, ∃ im : Nat, ∃ te : Nat, ∃ tp : Nat, ∃ pi : Nat, ∃ co : Nat, ∃ na : Nat, ∃ vl : Nat, ∃ tr : Nat, ∃ ac : Nat, ∃ as_ : Nat, ∃ su : Nat, ∃ wi_ : Nat, ∃ se : Nat, ∃ gi : Nat → Int32, kp L f L1 f1 [h] ∧ pt L1 f1 h (.inr (12, [.ref a, .ref im, .ref te, .ref tp, .int 0, .int (-1), .int (-1), .int 0, .int 0, .int 0, .int 0, .long 0, .int 0, .int 0, .int 0, .ref pi, .ref co, .int 0, .int 0, .int 0, .int 0, .int 0, .ref na, .ref vl, .ref tr, .int 1, .ref ac, .ref as_, .ref su, .ref wi_, .int 0, .ref se])) ∧ pt L1 f1 a (.inl (G.2 0, 10568, .inl a0)) ∧ pt L1 f1 im (.inl (G.2 0, 10568, .inl gi)) ∧ pt L1 f1 te (.inl (G.2 0, 2916, .inl (fun _ => 0))) ∧ pt L1 f1 tp (.inl (G.2 0, 300, .inl (fun _ => 0))) ∧ pt L1 f1 ac (.inl (G.2 0, 6, .inl (fun _ => 0))) ∧ pt L1 f1 as_ (.inl (G.2 0, 114, .inl (fun _ => 0))) ∧ pt L1 f1 se (.inl (G.2 0, 6, .inl (fun _ => 0))) ∧ a ≠ im ∧ ∀ k, k < 10568 → gi k = a0 k) := by
  refine PMv.of (post := fun L1 f1 => ∃ a : Nat, ∃ im : Nat, ∃ te : Nat, ∃ tp : Nat, ∃ pi : Nat, ∃ co : Nat, ∃ na : Nat, ∃ vl : Nat, ∃ tr : Nat, ∃ ac : Nat, ∃ as_ : Nat, ∃ su : Nat, ∃ wi_ : Nat, ∃ se : Nat, ∃ gi : Nat → Int32, kp L f L1 f1 [h] ∧ pt L1 f1 h (.inr (12, [.ref a, .ref im, .ref te, .ref tp, .int 0, .int (-1), .int (-1), .int 0, .int 0, .int 0, .int 0, .long 0, .int 0, .int 0, .int 0, .ref pi, .ref co, .int 0, .int 0, .int 0, .int 0, .int 0, .ref na, .ref vl, .ref tr, .int 1, .ref ac, .ref as_, .ref su, .ref wi_, .int 0, .ref se])) ∧ pt L1 f1 a (.inl (G.2 0, 10568, .inl a0)) ∧ pt L1 f1 im (.inl (G.2 0, 10568, .inl gi)) ∧ pt L1 f1 te (.inl (G.2 0, 2916, .inl (fun _ => 0))) ∧ pt L1 f1 tp (.inl (G.2 0, 300, .inl (fun _ => 0))) ∧ pt L1 f1 ac (.inl (G.2 0, 6, .inl (fun _ => 0))) ∧ pt L1 f1 as_ (.inl (G.2 0, 114, .inl (fun _ => 0))) ∧ pt L1 f1 se (.inl (G.2 0, 6, .inl (fun _ => 0))) ∧ a ≠ im ∧ ∀ k, k < 10568 → gi k = a0 k) (own := RX12) (by decide) rfl (Nat.le_of_ble_eq_true rfl) (fun sz p e s m args below meth c A ls hA1 hname S Y hl => ?_)
  have hx := S.hx
  have hb := S.hb
  have hl : lv_has ls 1 [(0, .ref h)] := hl
  have hk : kp L f L f [h] := kp.rf
  refine lv_aload_n hx hb dX12_init_0 rfl (lv_at hl 0 rfl) ?_
  refine pObj S km12_1 kObj1 kObj2 hl.1 (Nat.le_of_ble_eq_true rfl) (Nat.le_of_ble_eq_true rfl) dX12_init_1 ?_
  refine lv_aload_n hx hb dX12_init_4 rfl (lv_at hl 0 rfl) ?_
  refine lv_sipush (v := 10568) hx hb dX12_init_5 (by decide) ?_
  refine pg_newa S Y (ty := .int) rfl 0 rfl ka_int (N' := 10568) (10568, .inl (fun _ => 0)) (fun _ => rfl) (by decide) (by decide) (by decide) (by decide) (by decide) dX12_init_8 (fun q_1175 f_1176 H nq_1175 ef_1176 Y => ?_)
  have whkq_1175 := hk.notin nq_1175
  have hk := hk.push ef_1176 nq_1175
  have p_h := p_h.push ef_1176 nq_1175
  have p_q_1175 := pt.new (L := L) ef_1176
  refine pg_putF S Y hname ok_X12 0 (by decide) kf12_7 rfl rfl (fs' := [.ref q_1175, .null, .null, .null, .int 0, .int 0, .int 0, .int 0, .int 0, .int 0, .int 0, .long 0, .int 0, .int 0, .int 0, .null, .null, .int 0, .int 0, .int 0, .int 0, .int 0, .null, .null, .null, .int 0, .null, .null, .null, .null, .int 0, .null]) (v := .ref q_1175) p_h rfl rfl rfl (Nat.le_of_ble_eq_true rfl) dX12_init_10 (fun f_1177 H locs ef_1177 Y => ?_)
  have p_q_1175 := p_q_1175.up ef_1177 ((p_q_1175.neB p_h))
  have p_h := p_h.me ef_1177
  have hk := hk.up ef_1177 (by simp)
  refine lv_aload_n hx hb dX12_init_13 rfl (lv_at hl 0 rfl) ?_
  refine lv_sipush (v := 10568) hx hb dX12_init_14 (by decide) ?_
  refine pg_newa S Y (ty := .int) rfl 0 rfl ka_int (N' := 10568) (10568, .inl (fun _ => 0)) (fun _ => rfl) (by decide) (by decide) (by decide) (by decide) (by decide) dX12_init_17 (fun q_1178 f_1179 H nq_1178 ef_1179 Y => ?_)
  have whkq_1178 := hk.notin nq_1178
  have hk := hk.push ef_1179 nq_1178
  have p_h := p_h.push ef_1179 nq_1178
  have dq_1175_q_1178 := p_q_1175.neQ nq_1178
  have p_q_1175 := p_q_1175.push ef_1179 nq_1178
  have p_q_1178 := pt.new (L := (L ++ [q_1175])) ef_1179
  refine pg_putF S Y hname ok_X12 1 (by decide) kf12_13 rfl rfl (fs' := [.ref q_1175, .ref q_1178, .null, .null, .int 0, .int 0, .int 0, .int 0, .int 0, .int 0, .int 0, .long 0, .int 0, .int 0, .int 0, .null, .null, .int 0, .int 0, .int 0, .int 0, .int 0, .null, .null, .null, .int 0, .null, .null, .null, .null, .int 0, .null]) (v := .ref q_1178) p_h rfl rfl rfl (Nat.le_of_ble_eq_true rfl) dX12_init_19 (fun f_1180 H locs ef_1180 Y => ?_)
  have p_q_1175 := p_q_1175.up ef_1180 ((p_q_1175.neB p_h))
  have p_q_1178 := p_q_1178.up ef_1180 ((p_q_1178.neB p_h))
  have p_h := p_h.me ef_1180
  have hk := hk.up ef_1180 (by simp)
  refine lv_aload_n hx hb dX12_init_22 rfl (lv_at hl 0 rfl) ?_
  refine lv_sipush (v := 2916) hx hb dX12_init_23 (by decide) ?_
  refine pg_newa S Y (ty := .int) rfl 0 rfl ka_int (N' := 2916) (2916, .inl (fun _ => 0)) (fun _ => rfl) (by decide) (by decide) (by decide) (by decide) (by decide) dX12_init_26 (fun q_1181 f_1182 H nq_1181 ef_1182 Y => ?_)
  have whkq_1181 := hk.notin nq_1181
  have hk := hk.push ef_1182 nq_1181
  have p_h := p_h.push ef_1182 nq_1181
  have p_q_1175 := p_q_1175.push ef_1182 nq_1181
  have p_q_1178 := p_q_1178.push ef_1182 nq_1181
  have p_q_1181 := pt.new (L := ((L ++ [q_1175]) ++ [q_1178])) ef_1182
  refine pg_putF S Y hname ok_X12 2 (by decide) kf12_16 rfl rfl (fs' := [.ref q_1175, .ref q_1178, .ref q_1181, .null, .int 0, .int 0, .int 0, .int 0, .int 0, .int 0, .int 0, .long 0, .int 0, .int 0, .int 0, .null, .null, .int 0, .int 0, .int 0, .int 0, .int 0, .null, .null, .null, .int 0, .null, .null, .null, .null, .int 0, .null]) (v := .ref q_1181) p_h rfl rfl rfl (Nat.le_of_ble_eq_true rfl) dX12_init_28 (fun f_1183 H locs ef_1183 Y => ?_)
  have p_q_1175 := p_q_1175.up ef_1183 ((p_q_1175.neB p_h))
  have p_q_1178 := p_q_1178.up ef_1183 ((p_q_1178.neB p_h))
  have p_q_1181 := p_q_1181.up ef_1183 ((p_q_1181.neB p_h))
  have p_h := p_h.me ef_1183
  have hk := hk.up ef_1183 (by simp)
  refine lv_aload_n hx hb dX12_init_31 rfl (lv_at hl 0 rfl) ?_
  refine lv_sipush (v := 300) hx hb dX12_init_32 (by decide) ?_
  refine pg_newa S Y (ty := .int) rfl 0 rfl ka_int (N' := 300) (300, .inl (fun _ => 0)) (fun _ => rfl) (by decide) (by decide) (by decide) (by decide) (by decide) dX12_init_35 (fun q_1184 f_1185 H nq_1184 ef_1185 Y => ?_)
  have whkq_1184 := hk.notin nq_1184
  have hk := hk.push ef_1185 nq_1184
  have p_h := p_h.push ef_1185 nq_1184
  have p_q_1175 := p_q_1175.push ef_1185 nq_1184
  have p_q_1178 := p_q_1178.push ef_1185 nq_1184
  have p_q_1181 := p_q_1181.push ef_1185 nq_1184
  have p_q_1184 := pt.new (L := (((L ++ [q_1175]) ++ [q_1178]) ++ [q_1181])) ef_1185
  refine pg_putF S Y hname ok_X12 3 (by decide) kf12_19 rfl rfl (fs' := [.ref q_1175, .ref q_1178, .ref q_1181, .ref q_1184, .int 0, .int 0, .int 0, .int 0, .int 0, .int 0, .int 0, .long 0, .int 0, .int 0, .int 0, .null, .null, .int 0, .int 0, .int 0, .int 0, .int 0, .null, .null, .null, .int 0, .null, .null, .null, .null, .int 0, .null]) (v := .ref q_1184) p_h rfl rfl rfl (Nat.le_of_ble_eq_true rfl) dX12_init_37 (fun f_1186 H locs ef_1186 Y => ?_)
  have p_q_1175 := p_q_1175.up ef_1186 ((p_q_1175.neB p_h))
  have p_q_1178 := p_q_1178.up ef_1186 ((p_q_1178.neB p_h))
  have p_q_1181 := p_q_1181.up ef_1186 ((p_q_1181.neB p_h))
  have p_q_1184 := p_q_1184.up ef_1186 ((p_q_1184.neB p_h))
  have p_h := p_h.me ef_1186
  have hk := hk.up ef_1186 (by simp)
  refine lv_aload_n hx hb dX12_init_40 rfl (lv_at hl 0 rfl) ?_
  refine lv_iconst (v := (-1)) hx hb dX12_init_41 (by decide) ?_
  refine pg_put S Y ok_X12 5 (by decide) kf12_22 rfl (fs' := [.ref q_1175, .ref q_1178, .ref q_1181, .ref q_1184, .int 0, .int (-1), .int 0, .int 0, .int 0, .int 0, .int 0, .long 0, .int 0, .int 0, .int 0, .null, .null, .int 0, .int 0, .int 0, .int 0, .int 0, .null, .null, .null, .int 0, .null, .null, .null, .null, .int 0, .null]) (v := .int (-1)) p_h rfl rfl rfl (Nat.le_of_ble_eq_true rfl) dX12_init_42 (fun f_1187 H locs ef_1187 Y => ?_)
  have p_q_1175 := p_q_1175.up ef_1187 ((p_q_1175.neB p_h))
  have p_q_1178 := p_q_1178.up ef_1187 ((p_q_1178.neB p_h))
  have p_q_1181 := p_q_1181.up ef_1187 ((p_q_1181.neB p_h))
  have p_q_1184 := p_q_1184.up ef_1187 ((p_q_1184.neB p_h))
  have p_h := p_h.me ef_1187
  have hk := hk.up ef_1187 (by simp)
  refine lv_aload_n hx hb dX12_init_45 rfl (lv_at hl 0 rfl) ?_
  refine lv_iconst (v := (-1)) hx hb dX12_init_46 (by decide) ?_
  refine pg_put S Y ok_X12 6 (by decide) kf12_26 rfl (fs' := [.ref q_1175, .ref q_1178, .ref q_1181, .ref q_1184, .int 0, .int (-1), .int (-1), .int 0, .int 0, .int 0, .int 0, .long 0, .int 0, .int 0, .int 0, .null, .null, .int 0, .int 0, .int 0, .int 0, .int 0, .null, .null, .null, .int 0, .null, .null, .null, .null, .int 0, .null]) (v := .int (-1)) p_h rfl rfl rfl (Nat.le_of_ble_eq_true rfl) dX12_init_47 (fun f_1188 H locs ef_1188 Y => ?_)
  have p_q_1175 := p_q_1175.up ef_1188 ((p_q_1175.neB p_h))
  have p_q_1178 := p_q_1178.up ef_1188 ((p_q_1178.neB p_h))
  have p_q_1181 := p_q_1181.up ef_1188 ((p_q_1181.neB p_h))
  have p_q_1184 := p_q_1184.up ef_1188 ((p_q_1184.neB p_h))
  have p_h := p_h.me ef_1188
  have hk := hk.up ef_1188 (by simp)
  refine lv_aload_n hx hb dX12_init_50 rfl (lv_at hl 0 rfl) ?_
  refine lv_sipush (v := 160) hx hb dX12_init_51 (by decide) ?_
  refine pg_newa S Y (ty := .int) rfl 0 rfl ka_int (N' := 160) (160, .inl (fun _ => 0)) (fun _ => rfl) (by decide) (by decide) (by decide) (by decide) (by decide) dX12_init_54 (fun q_1189 f_1190 H nq_1189 ef_1190 Y => ?_)
  have whkq_1189 := hk.notin nq_1189
  have hk := hk.push ef_1190 nq_1189
  have p_h := p_h.push ef_1190 nq_1189
  have p_q_1175 := p_q_1175.push ef_1190 nq_1189
  have p_q_1178 := p_q_1178.push ef_1190 nq_1189
  have p_q_1181 := p_q_1181.push ef_1190 nq_1189
  have p_q_1184 := p_q_1184.push ef_1190 nq_1189
  have p_q_1189 := pt.new (L := ((((L ++ [q_1175]) ++ [q_1178]) ++ [q_1181]) ++ [q_1184])) ef_1190
  refine pg_putF S Y hname ok_X12 15 (by decide) kf12_29 rfl rfl (fs' := [.ref q_1175, .ref q_1178, .ref q_1181, .ref q_1184, .int 0, .int (-1), .int (-1), .int 0, .int 0, .int 0, .int 0, .long 0, .int 0, .int 0, .int 0, .ref q_1189, .null, .int 0, .int 0, .int 0, .int 0, .int 0, .null, .null, .null, .int 0, .null, .null, .null, .null, .int 0, .null]) (v := .ref q_1189) p_h rfl rfl rfl (Nat.le_of_ble_eq_true rfl) dX12_init_56 (fun f_1191 H locs ef_1191 Y => ?_)
  have p_q_1175 := p_q_1175.up ef_1191 ((p_q_1175.neB p_h))
  have p_q_1178 := p_q_1178.up ef_1191 ((p_q_1178.neB p_h))
  have p_q_1181 := p_q_1181.up ef_1191 ((p_q_1181.neB p_h))
  have p_q_1184 := p_q_1184.up ef_1191 ((p_q_1184.neB p_h))
  have p_q_1189 := p_q_1189.up ef_1191 ((p_q_1189.neB p_h))
  have p_h := p_h.me ef_1191
  have hk := hk.up ef_1191 (by simp)
  refine lv_aload_n hx hb dX12_init_59 rfl (lv_at hl 0 rfl) ?_
  refine lv_bipush (v := 9) hx hb dX12_init_60 (by decide) ?_
  refine pg_newa S Y (ty := .int) rfl 0 rfl ka_int (N' := 9) (9, .inl (fun _ => 0)) (fun _ => rfl) (by decide) (by decide) (by decide) (by decide) (by decide) dX12_init_62 (fun q_1192 f_1193 H nq_1192 ef_1193 Y => ?_)
  have whkq_1192 := hk.notin nq_1192
  have hk := hk.push ef_1193 nq_1192
  have p_h := p_h.push ef_1193 nq_1192
  have p_q_1175 := p_q_1175.push ef_1193 nq_1192
  have p_q_1178 := p_q_1178.push ef_1193 nq_1192
  have p_q_1181 := p_q_1181.push ef_1193 nq_1192
  have p_q_1184 := p_q_1184.push ef_1193 nq_1192
  have p_q_1189 := p_q_1189.push ef_1193 nq_1192
  have p_q_1192 := pt.new (L := (((((L ++ [q_1175]) ++ [q_1178]) ++ [q_1181]) ++ [q_1184]) ++ [q_1189])) ef_1193
  refine pg_putF S Y hname ok_X12 16 (by decide) kf12_32 rfl rfl (fs' := [.ref q_1175, .ref q_1178, .ref q_1181, .ref q_1184, .int 0, .int (-1), .int (-1), .int 0, .int 0, .int 0, .int 0, .long 0, .int 0, .int 0, .int 0, .ref q_1189, .ref q_1192, .int 0, .int 0, .int 0, .int 0, .int 0, .null, .null, .null, .int 0, .null, .null, .null, .null, .int 0, .null]) (v := .ref q_1192) p_h rfl rfl rfl (Nat.le_of_ble_eq_true rfl) dX12_init_64 (fun f_1194 H locs ef_1194 Y => ?_)
  have p_q_1175 := p_q_1175.up ef_1194 ((p_q_1175.neB p_h))
  have p_q_1178 := p_q_1178.up ef_1194 ((p_q_1178.neB p_h))
  have p_q_1181 := p_q_1181.up ef_1194 ((p_q_1181.neB p_h))
  have p_q_1184 := p_q_1184.up ef_1194 ((p_q_1184.neB p_h))
  have p_q_1189 := p_q_1189.up ef_1194 ((p_q_1189.neB p_h))
  have p_q_1192 := p_q_1192.up ef_1194 ((p_q_1192.neB p_h))
  have p_h := p_h.me ef_1194
  have hk := hk.up ef_1194 (by simp)
  refine lv_aload_n hx hb dX12_init_67 rfl (lv_at hl 0 rfl) ?_
  refine lv_bipush (v := 10) hx hb dX12_init_68 (by decide) ?_
  refine pg_newa S Y (ty := .int) rfl 0 rfl ka_int (N' := 10) (10, .inl (fun _ => 0)) (fun _ => rfl) (by decide) (by decide) (by decide) (by decide) (by decide) dX12_init_70 (fun q_1195 f_1196 H nq_1195 ef_1196 Y => ?_)
  have whkq_1195 := hk.notin nq_1195
  have hk := hk.push ef_1196 nq_1195
  have p_h := p_h.push ef_1196 nq_1195
  have p_q_1175 := p_q_1175.push ef_1196 nq_1195
  have p_q_1178 := p_q_1178.push ef_1196 nq_1195
  have p_q_1181 := p_q_1181.push ef_1196 nq_1195
  have p_q_1184 := p_q_1184.push ef_1196 nq_1195
  have p_q_1189 := p_q_1189.push ef_1196 nq_1195
  have p_q_1192 := p_q_1192.push ef_1196 nq_1195
  have p_q_1195 := pt.new (L := ((((((L ++ [q_1175]) ++ [q_1178]) ++ [q_1181]) ++ [q_1184]) ++ [q_1189]) ++ [q_1192])) ef_1196
  refine pg_putF S Y hname ok_X12 22 (by decide) kf12_35 rfl rfl (fs' := [.ref q_1175, .ref q_1178, .ref q_1181, .ref q_1184, .int 0, .int (-1), .int (-1), .int 0, .int 0, .int 0, .int 0, .long 0, .int 0, .int 0, .int 0, .ref q_1189, .ref q_1192, .int 0, .int 0, .int 0, .int 0, .int 0, .ref q_1195, .null, .null, .int 0, .null, .null, .null, .null, .int 0, .null]) (v := .ref q_1195) p_h rfl rfl rfl (Nat.le_of_ble_eq_true rfl) dX12_init_72 (fun f_1197 H locs ef_1197 Y => ?_)
  have p_q_1175 := p_q_1175.up ef_1197 ((p_q_1175.neB p_h))
  have p_q_1178 := p_q_1178.up ef_1197 ((p_q_1178.neB p_h))
  have p_q_1181 := p_q_1181.up ef_1197 ((p_q_1181.neB p_h))
  have p_q_1184 := p_q_1184.up ef_1197 ((p_q_1184.neB p_h))
  have p_q_1189 := p_q_1189.up ef_1197 ((p_q_1189.neB p_h))
  have p_q_1192 := p_q_1192.up ef_1197 ((p_q_1192.neB p_h))
  have p_q_1195 := p_q_1195.up ef_1197 ((p_q_1195.neB p_h))
  have p_h := p_h.me ef_1197
  have hk := hk.up ef_1197 (by simp)
  refine lv_aload_n hx hb dX12_init_75 rfl (lv_at hl 0 rfl) ?_
  refine lv_sipush (v := 330) hx hb dX12_init_76 (by decide) ?_
  refine pg_newa S Y (ty := .long) rfl 1 rfl ka_long (N' := 330) (330, .inr (.inl (fun _ => 0))) (fun _ => rfl) (by decide) (by decide) (by decide) (by decide) (by decide) dX12_init_79 (fun q_1198 f_1199 H nq_1198 ef_1199 Y => ?_)
  have whkq_1198 := hk.notin nq_1198
  have hk := hk.push ef_1199 nq_1198
  have p_h := p_h.push ef_1199 nq_1198
  have p_q_1175 := p_q_1175.push ef_1199 nq_1198
  have p_q_1178 := p_q_1178.push ef_1199 nq_1198
  have p_q_1181 := p_q_1181.push ef_1199 nq_1198
  have p_q_1184 := p_q_1184.push ef_1199 nq_1198
  have p_q_1189 := p_q_1189.push ef_1199 nq_1198
  have p_q_1192 := p_q_1192.push ef_1199 nq_1198
  have p_q_1195 := p_q_1195.push ef_1199 nq_1198
  have p_q_1198 := pt.new (L := (((((((L ++ [q_1175]) ++ [q_1178]) ++ [q_1181]) ++ [q_1184]) ++ [q_1189]) ++ [q_1192]) ++ [q_1195])) ef_1199
  refine pg_putF S Y hname ok_X12 23 (by decide) kf12_38 rfl rfl (fs' := [.ref q_1175, .ref q_1178, .ref q_1181, .ref q_1184, .int 0, .int (-1), .int (-1), .int 0, .int 0, .int 0, .int 0, .long 0, .int 0, .int 0, .int 0, .ref q_1189, .ref q_1192, .int 0, .int 0, .int 0, .int 0, .int 0, .ref q_1195, .ref q_1198, .null, .int 0, .null, .null, .null, .null, .int 0, .null]) (v := .ref q_1198) p_h rfl rfl rfl (Nat.le_of_ble_eq_true rfl) dX12_init_81 (fun f_1200 H locs ef_1200 Y => ?_)
  have p_q_1175 := p_q_1175.up ef_1200 ((p_q_1175.neB p_h))
  have p_q_1178 := p_q_1178.up ef_1200 ((p_q_1178.neB p_h))
  have p_q_1181 := p_q_1181.up ef_1200 ((p_q_1181.neB p_h))
  have p_q_1184 := p_q_1184.up ef_1200 ((p_q_1184.neB p_h))
  have p_q_1189 := p_q_1189.up ef_1200 ((p_q_1189.neB p_h))
  have p_q_1192 := p_q_1192.up ef_1200 ((p_q_1192.neB p_h))
  have p_q_1195 := p_q_1195.up ef_1200 ((p_q_1195.neB p_h))
  have p_q_1198 := p_q_1198.up ef_1200 ((p_q_1198.neB p_h))
  have p_h := p_h.me ef_1200
  have hk := hk.up ef_1200 (by simp)
  refine lv_aload_n hx hb dX12_init_84 rfl (lv_at hl 0 rfl) ?_
  refine lv_sipush (v := 330) hx hb dX12_init_85 (by decide) ?_
  refine pg_newa S Y (ty := .boolean) rfl 2 rfl ka_boolean (N' := 330) (330, .inl (fun _ => 0)) (fun _ => rfl) (by decide) (by decide) (by decide) (by decide) (by decide) dX12_init_88 (fun q_1201 f_1202 H nq_1201 ef_1202 Y => ?_)
  have whkq_1201 := hk.notin nq_1201
  have hk := hk.push ef_1202 nq_1201
  have p_h := p_h.push ef_1202 nq_1201
  have p_q_1175 := p_q_1175.push ef_1202 nq_1201
  have p_q_1178 := p_q_1178.push ef_1202 nq_1201
  have p_q_1181 := p_q_1181.push ef_1202 nq_1201
  have p_q_1184 := p_q_1184.push ef_1202 nq_1201
  have p_q_1189 := p_q_1189.push ef_1202 nq_1201
  have p_q_1192 := p_q_1192.push ef_1202 nq_1201
  have p_q_1195 := p_q_1195.push ef_1202 nq_1201
  have dq_1198_q_1201 := p_q_1198.neQ nq_1201
  have p_q_1198 := p_q_1198.push ef_1202 nq_1201
  have p_q_1201 := pt.new (L := ((((((((L ++ [q_1175]) ++ [q_1178]) ++ [q_1181]) ++ [q_1184]) ++ [q_1189]) ++ [q_1192]) ++ [q_1195]) ++ [q_1198])) ef_1202
  refine pg_putF S Y hname ok_X12 24 (by decide) kf12_42 rfl rfl (fs' := [.ref q_1175, .ref q_1178, .ref q_1181, .ref q_1184, .int 0, .int (-1), .int (-1), .int 0, .int 0, .int 0, .int 0, .long 0, .int 0, .int 0, .int 0, .ref q_1189, .ref q_1192, .int 0, .int 0, .int 0, .int 0, .int 0, .ref q_1195, .ref q_1198, .ref q_1201, .int 0, .null, .null, .null, .null, .int 0, .null]) (v := .ref q_1201) p_h rfl rfl rfl (Nat.le_of_ble_eq_true rfl) dX12_init_90 (fun f_1203 H locs ef_1203 Y => ?_)
  have p_q_1175 := p_q_1175.up ef_1203 ((p_q_1175.neB p_h))
  have p_q_1178 := p_q_1178.up ef_1203 ((p_q_1178.neB p_h))
  have p_q_1181 := p_q_1181.up ef_1203 ((p_q_1181.neB p_h))
  have p_q_1184 := p_q_1184.up ef_1203 ((p_q_1184.neB p_h))
  have p_q_1189 := p_q_1189.up ef_1203 ((p_q_1189.neB p_h))
  have p_q_1192 := p_q_1192.up ef_1203 ((p_q_1192.neB p_h))
  have p_q_1195 := p_q_1195.up ef_1203 ((p_q_1195.neB p_h))
  have p_q_1198 := p_q_1198.up ef_1203 ((p_q_1198.neB p_h))
  have p_q_1201 := p_q_1201.up ef_1203 ((p_q_1201.neB p_h))
  have p_h := p_h.me ef_1203
  have hk := hk.up ef_1203 (by simp)
  refine lv_aload_n hx hb dX12_init_93 rfl (lv_at hl 0 rfl) ?_
  refine lv_iconst (v := 1) hx hb dX12_init_94 (by decide) ?_
  refine pg_put S Y ok_X12 25 (by decide) kf12_46 rfl (fs' := [.ref q_1175, .ref q_1178, .ref q_1181, .ref q_1184, .int 0, .int (-1), .int (-1), .int 0, .int 0, .int 0, .int 0, .long 0, .int 0, .int 0, .int 0, .ref q_1189, .ref q_1192, .int 0, .int 0, .int 0, .int 0, .int 0, .ref q_1195, .ref q_1198, .ref q_1201, .int 1, .null, .null, .null, .null, .int 0, .null]) (v := .int 1) p_h rfl rfl rfl (Nat.le_of_ble_eq_true rfl) dX12_init_95 (fun f_1204 H locs ef_1204 Y => ?_)
  have p_q_1175 := p_q_1175.up ef_1204 ((p_q_1175.neB p_h))
  have p_q_1178 := p_q_1178.up ef_1204 ((p_q_1178.neB p_h))
  have p_q_1181 := p_q_1181.up ef_1204 ((p_q_1181.neB p_h))
  have p_q_1184 := p_q_1184.up ef_1204 ((p_q_1184.neB p_h))
  have p_q_1189 := p_q_1189.up ef_1204 ((p_q_1189.neB p_h))
  have p_q_1192 := p_q_1192.up ef_1204 ((p_q_1192.neB p_h))
  have p_q_1195 := p_q_1195.up ef_1204 ((p_q_1195.neB p_h))
  have p_q_1198 := p_q_1198.up ef_1204 ((p_q_1198.neB p_h))
  have p_q_1201 := p_q_1201.up ef_1204 ((p_q_1201.neB p_h))
  have p_h := p_h.me ef_1204
  have hk := hk.up ef_1204 (by simp)
  refine lv_aload_n hx hb dX12_init_98 rfl (lv_at hl 0 rfl) ?_
  refine lv_bipush (v := 6) hx hb dX12_init_99 (by decide) ?_
  refine pg_newa S Y (ty := .int) rfl 0 rfl ka_int (N' := 6) (6, .inl (fun _ => 0)) (fun _ => rfl) (by decide) (by decide) (by decide) (by decide) (by decide) dX12_init_101 (fun q_1205 f_1206 H nq_1205 ef_1206 Y => ?_)
  have whkq_1205 := hk.notin nq_1205
  have hk := hk.push ef_1206 nq_1205
  have p_h := p_h.push ef_1206 nq_1205
  have p_q_1175 := p_q_1175.push ef_1206 nq_1205
  have p_q_1178 := p_q_1178.push ef_1206 nq_1205
  have p_q_1181 := p_q_1181.push ef_1206 nq_1205
  have p_q_1184 := p_q_1184.push ef_1206 nq_1205
  have p_q_1189 := p_q_1189.push ef_1206 nq_1205
  have p_q_1192 := p_q_1192.push ef_1206 nq_1205
  have p_q_1195 := p_q_1195.push ef_1206 nq_1205
  have p_q_1198 := p_q_1198.push ef_1206 nq_1205
  have p_q_1201 := p_q_1201.push ef_1206 nq_1205
  have p_q_1205 := pt.new (L := (((((((((L ++ [q_1175]) ++ [q_1178]) ++ [q_1181]) ++ [q_1184]) ++ [q_1189]) ++ [q_1192]) ++ [q_1195]) ++ [q_1198]) ++ [q_1201])) ef_1206
  refine pg_putF S Y hname ok_X12 26 (by decide) kf12_50 rfl rfl (fs' := [.ref q_1175, .ref q_1178, .ref q_1181, .ref q_1184, .int 0, .int (-1), .int (-1), .int 0, .int 0, .int 0, .int 0, .long 0, .int 0, .int 0, .int 0, .ref q_1189, .ref q_1192, .int 0, .int 0, .int 0, .int 0, .int 0, .ref q_1195, .ref q_1198, .ref q_1201, .int 1, .ref q_1205, .null, .null, .null, .int 0, .null]) (v := .ref q_1205) p_h rfl rfl rfl (Nat.le_of_ble_eq_true rfl) dX12_init_103 (fun f_1207 H locs ef_1207 Y => ?_)
  have p_q_1175 := p_q_1175.up ef_1207 ((p_q_1175.neB p_h))
  have p_q_1178 := p_q_1178.up ef_1207 ((p_q_1178.neB p_h))
  have p_q_1181 := p_q_1181.up ef_1207 ((p_q_1181.neB p_h))
  have p_q_1184 := p_q_1184.up ef_1207 ((p_q_1184.neB p_h))
  have p_q_1189 := p_q_1189.up ef_1207 ((p_q_1189.neB p_h))
  have p_q_1192 := p_q_1192.up ef_1207 ((p_q_1192.neB p_h))
  have p_q_1195 := p_q_1195.up ef_1207 ((p_q_1195.neB p_h))
  have p_q_1198 := p_q_1198.up ef_1207 ((p_q_1198.neB p_h))
  have p_q_1201 := p_q_1201.up ef_1207 ((p_q_1201.neB p_h))
  have p_q_1205 := p_q_1205.up ef_1207 ((p_q_1205.neB p_h))
  have p_h := p_h.me ef_1207
  have hk := hk.up ef_1207 (by simp)
  refine lv_aload_n hx hb dX12_init_106 rfl (lv_at hl 0 rfl) ?_
  refine lv_bipush (v := 114) hx hb dX12_init_107 (by decide) ?_
  refine pg_newa S Y (ty := .int) rfl 0 rfl ka_int (N' := 114) (114, .inl (fun _ => 0)) (fun _ => rfl) (by decide) (by decide) (by decide) (by decide) (by decide) dX12_init_109 (fun q_1208 f_1209 H nq_1208 ef_1209 Y => ?_)
  have whkq_1208 := hk.notin nq_1208
  have hk := hk.push ef_1209 nq_1208
  have p_h := p_h.push ef_1209 nq_1208
  have p_q_1175 := p_q_1175.push ef_1209 nq_1208
  have p_q_1178 := p_q_1178.push ef_1209 nq_1208
  have p_q_1181 := p_q_1181.push ef_1209 nq_1208
  have p_q_1184 := p_q_1184.push ef_1209 nq_1208
  have p_q_1189 := p_q_1189.push ef_1209 nq_1208
  have p_q_1192 := p_q_1192.push ef_1209 nq_1208
  have p_q_1195 := p_q_1195.push ef_1209 nq_1208
  have p_q_1198 := p_q_1198.push ef_1209 nq_1208
  have p_q_1201 := p_q_1201.push ef_1209 nq_1208
  have p_q_1205 := p_q_1205.push ef_1209 nq_1208
  have p_q_1208 := pt.new (L := ((((((((((L ++ [q_1175]) ++ [q_1178]) ++ [q_1181]) ++ [q_1184]) ++ [q_1189]) ++ [q_1192]) ++ [q_1195]) ++ [q_1198]) ++ [q_1201]) ++ [q_1205])) ef_1209
  refine pg_putF S Y hname ok_X12 27 (by decide) kf12_53 rfl rfl (fs' := [.ref q_1175, .ref q_1178, .ref q_1181, .ref q_1184, .int 0, .int (-1), .int (-1), .int 0, .int 0, .int 0, .int 0, .long 0, .int 0, .int 0, .int 0, .ref q_1189, .ref q_1192, .int 0, .int 0, .int 0, .int 0, .int 0, .ref q_1195, .ref q_1198, .ref q_1201, .int 1, .ref q_1205, .ref q_1208, .null, .null, .int 0, .null]) (v := .ref q_1208) p_h rfl rfl rfl (Nat.le_of_ble_eq_true rfl) dX12_init_111 (fun f_1210 H locs ef_1210 Y => ?_)
  have p_q_1175 := p_q_1175.up ef_1210 ((p_q_1175.neB p_h))
  have p_q_1178 := p_q_1178.up ef_1210 ((p_q_1178.neB p_h))
  have p_q_1181 := p_q_1181.up ef_1210 ((p_q_1181.neB p_h))
  have p_q_1184 := p_q_1184.up ef_1210 ((p_q_1184.neB p_h))
  have p_q_1189 := p_q_1189.up ef_1210 ((p_q_1189.neB p_h))
  have p_q_1192 := p_q_1192.up ef_1210 ((p_q_1192.neB p_h))
  have p_q_1195 := p_q_1195.up ef_1210 ((p_q_1195.neB p_h))
  have p_q_1198 := p_q_1198.up ef_1210 ((p_q_1198.neB p_h))
  have p_q_1201 := p_q_1201.up ef_1210 ((p_q_1201.neB p_h))
  have p_q_1205 := p_q_1205.up ef_1210 ((p_q_1205.neB p_h))
  have p_q_1208 := p_q_1208.up ef_1210 ((p_q_1208.neB p_h))
  have p_h := p_h.me ef_1210
  have hk := hk.up ef_1210 (by simp)
  refine lv_aload_n hx hb dX12_init_114 rfl (lv_at hl 0 rfl) ?_
  refine lv_bipush (v := 84) hx hb dX12_init_115 (by decide) ?_
  refine pg_newa S Y (ty := .int) rfl 0 rfl ka_int (N' := 84) (84, .inl (fun _ => 0)) (fun _ => rfl) (by decide) (by decide) (by decide) (by decide) (by decide) dX12_init_117 (fun q_1211 f_1212 H nq_1211 ef_1212 Y => ?_)
  have whkq_1211 := hk.notin nq_1211
  have hk := hk.push ef_1212 nq_1211
  have p_h := p_h.push ef_1212 nq_1211
  have p_q_1175 := p_q_1175.push ef_1212 nq_1211
  have p_q_1178 := p_q_1178.push ef_1212 nq_1211
  have p_q_1181 := p_q_1181.push ef_1212 nq_1211
  have p_q_1184 := p_q_1184.push ef_1212 nq_1211
  have p_q_1189 := p_q_1189.push ef_1212 nq_1211
  have p_q_1192 := p_q_1192.push ef_1212 nq_1211
  have p_q_1195 := p_q_1195.push ef_1212 nq_1211
  have p_q_1198 := p_q_1198.push ef_1212 nq_1211
  have p_q_1201 := p_q_1201.push ef_1212 nq_1211
  have p_q_1205 := p_q_1205.push ef_1212 nq_1211
  have p_q_1208 := p_q_1208.push ef_1212 nq_1211
  have p_q_1211 := pt.new (L := (((((((((((L ++ [q_1175]) ++ [q_1178]) ++ [q_1181]) ++ [q_1184]) ++ [q_1189]) ++ [q_1192]) ++ [q_1195]) ++ [q_1198]) ++ [q_1201]) ++ [q_1205]) ++ [q_1208])) ef_1212
  refine pg_putF S Y hname ok_X12 28 (by decide) kf12_56 rfl rfl (fs' := [.ref q_1175, .ref q_1178, .ref q_1181, .ref q_1184, .int 0, .int (-1), .int (-1), .int 0, .int 0, .int 0, .int 0, .long 0, .int 0, .int 0, .int 0, .ref q_1189, .ref q_1192, .int 0, .int 0, .int 0, .int 0, .int 0, .ref q_1195, .ref q_1198, .ref q_1201, .int 1, .ref q_1205, .ref q_1208, .ref q_1211, .null, .int 0, .null]) (v := .ref q_1211) p_h rfl rfl rfl (Nat.le_of_ble_eq_true rfl) dX12_init_119 (fun f_1213 H locs ef_1213 Y => ?_)
  have p_q_1175 := p_q_1175.up ef_1213 ((p_q_1175.neB p_h))
  have p_q_1178 := p_q_1178.up ef_1213 ((p_q_1178.neB p_h))
  have p_q_1181 := p_q_1181.up ef_1213 ((p_q_1181.neB p_h))
  have p_q_1184 := p_q_1184.up ef_1213 ((p_q_1184.neB p_h))
  have p_q_1189 := p_q_1189.up ef_1213 ((p_q_1189.neB p_h))
  have p_q_1192 := p_q_1192.up ef_1213 ((p_q_1192.neB p_h))
  have p_q_1195 := p_q_1195.up ef_1213 ((p_q_1195.neB p_h))
  have p_q_1198 := p_q_1198.up ef_1213 ((p_q_1198.neB p_h))
  have p_q_1201 := p_q_1201.up ef_1213 ((p_q_1201.neB p_h))
  have p_q_1205 := p_q_1205.up ef_1213 ((p_q_1205.neB p_h))
  have p_q_1208 := p_q_1208.up ef_1213 ((p_q_1208.neB p_h))
  have p_q_1211 := p_q_1211.up ef_1213 ((p_q_1211.neB p_h))
  have p_h := p_h.me ef_1213
  have hk := hk.up ef_1213 (by simp)
  refine lv_aload_n hx hb dX12_init_122 rfl (lv_at hl 0 rfl) ?_
  refine lv_bipush (v := 14) hx hb dX12_init_123 (by decide) ?_
  refine pg_newa S Y (ty := .int) rfl 0 rfl ka_int (N' := 14) (14, .inl (fun _ => 0)) (fun _ => rfl) (by decide) (by decide) (by decide) (by decide) (by decide) dX12_init_125 (fun q_1214 f_1215 H nq_1214 ef_1215 Y => ?_)
  have whkq_1214 := hk.notin nq_1214
  have hk := hk.push ef_1215 nq_1214
  have p_h := p_h.push ef_1215 nq_1214
  have p_q_1175 := p_q_1175.push ef_1215 nq_1214
  have p_q_1178 := p_q_1178.push ef_1215 nq_1214
  have p_q_1181 := p_q_1181.push ef_1215 nq_1214
  have p_q_1184 := p_q_1184.push ef_1215 nq_1214
  have p_q_1189 := p_q_1189.push ef_1215 nq_1214
  have p_q_1192 := p_q_1192.push ef_1215 nq_1214
  have p_q_1195 := p_q_1195.push ef_1215 nq_1214
  have p_q_1198 := p_q_1198.push ef_1215 nq_1214
  have p_q_1201 := p_q_1201.push ef_1215 nq_1214
  have p_q_1205 := p_q_1205.push ef_1215 nq_1214
  have p_q_1208 := p_q_1208.push ef_1215 nq_1214
  have p_q_1211 := p_q_1211.push ef_1215 nq_1214
  have p_q_1214 := pt.new (L := ((((((((((((L ++ [q_1175]) ++ [q_1178]) ++ [q_1181]) ++ [q_1184]) ++ [q_1189]) ++ [q_1192]) ++ [q_1195]) ++ [q_1198]) ++ [q_1201]) ++ [q_1205]) ++ [q_1208]) ++ [q_1211])) ef_1215
  refine pg_putF S Y hname ok_X12 29 (by decide) kf12_59 rfl rfl (fs' := [.ref q_1175, .ref q_1178, .ref q_1181, .ref q_1184, .int 0, .int (-1), .int (-1), .int 0, .int 0, .int 0, .int 0, .long 0, .int 0, .int 0, .int 0, .ref q_1189, .ref q_1192, .int 0, .int 0, .int 0, .int 0, .int 0, .ref q_1195, .ref q_1198, .ref q_1201, .int 1, .ref q_1205, .ref q_1208, .ref q_1211, .ref q_1214, .int 0, .null]) (v := .ref q_1214) p_h rfl rfl rfl (Nat.le_of_ble_eq_true rfl) dX12_init_127 (fun f_1216 H locs ef_1216 Y => ?_)
  have p_q_1175 := p_q_1175.up ef_1216 ((p_q_1175.neB p_h))
  have p_q_1178 := p_q_1178.up ef_1216 ((p_q_1178.neB p_h))
  have p_q_1181 := p_q_1181.up ef_1216 ((p_q_1181.neB p_h))
  have p_q_1184 := p_q_1184.up ef_1216 ((p_q_1184.neB p_h))
  have p_q_1189 := p_q_1189.up ef_1216 ((p_q_1189.neB p_h))
  have p_q_1192 := p_q_1192.up ef_1216 ((p_q_1192.neB p_h))
  have p_q_1195 := p_q_1195.up ef_1216 ((p_q_1195.neB p_h))
  have p_q_1198 := p_q_1198.up ef_1216 ((p_q_1198.neB p_h))
  have p_q_1201 := p_q_1201.up ef_1216 ((p_q_1201.neB p_h))
  have p_q_1205 := p_q_1205.up ef_1216 ((p_q_1205.neB p_h))
  have p_q_1208 := p_q_1208.up ef_1216 ((p_q_1208.neB p_h))
  have p_q_1211 := p_q_1211.up ef_1216 ((p_q_1211.neB p_h))
  have p_q_1214 := p_q_1214.up ef_1216 ((p_q_1214.neB p_h))
  have p_h := p_h.me ef_1216
  have hk := hk.up ef_1216 (by simp)
  refine lv_aload_n hx hb dX12_init_130 rfl (lv_at hl 0 rfl) ?_
  refine lv_bipush (v := 6) hx hb dX12_init_131 (by decide) ?_
  refine pg_newa S Y (ty := .int) rfl 0 rfl ka_int (N' := 6) (6, .inl (fun _ => 0)) (fun _ => rfl) (by decide) (by decide) (by decide) (by decide) (by decide) dX12_init_133 (fun q_1217 f_1218 H nq_1217 ef_1218 Y => ?_)
  have whkq_1217 := hk.notin nq_1217
  have hk := hk.push ef_1218 nq_1217
  have p_h := p_h.push ef_1218 nq_1217
  have p_q_1175 := p_q_1175.push ef_1218 nq_1217
  have p_q_1178 := p_q_1178.push ef_1218 nq_1217
  have p_q_1181 := p_q_1181.push ef_1218 nq_1217
  have p_q_1184 := p_q_1184.push ef_1218 nq_1217
  have p_q_1189 := p_q_1189.push ef_1218 nq_1217
  have p_q_1192 := p_q_1192.push ef_1218 nq_1217
  have p_q_1195 := p_q_1195.push ef_1218 nq_1217
  have p_q_1198 := p_q_1198.push ef_1218 nq_1217
  have p_q_1201 := p_q_1201.push ef_1218 nq_1217
  have dq_1205_q_1217 := p_q_1205.neQ nq_1217
  have p_q_1205 := p_q_1205.push ef_1218 nq_1217
  have p_q_1208 := p_q_1208.push ef_1218 nq_1217
  have p_q_1211 := p_q_1211.push ef_1218 nq_1217
  have p_q_1214 := p_q_1214.push ef_1218 nq_1217
  have p_q_1217 := pt.new (L := (((((((((((((L ++ [q_1175]) ++ [q_1178]) ++ [q_1181]) ++ [q_1184]) ++ [q_1189]) ++ [q_1192]) ++ [q_1195]) ++ [q_1198]) ++ [q_1201]) ++ [q_1205]) ++ [q_1208]) ++ [q_1211]) ++ [q_1214])) ef_1218
  refine pg_putF S Y hname ok_X12 31 (by decide) kf12_62 rfl rfl (fs' := [.ref q_1175, .ref q_1178, .ref q_1181, .ref q_1184, .int 0, .int (-1), .int (-1), .int 0, .int 0, .int 0, .int 0, .long 0, .int 0, .int 0, .int 0, .ref q_1189, .ref q_1192, .int 0, .int 0, .int 0, .int 0, .int 0, .ref q_1195, .ref q_1198, .ref q_1201, .int 1, .ref q_1205, .ref q_1208, .ref q_1211, .ref q_1214, .int 0, .ref q_1217]) (v := .ref q_1217) p_h rfl rfl rfl (Nat.le_of_ble_eq_true rfl) dX12_init_135 (fun f_1219 H locs ef_1219 Y => ?_)
  have p_q_1175 := p_q_1175.up ef_1219 ((p_q_1175.neB p_h))
  have p_q_1178 := p_q_1178.up ef_1219 ((p_q_1178.neB p_h))
  have p_q_1181 := p_q_1181.up ef_1219 ((p_q_1181.neB p_h))
  have p_q_1184 := p_q_1184.up ef_1219 ((p_q_1184.neB p_h))
  have p_q_1189 := p_q_1189.up ef_1219 ((p_q_1189.neB p_h))
  have p_q_1192 := p_q_1192.up ef_1219 ((p_q_1192.neB p_h))
  have p_q_1195 := p_q_1195.up ef_1219 ((p_q_1195.neB p_h))
  have p_q_1198 := p_q_1198.up ef_1219 ((p_q_1198.neB p_h))
  have p_q_1201 := p_q_1201.up ef_1219 ((p_q_1201.neB p_h))
  have p_q_1205 := p_q_1205.up ef_1219 ((p_q_1205.neB p_h))
  have p_q_1208 := p_q_1208.up ef_1219 ((p_q_1208.neB p_h))
  have p_q_1211 := p_q_1211.up ef_1219 ((p_q_1211.neB p_h))
  have p_q_1214 := p_q_1214.up ef_1219 ((p_q_1214.neB p_h))
  have p_q_1217 := p_q_1217.up ef_1219 ((p_q_1217.neB p_h))
  have p_h := p_h.me ef_1219
  have hk := hk.up ef_1219 (by simp)
  refine lv_aload_n hx hb dX12_init_138 rfl (lv_at hl 0 rfl) ?_
  refine pg_get S Y ok_X12 0 (by decide) kf12_7 (v := .ref q_1175) p_h rfl dX12_init_139 ?_
  refine lv_bipush (v := 12) hx hb dX12_init_142 (by decide) ?_
  refine lv_sipush (v := 137) hx hb dX12_init_144 (by decide) ?_
  refine pg_iast S Y p_q_1175 (by unfold vp_in; decide) dX12_init_147 (fun f_1221 H locs ef_1221 Y => ?_)
  obtain ⟨g_1220, eg_1220⟩ : ∃ z, z = upd ((fun _ => 0)) (12 : Int32).toNatClampNeg 137 := ⟨_, rfl⟩
  rw [← eg_1220] at ef_1221
  have p_h := p_h.up ef_1221 ((p_h.neA p_q_1175))
  have p_q_1178 := p_q_1178.up ef_1221 ((Ne.symm (dq_1175_q_1178)))
  have p_q_1181 := p_q_1181.up ef_1221 ((p_q_1181.neN p_q_1175 (by decide)))
  have p_q_1184 := p_q_1184.up ef_1221 ((p_q_1184.neN p_q_1175 (by decide)))
  have p_q_1189 := p_q_1189.up ef_1221 ((p_q_1189.neN p_q_1175 (by decide)))
  have p_q_1192 := p_q_1192.up ef_1221 ((p_q_1192.neN p_q_1175 (by decide)))
  have p_q_1195 := p_q_1195.up ef_1221 ((p_q_1195.neN p_q_1175 (by decide)))
  have p_q_1198 := p_q_1198.up ef_1221 ((p_q_1198.neN p_q_1175 (by decide)))
  have p_q_1201 := p_q_1201.up ef_1221 ((p_q_1201.neN p_q_1175 (by decide)))
  have p_q_1205 := p_q_1205.up ef_1221 ((p_q_1205.neN p_q_1175 (by decide)))
  have p_q_1208 := p_q_1208.up ef_1221 ((p_q_1208.neN p_q_1175 (by decide)))
  have p_q_1211 := p_q_1211.up ef_1221 ((p_q_1211.neN p_q_1175 (by decide)))
  have p_q_1214 := p_q_1214.up ef_1221 ((p_q_1214.neN p_q_1175 (by decide)))
  have p_q_1217 := p_q_1217.up ef_1221 ((p_q_1217.neN p_q_1175 (by decide)))
  have p_q_1175 := p_q_1175.me ef_1221
  have hk := hk.upN ef_1221 whkq_1175
  refine lv_aload_n hx hb dX12_init_148 rfl (lv_at hl 0 rfl) ?_
  refine pg_get S Y ok_X12 0 (by decide) kf12_7 (v := .ref q_1175) p_h rfl dX12_init_149 ?_
  refine lv_iconst (v := 2) hx hb dX12_init_152 (by decide) ?_
  refine lv_iconst (v := (-1)) hx hb dX12_init_153 (by decide) ?_
  refine pg_iast S Y p_q_1175 (by unfold vp_in; decide) dX12_init_154 (fun f_1223 H locs ef_1223 Y => ?_)
  obtain ⟨g_1222, eg_1222⟩ : ∃ z, z = upd (g_1220) (2 : Int32).toNatClampNeg (-1) := ⟨_, rfl⟩
  rw [← eg_1222] at ef_1223
  have p_h := p_h.up ef_1223 ((p_h.neA p_q_1175))
  have p_q_1178 := p_q_1178.up ef_1223 ((Ne.symm (dq_1175_q_1178)))
  have p_q_1181 := p_q_1181.up ef_1223 ((p_q_1181.neN p_q_1175 (by decide)))
  have p_q_1184 := p_q_1184.up ef_1223 ((p_q_1184.neN p_q_1175 (by decide)))
  have p_q_1189 := p_q_1189.up ef_1223 ((p_q_1189.neN p_q_1175 (by decide)))
  have p_q_1192 := p_q_1192.up ef_1223 ((p_q_1192.neN p_q_1175 (by decide)))
  have p_q_1195 := p_q_1195.up ef_1223 ((p_q_1195.neN p_q_1175 (by decide)))
  have p_q_1198 := p_q_1198.up ef_1223 ((p_q_1198.neN p_q_1175 (by decide)))
  have p_q_1201 := p_q_1201.up ef_1223 ((p_q_1201.neN p_q_1175 (by decide)))
  have p_q_1205 := p_q_1205.up ef_1223 ((p_q_1205.neN p_q_1175 (by decide)))
  have p_q_1208 := p_q_1208.up ef_1223 ((p_q_1208.neN p_q_1175 (by decide)))
  have p_q_1211 := p_q_1211.up ef_1223 ((p_q_1211.neN p_q_1175 (by decide)))
  have p_q_1214 := p_q_1214.up ef_1223 ((p_q_1214.neN p_q_1175 (by decide)))
  have p_q_1217 := p_q_1217.up ef_1223 ((p_q_1217.neN p_q_1175 (by decide)))
  have p_q_1175 := p_q_1175.me ef_1223
  have hk := hk.upN ef_1223 whkq_1175
  have ea0 := a0_made eg_1220 eg_1222
  rw [ea0] at p_q_1175
  refine lv_aload_n hx hb dX12_init_155 rfl (lv_at hl 0 rfl) ?_
  refine pg_get S Y ok_X12 0 (by decide) kf12_7 (v := .ref q_1175) p_h rfl dX12_init_156 ?_
  refine lv_aload_n hx hb dX12_init_159 rfl (lv_at hl 0 rfl) ?_
  refine pg_get S Y ok_X12 1 (by decide) kf12_13 (v := .ref q_1178) p_h rfl dX12_init_160 ?_
  refine cSv (As := [.ref q_1175, .ref q_1178]) (rest := []) S Y (c_X12_copy (l := l) p_q_1175 p_q_1178 (dq_1175_q_1178)) cw_X12_copy km12_65 rfl ⟨Nat.le_of_ble_eq_true rfl, Nat.le_of_ble_eq_true rfl⟩ hl.1 rfl (Nat.le_of_ble_eq_true rfl) ⟨Nat.le_of_ble_eq_true rfl, Nat.le_of_ble_eq_true rfl⟩ dX12_init_163 (fun L_1224 f_1225 H locs hf_1225 Y => ?_)
  obtain ⟨g__1226, kf_1225, z_z_1227, hg_1228⟩ := hf_1225
  have p_h := kf_1225.1 h _ (nmc (p_h.neA p_q_1178) nm0) p_h
  have p_q_1175 := kf_1225.1 q_1175 _ (nmc (dq_1175_q_1178) nm0) p_q_1175
  have p_q_1181 := kf_1225.1 q_1181 _ (nmc (p_q_1181.neN p_q_1178 (by decide)) nm0) p_q_1181
  have p_q_1184 := kf_1225.1 q_1184 _ (nmc (p_q_1184.neN p_q_1178 (by decide)) nm0) p_q_1184
  have p_q_1189 := kf_1225.1 q_1189 _ (nmc (p_q_1189.neN p_q_1178 (by decide)) nm0) p_q_1189
  have p_q_1192 := kf_1225.1 q_1192 _ (nmc (p_q_1192.neN p_q_1178 (by decide)) nm0) p_q_1192
  have p_q_1195 := kf_1225.1 q_1195 _ (nmc (p_q_1195.neN p_q_1178 (by decide)) nm0) p_q_1195
  have p_q_1198 := kf_1225.1 q_1198 _ (nmc (p_q_1198.neN p_q_1178 (by decide)) nm0) p_q_1198
  have p_q_1201 := kf_1225.1 q_1201 _ (nmc (p_q_1201.neN p_q_1178 (by decide)) nm0) p_q_1201
  have p_q_1205 := kf_1225.1 q_1205 _ (nmc (p_q_1205.neN p_q_1178 (by decide)) nm0) p_q_1205
  have p_q_1208 := kf_1225.1 q_1208 _ (nmc (p_q_1208.neN p_q_1178 (by decide)) nm0) p_q_1208
  have p_q_1211 := kf_1225.1 q_1211 _ (nmc (p_q_1211.neN p_q_1178 (by decide)) nm0) p_q_1211
  have p_q_1214 := kf_1225.1 q_1214 _ (nmc (p_q_1214.neN p_q_1178 (by decide)) nm0) p_q_1214
  have p_q_1217 := kf_1225.1 q_1217 _ (nmc (p_q_1217.neN p_q_1178 (by decide)) nm0) p_q_1217
  have p_q_1178 := z_z_1227
  have hk := hk.call kf_1225 (fun b hb hp => (nmc (neL hp whkq_1178) nm0))
  exact prV (post := fun L1 f1 => ∃ a : Nat, ∃ im : Nat, ∃ te : Nat, ∃ tp : Nat, ∃ pi : Nat, ∃ co : Nat, ∃ na : Nat, ∃ vl : Nat, ∃ tr : Nat, ∃ ac : Nat, ∃ as_ : Nat, ∃ su : Nat, ∃ wi_ : Nat, ∃ se : Nat, ∃ gi : Nat → Int32, kp L f L1 f1 [h] ∧ pt L1 f1 h (.inr (12, [.ref a, .ref im, .ref te, .ref tp, .int 0, .int (-1), .int (-1), .int 0, .int 0, .int 0, .int 0, .long 0, .int 0, .int 0, .int 0, .ref pi, .ref co, .int 0, .int 0, .int 0, .int 0, .int 0, .ref na, .ref vl, .ref tr, .int 1, .ref ac, .ref as_, .ref su, .ref wi_, .int 0, .ref se])) ∧ pt L1 f1 a (.inl (G.2 0, 10568, .inl a0)) ∧ pt L1 f1 im (.inl (G.2 0, 10568, .inl gi)) ∧ pt L1 f1 te (.inl (G.2 0, 2916, .inl (fun _ => 0))) ∧ pt L1 f1 tp (.inl (G.2 0, 300, .inl (fun _ => 0))) ∧ pt L1 f1 ac (.inl (G.2 0, 6, .inl (fun _ => 0))) ∧ pt L1 f1 as_ (.inl (G.2 0, 114, .inl (fun _ => 0))) ∧ pt L1 f1 se (.inl (G.2 0, 6, .inl (fun _ => 0))) ∧ a ≠ im ∧ ∀ k, k < 10568 → gi k = a0 k) S Y (by decide) (by decide) hA1 ⟨q_1175, q_1178, q_1181, q_1184, q_1189, q_1192, q_1195, q_1198, q_1201, q_1205, q_1208, q_1211, q_1214, q_1217, g__1226, hk, p_h, p_q_1175, p_q_1178, p_q_1181, p_q_1184, p_q_1205, p_q_1208, p_q_1217, (dq_1175_q_1178), hg_1228⟩ dX12_init_166
