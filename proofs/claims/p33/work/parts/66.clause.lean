theorem dX5_readLaw_0 : decode cX5_readLaw 0 = .ok (.aload_n 0, 1) := by decide +kernel
theorem dX5_readLaw_1 : decode cX5_readLaw 1 = .ok (.getfield 34, 3) := by decide +kernel
theorem dX5_readLaw_4 : decode cX5_readLaw 4 = .ok (.getfield 143, 3) := by decide +kernel
theorem kf5_143 : inW (Cond.fieldLinkNest RX5 143 "KneeOaths$Script" "length" "I" "KneeOaths") := ⟨List.mem_of_getElem? (i := 243) (by decide +kernel), by decide +kernel⟩
theorem dX5_readLaw_7 : decode cX5_readLaw 7 = .ok (.istore_n 2, 1) := by decide +kernel
theorem dX5_readLaw_8 : decode cX5_readLaw 8 = .ok (.aload_n 0, 1) := by decide +kernel
theorem dX5_readLaw_9 : decode cX5_readLaw 9 = .ok (.iload_n 1, 1) := by decide +kernel
theorem dX5_readLaw_10 : decode cX5_readLaw 10 = .ok (.putfield 144, 3) := by decide +kernel
theorem dX5_readLaw_13 : decode cX5_readLaw 13 = .ok (.aload_n 0, 1) := by decide +kernel
theorem dX5_readLaw_14 : decode cX5_readLaw 14 = .ok (.iconst 0, 1) := by decide +kernel
theorem dX5_readLaw_15 : decode cX5_readLaw 15 = .ok (.invokevirtual 147, 3) := by decide +kernel
theorem dX5_readLaw_18 : decode cX5_readLaw 18 = .ok (.ifCond .ne 5, 3) := by decide +kernel
theorem dX5_readLaw_23 : decode cX5_readLaw 23 = .ok (.aload_n 0, 1) := by decide +kernel
theorem dX5_readLaw_24 : decode cX5_readLaw 24 = .ok (.getfield 34, 3) := by decide +kernel
theorem dX5_readLaw_27 : decode cX5_readLaw 27 = .ok (.iload_n 1, 1) := by decide +kernel
theorem dX5_readLaw_28 : decode cX5_readLaw 28 = .ok (.iload_n 2, 1) := by decide +kernel
theorem dX5_readLaw_29 : decode cX5_readLaw 29 = .ok (.invokevirtual 150, 3) := by decide +kernel
theorem cw_X7_addLaw : CWv yX7_addLaw cX7_addLaw 3 none 2 := ⟨⟨⟨List.mem_of_getElem? (i := 129) (by decide +kernel), by decide +kernel⟩, ⟨List.mem_of_getElem? (i := 824) (by decide +kernel), by decide +kernel⟩, by decide +kernel⟩, ⟨List.mem_of_getElem? (i := 822) (by decide +kernel), by decide +kernel⟩, ⟨List.mem_of_getElem? (i := 823) (by decide +kernel), by decide +kernel⟩⟩
theorem km5_150 : inW (Cond.methodLink RX5 150 yX7_addLaw) := ⟨List.mem_of_getElem? (i := 821) (by decide +kernel), by decide +kernel⟩
theorem dX5_readLaw_32 : decode cX5_readLaw 32 = .ok (.iconst 1, 1) := by decide +kernel
theorem dX5_readLaw_33 : decode cX5_readLaw 33 = .ok (.ireturn, 1) := by decide +kernel
theorem dX5_readLaw_21 : decode cX5_readLaw 21 = .ok (.iconst 0, 1) := by decide +kernel
theorem dX5_readLaw_22 : decode cX5_readLaw 22 = .ok (.ireturn, 1) := by decide +kernel
theorem dX5_readClause_0 : decode cX5_readClause 0 = .ok (.aload_n 0, 1) := by decide +kernel
theorem dX5_readClause_1 : decode cX5_readClause 1 = .ok (.getfield 52, 3) := by decide +kernel
theorem dX5_readClause_4 : decode cX5_readClause 4 = .ok (.istore_n 1, 1) := by decide +kernel
theorem dX5_readClause_5 : decode cX5_readClause 5 = .ok (.iload_n 1, 1) := by decide +kernel
theorem dX5_readClause_6 : decode cX5_readClause 6 = .ok (.ifCond .lt 9, 3) := by decide +kernel
theorem dX5_readClause_15 : decode cX5_readClause 15 = .ok (.aload_n 0, 1) := by decide +kernel
theorem dX5_readClause_16 : decode cX5_readClause 16 = .ok (.iconst 1, 1) := by decide +kernel
theorem dX5_readClause_17 : decode cX5_readClause 17 = .ok (.invokevirtual 121, 3) := by decide +kernel
theorem dX5_readClause_20 : decode cX5_readClause 20 = .ok (.ireturn, 1) := by decide +kernel
theorem dX5_readClause_9 : decode cX5_readClause 9 = .ok (.iload_n 1, 1) := by decide +kernel
theorem dX5_readClause_10 : decode cX5_readClause 10 = .ok (.bipush 9, 2) := by decide +kernel
theorem dX5_readClause_12 : decode cX5_readClause 12 = .ok (.if_icmp .le 9, 3) := by decide +kernel
theorem dX5_readClause_21 : decode cX5_readClause 21 = .ok (.aload_n 0, 1) := by decide +kernel
theorem dX5_readClause_22 : decode cX5_readClause 22 = .ok (.getfield 34, 3) := by decide +kernel
theorem dX5_readClause_25 : decode cX5_readClause 25 = .ok (.iload_n 1, 1) := by decide +kernel
theorem dX5_readClause_26 : decode cX5_readClause 26 = .ok (.invokevirtual 124, 3) := by decide +kernel
theorem km5_124 : inW (Cond.methodLink RX5 124 yX7_hasLaw) := ⟨List.mem_of_getElem? (i := 742) (by decide +kernel), by decide +kernel⟩
theorem dX5_readClause_29 : decode cX5_readClause 29 = .ok (.ifCond .eq 9, 3) := by decide +kernel
theorem dX5_readClause_38 : decode cX5_readClause 38 = .ok (.aload_n 0, 1) := by decide +kernel
theorem dX5_readClause_39 : decode cX5_readClause 39 = .ok (.getfield 34, 3) := by decide +kernel
theorem dX5_readClause_42 : decode cX5_readClause 42 = .ok (.invokevirtual 127, 3) := by decide +kernel
theorem cw_X7_isFull : CWv yX7_isFull cX7_isFull 1 (some .boolean) 0 := ⟨⟨⟨List.mem_of_getElem? (i := 129) (by decide +kernel), by decide +kernel⟩, ⟨List.mem_of_getElem? (i := 749) (by decide +kernel), by decide +kernel⟩, by decide +kernel⟩, ⟨List.mem_of_getElem? (i := 747) (by decide +kernel), by decide +kernel⟩, ⟨List.mem_of_getElem? (i := 748) (by decide +kernel), by decide +kernel⟩⟩
theorem km5_127 : inW (Cond.methodLink RX5 127 yX7_isFull) := ⟨List.mem_of_getElem? (i := 746) (by decide +kernel), by decide +kernel⟩
theorem dX5_readClause_45 : decode cX5_readClause 45 = .ok (.ifCond .eq 10, 3) := by decide +kernel
theorem dX5_readClause_55 : decode cX5_readClause 55 = .ok (.aload_n 0, 1) := by decide +kernel
theorem dX5_readClause_56 : decode cX5_readClause 56 = .ok (.getfield 34, 3) := by decide +kernel
theorem dX5_readClause_59 : decode cX5_readClause 59 = .ok (.iload_n 1, 1) := by decide +kernel
theorem dX5_readClause_60 : decode cX5_readClause 60 = .ok (.invokevirtual 130, 3) := by decide +kernel
theorem cw_X7_addClause : CWv yX7_addClause cX7_addClause 2 none 1 := ⟨⟨⟨List.mem_of_getElem? (i := 129) (by decide +kernel), by decide +kernel⟩, ⟨List.mem_of_getElem? (i := 753) (by decide +kernel), by decide +kernel⟩, by decide +kernel⟩, ⟨List.mem_of_getElem? (i := 751) (by decide +kernel), by decide +kernel⟩, ⟨List.mem_of_getElem? (i := 752) (by decide +kernel), by decide +kernel⟩⟩
theorem km5_130 : inW (Cond.methodLink RX5 130 yX7_addClause) := ⟨List.mem_of_getElem? (i := 750) (by decide +kernel), by decide +kernel⟩
theorem dX5_readClause_63 : decode cX5_readClause 63 = .ok (.aload_n 0, 1) := by decide +kernel
theorem dX5_readClause_64 : decode cX5_readClause 64 = .ok (.invokevirtual 49, 3) := by decide +kernel
theorem dX5_readClause_67 : decode cX5_readClause 67 = .ok (.iload_n 1, 1) := by decide +kernel
theorem dX5_readClause_68 : decode cX5_readClause 68 = .ok (.iconst 3, 1) := by decide +kernel
theorem dX5_readClause_69 : decode cX5_readClause 69 = .ok (.if_icmp .ge 14, 3) := by decide +kernel
theorem dX5_readClause_83 : decode cX5_readClause 83 = .ok (.aload_n 0, 1) := by decide +kernel
theorem dX5_readClause_84 : decode cX5_readClause 84 = .ok (.iload_n 1, 1) := by decide +kernel
theorem dX5_readClause_85 : decode cX5_readClause 85 = .ok (.invokevirtual 137, 3) := by decide +kernel
theorem cw_X5_readDeed : CWv yX5_readDeed cX5_readDeed 2 (some .boolean) 1 := ⟨⟨⟨List.mem_of_getElem? (i := 130) (by decide +kernel), by decide +kernel⟩, ⟨List.mem_of_getElem? (i := 828) (by decide +kernel), by decide +kernel⟩, by decide +kernel⟩, ⟨List.mem_of_getElem? (i := 827) (by decide +kernel), by decide +kernel⟩, ⟨List.mem_of_getElem? (i := 24) (by decide +kernel), by decide +kernel⟩⟩
theorem km5_137 : inW (Cond.methodLink RX5 137 yX5_readDeed) := ⟨List.mem_of_getElem? (i := 825) (by decide +kernel), by decide +kernel⟩
theorem dX5_readClause_88 : decode cX5_readClause 88 = .ok (.ifCond .eq 16, 3) := by decide +kernel
theorem dX5_readClause_104 : decode cX5_readClause 104 = .ok (.iconst 0, 1) := by decide +kernel
theorem dX5_readClause_105 : decode cX5_readClause 105 = .ok (.ireturn, 1) := by decide +kernel
theorem dX5_readClause_91 : decode cX5_readClause 91 = .ok (.aload_n 0, 1) := by decide +kernel
theorem dX5_readClause_92 : decode cX5_readClause 92 = .ok (.bipush 59, 2) := by decide +kernel
theorem dX5_readClause_94 : decode cX5_readClause 94 = .ok (.invokevirtual 140, 3) := by decide +kernel
theorem dX5_readClause_97 : decode cX5_readClause 97 = .ok (.ifCond .eq 7, 3) := by decide +kernel
theorem dX5_readClause_100 : decode cX5_readClause 100 = .ok (.iconst 1, 1) := by decide +kernel
theorem dX5_readClause_101 : decode cX5_readClause 101 = .ok (.goto 4, 3) := by decide +kernel
theorem dX5_readClause_72 : decode cX5_readClause 72 = .ok (.aload_n 0, 1) := by decide +kernel
theorem dX5_readClause_73 : decode cX5_readClause 73 = .ok (.iload_n 1, 1) := by decide +kernel
theorem dX5_readClause_74 : decode cX5_readClause 74 = .ok (.invokevirtual 134, 3) := by decide +kernel
theorem cw_X5_readLaw : CWv yX5_readLaw cX5_readLaw 3 (some .boolean) 1 := ⟨⟨⟨List.mem_of_getElem? (i := 130) (by decide +kernel), by decide +kernel⟩, ⟨List.mem_of_getElem? (i := 761) (by decide +kernel), by decide +kernel⟩, by decide +kernel⟩, ⟨List.mem_of_getElem? (i := 760) (by decide +kernel), by decide +kernel⟩, ⟨List.mem_of_getElem? (i := 11) (by decide +kernel), by decide +kernel⟩⟩
theorem km5_134 : inW (Cond.methodLink RX5 134 yX5_readLaw) := ⟨List.mem_of_getElem? (i := 758) (by decide +kernel), by decide +kernel⟩
theorem dX5_readClause_77 : decode cX5_readClause 77 = .ok (.ifCond .eq 27, 3) := by decide +kernel
theorem dX5_readClause_80 : decode cX5_readClause 80 = .ok (.goto 11, 3) := by decide +kernel
theorem dX5_readClause_48 : decode cX5_readClause 48 = .ok (.aload_n 0, 1) := by decide +kernel
theorem dX5_readClause_49 : decode cX5_readClause 49 = .ok (.bipush 6, 2) := by decide +kernel
theorem dX5_readClause_51 : decode cX5_readClause 51 = .ok (.invokevirtual 121, 3) := by decide +kernel
theorem dX5_readClause_54 : decode cX5_readClause 54 = .ok (.ireturn, 1) := by decide +kernel
theorem dX5_readClause_32 : decode cX5_readClause 32 = .ok (.aload_n 0, 1) := by decide +kernel
theorem dX5_readClause_33 : decode cX5_readClause 33 = .ok (.iconst 4, 1) := by decide +kernel
theorem dX5_readClause_34 : decode cX5_readClause 34 = .ok (.invokevirtual 121, 3) := by decide +kernel
theorem dX5_readClause_37 : decode cX5_readClause 37 = .ok (.ireturn, 1) := by decide +kernel
theorem rd_all {l : Launch} {G : GG} {ad : Nat → Nat → Nat} {fc : Int × Int} {tc w : Nat → Int × Int} {q : Nat → (Nat → Int32) → Prop} : ∀ (n : Nat), (∀ {L : List Nat} {f : HF} {t : Nat} {i1 : Int32}, (SH (spC (RF 30 t) fc tc w q) nnC G ad L f) → (WBp w 8) → (WBp tc 4) → (QIp q) → (t < 4) → (bn 0 8 i1) → ((8 - i1.toInt).toNat ≤ n) → PMi l yX5_readSum cX5_readSum 4 .boolean (16 * n + 10) 0 0 G [.ref (ad 2 0), .int i1] L f (fun r L1 f1 => bn 0 1 r ∧ SH (spC (RF 30 t) fc tc w q) nnC G ad L1 f1)) ∧ (∀ {L : List Nat} {f : HF} {t : Nat} {i1 : Int32}, (SH (spC (RF 30 t) fc tc w q) nnC G ad L f) → (WBp w 8) → (WBp tc 4) → (QIp q) → (t < 4) → (bn 0 8 i1) → ((8 - i1.toInt).toNat ≤ n) → PMi l yX5_readChoice cX5_readChoice 4 .boolean (16 * n + 15) 0 0 G [.ref (ad 2 0), .int i1] L f (fun r L1 f1 => bn 0 1 r ∧ SH (spC (RF 30 t) fc tc w q) nnC G ad L1 f1)) ∧ (∀ {L : List Nat} {f : HF} {t : Nat} {i1 : Int32}, (SH (spC (RF 30 t) fc tc w q) nnC G ad L f) → (WBp w 8) → (WBp tc 4) → (QIp q) → (t < 4) → (bn 0 8 i1) → ((8 - i1.toInt).toNat ≤ n) → PMi l yX5_readOne cX5_readOne 3 .boolean (16 * n + 8) 0 0 G [.ref (ad 2 0), .int i1] L f (fun r L1 f1 => bn 0 1 r ∧ SH (spC (RF 30 t) fc tc w q) nnC G ad L1 f1)) ∧ (∀ {L : List Nat} {f : HF} {t : Nat} {i1 : Int32}, (SH (spC (RF 30 t) fc tc w q) nnC G ad L f) → (WBp w 8) → (WBp tc 4) → (QIp q) → (t < 4) → (bn 0 8 i1) → ((8 - i1.toInt).toNat ≤ n) → PMi l yX5_readJust cX5_readJust 3 .boolean (16 * n + 15) 0 0 G [.ref (ad 2 0), .int i1] L f (fun r L1 f1 => bn 0 1 r ∧ SH (spC (RF 30 t) fc tc w q) nnC G ad L1 f1)) ∧ (∀ {L : List Nat} {f : HF} {t : Nat} {i1 : Int32}, (SH (spC (RF 30 t) fc tc w q) nnC G ad L f) → (WBp w 8) → (WBp tc 4) → (QIp q) → (t < 4) → (bn 0 8 i1) → ((8 - i1.toInt).toNat ≤ n) → PMi l yX5_readAsk cX5_readAsk 3 .boolean (16 * n + 12) 0 0 G [.ref (ad 2 0), .int i1] L f (fun r L1 f1 => bn 0 1 r ∧ SH (spC (RF 30 t) fc tc w q) nnC G ad L1 f1)) := by
  intro n
  induction n with
  | zero =>
    refine ⟨fun I hW hT hQ ht b_i1 hm => x_X5_readSum_z I hW hT hQ ht (od_0 b_i1 hm), fun I hW hT hQ ht b_i1 hm => x_X5_readChoice_z I hW hT hQ ht (od_0 b_i1 hm), fun I hW hT hQ ht b_i1 hm => x_X5_readOne_z I hW hT hQ ht (od_0 b_i1 hm), fun I hW hT hQ ht b_i1 hm => x_X5_readJust_z I hW hT hQ ht (od_0 b_i1 hm), fun I hW hT hQ ht b_i1 hm => x_X5_readAsk_z I hW hT hQ ht (od_0 b_i1 hm)⟩
  | succ n ih =>
    obtain ⟨ihS, ihC, ihO, ihJ, ihA⟩ := ih
    refine ⟨fun I hW hT hQ ht b_i1 hm => x_X5_readSum_s I hW hT hQ ht b_i1 hm @ihS @ihC @ihO @ihJ @ihA, fun I hW hT hQ ht b_i1 hm => x_X5_readChoice_s I hW hT hQ ht b_i1 hm @ihS @ihC @ihO @ihJ @ihA, fun I hW hT hQ ht b_i1 hm => x_X5_readOne_s I hW hT hQ ht b_i1 hm @ihS @ihC @ihO @ihJ @ihA, fun I hW hT hQ ht b_i1 hm => x_X5_readJust_s I hW hT hQ ht b_i1 hm @ihS @ihC @ihO @ihJ @ihA, fun I hW hT hQ ht b_i1 hm => x_X5_readAsk_s I hW hT hQ ht b_i1 hm @ihS @ihC @ihO @ihJ @ihA⟩
theorem x_X5_readSum {l : Launch} {G : GG}  {L : List Nat} {f : HF} {ad : Nat → Nat → Nat} {fc : Int × Int} {tc w : Nat → Int × Int} {q : Nat → (Nat → Int32) → Prop} {t : Nat} {i1 : Int32} (I : SH (spC (RF 30 t) fc tc w q) nnC G ad L f) (hW : WBp w 8) (hT : WBp tc 4) (hQ : QIp q) (ht : t < 4) (b_i1 : bn 0 8 i1) : PMi l yX5_readSum cX5_readSum 4 .boolean 138 0 0 G [.ref (ad 2 0), .int i1] L f (fun r L1 f1 => bn 0 1 r ∧ SH (spC (RF 30 t) fc tc w q) nnC G ad L1 f1) := (rd_all 8).1 I hW hT hQ ht b_i1 (by obtain ⟨h1, h2⟩ := b_i1; omega)
set_option maxHeartbeats 4000000 in
set_option maxRecDepth 100000 in
theorem x_X5_readLaw {l : Launch} {G : GG}  {L : List Nat} {f : HF} {ad : Nat → Nat → Nat} {fc : Int × Int} {tc w : Nat → Int × Int} {q : Nat → (Nat → Int32) → Prop} {t : Nat} {i1 : Int32} (I : SH (spC (RF 30 t) fc tc w q) nnC G ad L f) (hW : WBp w 8) (hT : WBp tc 4) (hQ : QIp q) (ht : t < 4) : PMi l yX5_readLaw cX5_readLaw 3 .boolean 139 0 0 G [.ref (ad 2 0), .int i1] L f (fun r L1 f1 => bn 0 1 r ∧ SH (spC (RF 30 t) fc tc w q) nnC G ad L1 f1) := by
  refine PMi.of (post := fun r L1 f1 => bn 0 1 r ∧ SH (spC (RF 30 t) fc tc w q) nnC G ad L1 f1) (own := RX5) (by decide) rfl (Nat.le_of_ble_eq_true rfl) (fun sz p e s m args below meth c A ls hA1 hname S Y hl => ?_)
  have hx := S.hx
  have hb := S.hb
  have hl : lv_has ls 3 [(0, .ref (ad 2 0)), (1, .int i1)] := hl
  refine lv_aload_n hx hb dX5_readLaw_0 rfl (lv_at hl 0 rfl) ?_
  obtain ⟨v_65713, v_65715, v_65717, v_65719, v_65721, v_65723, v_65725, v_65727, v_65729, p_ad_2_0, b_65714, b_65716, b_65718, b_65720, b_65722, b_65724, b_65726, b_65728, b_65730⟩ := opnC_2r (j := 0) I (by decide)
  have p_ad_2_0 : pt L f (ad 2 0) (.inr (5, [.ref (ad 50 0), .ref (ad 51 0), .ref (ad 52 0), .ref (ad 53 0), .int v_65713, .int v_65715, .int v_65717, .int v_65719, .int v_65721, .int v_65723, .int v_65725, .ref (ad 30 t), .int v_65727, .int v_65729])) := p_ad_2_0
  refine pg_get S Y ok_X5 11 (by decide) kf5_34 (v := .ref (ad 30 t)) p_ad_2_0 rfl dX5_readLaw_1 ?_
  obtain ⟨v_65731, v_65733, p_ad_30_t, b_65732, b_65734⟩ := opnC_30 (j := t) I (show t < 8 from by omega)
  have p_ad_30_t : pt L f (ad 30 t) (.inr (7, [.ref (ad 31 t), .ref (ad 32 t), .ref (ad 33 t), .ref (ad 34 t), .ref (ad 35 t), .int v_65731, .int v_65733])) := p_ad_30_t
  refine pg_getN S Y ok_X7 5 (by decide) kf5_143 (v := .int v_65731) p_ad_30_t rfl dX5_readLaw_4 ?_
  refine lv_istore_n (lv' := [(2, .int v_65731), (0, .ref (ad 2 0)), (1, .int i1)]) hx hb dX5_readLaw_7 rfl hl (by decide) rfl (fun ls hl => ?_)
  refine lv_aload_n hx hb dX5_readLaw_8 rfl (lv_at hl 1 rfl) ?_
  refine lv_iload_n hx hb dX5_readLaw_9 rfl (lv_at hl 2 rfl) ?_
  refine pg_put S Y ok_X5 10 (by decide) kf5_144 rfl (fs' := [.ref (ad 50 0), .ref (ad 51 0), .ref (ad 52 0), .ref (ad 53 0), .int v_65713, .int v_65715, .int v_65717, .int v_65719, .int v_65721, .int v_65723, .int i1, .ref (ad 30 t), .int v_65727, .int v_65729]) (v := .int i1) p_ad_2_0 rfl rfl rfl (Nat.le_of_ble_eq_true rfl) dX5_readLaw_10 (fun f_65735 H locs ef_65735 Y => ?_)
  have p_ad_30_t := p_ad_30_t.up ef_65735 (I.ne (k := 30) (j := t) (k' := 2) (j' := 0) (show t < 8 from by omega) (by decide) (Or.inl (by decide)))
  have p_ad_2_0 := p_ad_2_0.me ef_65735
  have I := I.up (k := 2) (j := 0) (by decide) ef_65735 (okE_o (okFs_c okV_r (okFs_c okV_r (okFs_c okV_r (okFs_c okV_r (okFs_c (okV_i b_65714) (okFs_c (okV_i b_65716) (okFs_c (okV_i b_65718) (okFs_c (okV_i b_65720) (okFs_c (okV_i b_65722) (okFs_c (okV_i b_65724) (okFs_c (okV_i (bn_w (bn_any i1) (by decide))) (okFs_c okV_r (okFs_c (okV_i b_65728) (okFs_c (okV_i b_65730) okFs_n)))))))))))))))
  refine lv_aload_n hx hb dX5_readLaw_13 rfl (lv_at hl 1 rfl) ?_
  refine lv_iconst (v := 0) hx hb dX5_readLaw_14 (by decide) ?_
  refine cVi (As := [.int 0]) (rest := []) S Y (x_X5_readSum (l := l) (t := t) I hW hT hQ ht (bn_w (show bn 0 0 (0 : Int32) from bn_k (by decide)) (by decide))) cw_X5_readSum km5_147 p_ad_2_0 ok_X5.1 rfl rfl ⟨Nat.le_of_ble_eq_true rfl, Nat.le_of_ble_eq_true rfl⟩ hl.1 rfl (Nat.le_of_ble_eq_true rfl) ⟨Nat.le_of_ble_eq_true rfl, Nat.le_of_ble_eq_true rfl⟩ dX5_readLaw_15 (fun r_65738 L_65736 f_65737 H locs hr_65738 Y => ?_)
  obtain ⟨er_65738, I⟩ := hr_65738
  refine lv_if_ne (tgt := 23) hx hb dX5_readLaw_18 (by decide) (fun c_65739 => ?_) (fun c_65739 => ?_)
  · have B_65740 : bn 1 1 r_65738 := bn_w (bn_nel c_65739 er_65738 (show bn 0 0 (0 : Int32) from bn_k (by decide))) (by decide)
    refine lv_aload_n hx hb dX5_readLaw_23 rfl (lv_at hl 1 rfl) ?_
    obtain ⟨v_65742, v_65744, v_65746, v_65748, v_65750, v_65752, v_65754, v_65756, v_65758, p_ad_2_0, b_65743, b_65745, b_65747, b_65749, b_65751, b_65753, b_65755, b_65757, b_65759⟩ := opnC_2r (j := 0) I (by decide)
    have p_ad_2_0 : pt L_65736 f_65737 (ad 2 0) (.inr (5, [.ref (ad 50 0), .ref (ad 51 0), .ref (ad 52 0), .ref (ad 53 0), .int v_65742, .int v_65744, .int v_65746, .int v_65748, .int v_65750, .int v_65752, .int v_65754, .ref (ad 30 t), .int v_65756, .int v_65758])) := p_ad_2_0
    refine pg_get S Y ok_X5 11 (by decide) kf5_34 (v := .ref (ad 30 t)) p_ad_2_0 rfl dX5_readLaw_24 ?_
    refine lv_iload_n hx hb dX5_readLaw_27 rfl (lv_at hl 2 rfl) ?_
    refine lv_iload_n hx hb dX5_readLaw_28 rfl (lv_at hl 0 rfl) ?_
    refine cVv (As := [.int i1, .int v_65731]) (rest := []) S Y (x_X7_addLaw (l := l) (j := t) I hW hT hQ (show t < 8 from by omega)) cw_X7_addLaw km5_150 (I.opo (k := 30) (j := t) (show t < 8 from by omega) rfl).choose_spec.1 ok_X7.1 rfl rfl ⟨Nat.le_of_ble_eq_true rfl, Nat.le_of_ble_eq_true rfl⟩ hl.1 rfl (Nat.le_of_ble_eq_true rfl) ⟨Nat.le_of_ble_eq_true rfl, Nat.le_of_ble_eq_true rfl⟩ dX5_readLaw_29 (fun L_65760 f_65761 H locs I Y => ?_)
    refine lv_iconst (v := 1) hx hb dX5_readLaw_32 (by decide) ?_
    exact prI (post := fun r L1 f1 => bn 0 1 r ∧ SH (spC (RF 30 t) fc tc w q) nnC G ad L1 f1) S Y rfl (by decide) (by decide) hA1 ⟨bn_w (show bn 1 1 (1 : Int32) from bn_k (by decide)) (by decide), I⟩ dX5_readLaw_33
  · have B_65741 : bn 0 0 r_65738 := bn_w (bn_eq c_65739 (show bn 0 0 (0 : Int32) from bn_k (by decide))) (by decide)
    refine lv_iconst (v := 0) hx hb dX5_readLaw_21 (by decide) ?_
    exact prI (post := fun r L1 f1 => bn 0 1 r ∧ SH (spC (RF 30 t) fc tc w q) nnC G ad L1 f1) S Y rfl (by decide) (by decide) hA1 ⟨bn_w (show bn 0 0 (0 : Int32) from bn_k (by decide)) (by decide), I⟩ dX5_readLaw_22
set_option maxHeartbeats 4000000 in
set_option maxRecDepth 100000 in
theorem x_X5_readClause {l : Launch} {G : GG}  {L : List Nat} {f : HF} {ad : Nat → Nat → Nat} {fc : Int × Int} {tc w : Nat → Int × Int} {q : Nat → (Nat → Int32) → Prop} {t : Nat} (I : SH (spC (RF 30 t) fc tc w q) nnC G ad L f) (hW : WBp w 8) (hT : WBp tc 4) (hQ : QIp q) (ht : t < 4) : PMi l yX5_readClause cX5_readClause 2 .boolean 140 0 0 G [.ref (ad 2 0)] L f (fun r L1 f1 => bn 0 1 r ∧ SH (spC (RF 30 t) fc tc w q) nnC G ad L1 f1) := by
  refine PMi.of (post := fun r L1 f1 => bn 0 1 r ∧ SH (spC (RF 30 t) fc tc w q) nnC G ad L1 f1) (own := RX5) (by decide) rfl (Nat.le_of_ble_eq_true rfl) (fun sz p e s m args below meth c A ls hA1 hname S Y hl => ?_)
  have hx := S.hx
  have hb := S.hb
  have hl : lv_has ls 2 [(0, .ref (ad 2 0))] := hl
  refine lv_aload_n hx hb dX5_readClause_0 rfl (lv_at hl 0 rfl) ?_
  obtain ⟨v_65912, v_65914, v_65916, v_65918, v_65920, v_65922, v_65924, v_65926, v_65928, p_ad_2_0, b_65913, b_65915, b_65917, b_65919, b_65921, b_65923, b_65925, b_65927, b_65929⟩ := opnC_2r (j := 0) I (by decide)
  have p_ad_2_0 : pt L f (ad 2 0) (.inr (5, [.ref (ad 50 0), .ref (ad 51 0), .ref (ad 52 0), .ref (ad 53 0), .int v_65912, .int v_65914, .int v_65916, .int v_65918, .int v_65920, .int v_65922, .int v_65924, .ref (ad 30 t), .int v_65926, .int v_65928])) := p_ad_2_0
  refine pg_get S Y ok_X5 7 (by decide) kf5_52 (v := .int v_65918) p_ad_2_0 rfl dX5_readClause_1 ?_
  refine lv_istore_n (lv' := [(1, .int v_65918), (0, .ref (ad 2 0))]) hx hb dX5_readClause_4 rfl hl (by decide) rfl (fun ls hl => ?_)
  refine lv_iload_n hx hb dX5_readClause_5 rfl (lv_at hl 0 rfl) ?_
  refine lv_if_lt (tgt := 15) hx hb dX5_readClause_6 (by decide) (fun c_65930 => ?_) (fun c_65930 => ?_)
  · have B_65931 : bn (-2147483648) (-1) v_65918 := bn_w (bn_ltl c_65930 (bn_any v_65918) (show bn 0 0 (0 : Int32) from bn_k (by decide))) (by decide)
    refine lv_aload_n hx hb dX5_readClause_15 rfl (lv_at hl 1 rfl) ?_
    refine lv_iconst (v := 1) hx hb dX5_readClause_16 (by decide) ?_
    refine cVi (As := [.int 1]) (rest := []) S Y (x_X5_fail (l := l) I hW hT hQ) cw_X5_fail km5_121 p_ad_2_0 ok_X5.1 rfl rfl ⟨Nat.le_of_ble_eq_true rfl, Nat.le_of_ble_eq_true rfl⟩ hl.1 rfl (Nat.le_of_ble_eq_true rfl) ⟨Nat.le_of_ble_eq_true rfl, Nat.le_of_ble_eq_true rfl⟩ dX5_readClause_17 (fun r_65935 L_65933 f_65934 H locs hr_65935 Y => ?_)
    obtain ⟨er_65935, I⟩ := hr_65935
    exact prI (post := fun r L1 f1 => bn 0 1 r ∧ SH (spC (RF 30 t) fc tc w q) nnC G ad L1 f1) S Y (nw_b (bn_w er_65935 (by decide))) (by decide) (by decide) hA1 ⟨bn_w er_65935 (by decide), I⟩ dX5_readClause_20
  · have B_65932 : bn 0 2147483647 v_65918 := bn_w (bn_gel c_65930 (bn_any v_65918) (show bn 0 0 (0 : Int32) from bn_k (by decide))) (by decide)
    refine lv_iload_n hx hb dX5_readClause_9 rfl (lv_at hl 0 rfl) ?_
    refine lv_bipush (v := 9) hx hb dX5_readClause_10 (by decide) ?_
    refine lv_icmp_le (tgt := 21) hx hb dX5_readClause_12 (by decide) (fun c_65936 => ?_) (fun c_65936 => ?_)
    · have B_65937 : bn 0 9 v_65918 := bn_w (bn_lel c_65936 B_65932 (show bn 9 9 (9 : Int32) from bn_k (by decide))) (by decide)
      refine lv_aload_n hx hb dX5_readClause_21 rfl (lv_at hl 1 rfl) ?_
      refine pg_get S Y ok_X5 11 (by decide) kf5_34 (v := .ref (ad 30 t)) p_ad_2_0 rfl dX5_readClause_22 ?_
      refine lv_iload_n hx hb dX5_readClause_25 rfl (lv_at hl 0 rfl) ?_
      refine cVp (As := [.int v_65918]) (rest := []) S Y (x_X7_hasLaw (l := l) (j := t) I hW hT hQ (show t < 8 from by omega)) cw_X7_hasLaw km5_124 (I.opo (k := 30) (j := t) (show t < 8 from by omega) rfl).choose_spec.1 ok_X7.1 rfl rfl ⟨Nat.le_of_ble_eq_true rfl, Nat.le_of_ble_eq_true rfl⟩ hl.1 rfl (Nat.le_of_ble_eq_true rfl) ⟨Nat.le_of_ble_eq_true rfl, Nat.le_of_ble_eq_true rfl⟩ dX5_readClause_26 (fun r_65939 H locs er_65939 Y => ?_)
      refine lv_if_eq (tgt := 38) hx hb dX5_readClause_29 (by decide) (fun c_65940 => ?_) (fun c_65940 => ?_)
      · have B_65941 : bn 0 0 r_65939 := bn_w (bn_eq c_65940 (show bn 0 0 (0 : Int32) from bn_k (by decide))) (by decide)
        refine lv_aload_n hx hb dX5_readClause_38 rfl (lv_at hl 1 rfl) ?_
        refine pg_get S Y ok_X5 11 (by decide) kf5_34 (v := .ref (ad 30 t)) p_ad_2_0 rfl dX5_readClause_39 ?_
        refine cVp (As := []) (rest := []) S Y (x_X7_isFull (l := l) (j := t) I hW hT hQ (show t < 8 from by omega)) cw_X7_isFull km5_127 (I.opo (k := 30) (j := t) (show t < 8 from by omega) rfl).choose_spec.1 ok_X7.1 rfl rfl ⟨Nat.le_of_ble_eq_true rfl, Nat.le_of_ble_eq_true rfl⟩ hl.1 rfl (Nat.le_of_ble_eq_true rfl) ⟨Nat.le_of_ble_eq_true rfl, Nat.le_of_ble_eq_true rfl⟩ dX5_readClause_42 (fun r_65943 H locs er_65943 Y => ?_)
        refine lv_if_eq (tgt := 55) hx hb dX5_readClause_45 (by decide) (fun c_65944 => ?_) (fun c_65944 => ?_)
        · have B_65945 : bn 0 0 r_65943 := bn_w (bn_eq c_65944 (show bn 0 0 (0 : Int32) from bn_k (by decide))) (by decide)
          refine lv_aload_n hx hb dX5_readClause_55 rfl (lv_at hl 1 rfl) ?_
          refine pg_get S Y ok_X5 11 (by decide) kf5_34 (v := .ref (ad 30 t)) p_ad_2_0 rfl dX5_readClause_56 ?_
          refine lv_iload_n hx hb dX5_readClause_59 rfl (lv_at hl 0 rfl) ?_
          refine cVv (As := [.int v_65918]) (rest := []) S Y (x_X7_addClause (l := l) (j := t) I hW hT hQ (show t < 8 from by omega)) cw_X7_addClause km5_130 (I.opo (k := 30) (j := t) (show t < 8 from by omega) rfl).choose_spec.1 ok_X7.1 rfl rfl ⟨Nat.le_of_ble_eq_true rfl, Nat.le_of_ble_eq_true rfl⟩ hl.1 rfl (Nat.le_of_ble_eq_true rfl) ⟨Nat.le_of_ble_eq_true rfl, Nat.le_of_ble_eq_true rfl⟩ dX5_readClause_60 (fun L_65947 f_65948 H locs I Y => ?_)
          refine lv_aload_n hx hb dX5_readClause_63 rfl (lv_at hl 1 rfl) ?_
          refine cVv (As := []) (rest := []) S Y (x_X5_step (l := l) I hW hT hQ) cw_X5_step km5_49 (I.opo (k := 2) (j := 0) (by decide) rfl).choose_spec.1 ok_X5.1 rfl rfl ⟨Nat.le_of_ble_eq_true rfl, Nat.le_of_ble_eq_true rfl⟩ hl.1 rfl (Nat.le_of_ble_eq_true rfl) ⟨Nat.le_of_ble_eq_true rfl, Nat.le_of_ble_eq_true rfl⟩ dX5_readClause_64 (fun L_65949 f_65950 H locs I Y => ?_)
          refine lv_iload_n hx hb dX5_readClause_67 rfl (lv_at hl 0 rfl) ?_
          refine lv_iconst (v := 3) hx hb dX5_readClause_68 (by decide) ?_
          refine lv_icmp_ge (tgt := 83) hx hb dX5_readClause_69 (by decide) (fun c_65951 => ?_) (fun c_65951 => ?_)
          · have B_65952 : bn 3 9 v_65918 := bn_w (bn_ler c_65951 (show bn 3 3 (3 : Int32) from bn_k (by decide)) B_65937) (by decide)
            refine lv_aload_n hx hb dX5_readClause_83 rfl (lv_at hl 1 rfl) ?_
            refine lv_iload_n hx hb dX5_readClause_84 rfl (lv_at hl 0 rfl) ?_
            refine cVi (As := [.int v_65918]) (rest := []) S Y (x_X5_readDeed (l := l) (t := t) I hW hT hQ ht) cw_X5_readDeed km5_137 (I.opo (k := 2) (j := 0) (by decide) rfl).choose_spec.1 ok_X5.1 rfl rfl ⟨Nat.le_of_ble_eq_true rfl, Nat.le_of_ble_eq_true rfl⟩ hl.1 rfl (Nat.le_of_ble_eq_true rfl) ⟨Nat.le_of_ble_eq_true rfl, Nat.le_of_ble_eq_true rfl⟩ dX5_readClause_85 (fun r_65956 L_65954 f_65955 H locs hr_65956 Y => ?_)
            obtain ⟨er_65956, I⟩ := hr_65956
            refine lv_if_eq (tgt := 104) hx hb dX5_readClause_88 (by decide) (fun c_65957 => ?_) (fun c_65957 => ?_)
            · have B_65958 : bn 0 0 r_65956 := bn_w (bn_eq c_65957 (show bn 0 0 (0 : Int32) from bn_k (by decide))) (by decide)
              refine lv_iconst (v := 0) hx hb dX5_readClause_104 (by decide) ?_
              exact prI (post := fun r L1 f1 => bn 0 1 r ∧ SH (spC (RF 30 t) fc tc w q) nnC G ad L1 f1) S Y rfl (by decide) (by decide) hA1 ⟨bn_w (show bn 0 0 (0 : Int32) from bn_k (by decide)) (by decide), I⟩ dX5_readClause_105
            · have B_65959 : bn 1 1 r_65956 := bn_w (bn_nel c_65957 er_65956 (show bn 0 0 (0 : Int32) from bn_k (by decide))) (by decide)
              refine lv_aload_n hx hb dX5_readClause_91 rfl (lv_at hl 1 rfl) ?_
              refine lv_bipush (v := 59) hx hb dX5_readClause_92 (by decide) ?_
              refine cVi (As := [.int 59]) (rest := []) S Y (x_X5_expect (l := l) I hW hT hQ) cw_X5_expect km5_140 (I.opo (k := 2) (j := 0) (by decide) rfl).choose_spec.1 ok_X5.1 rfl rfl ⟨Nat.le_of_ble_eq_true rfl, Nat.le_of_ble_eq_true rfl⟩ hl.1 rfl (Nat.le_of_ble_eq_true rfl) ⟨Nat.le_of_ble_eq_true rfl, Nat.le_of_ble_eq_true rfl⟩ dX5_readClause_94 (fun r_65962 L_65960 f_65961 H locs hr_65962 Y => ?_)
              obtain ⟨er_65962, I⟩ := hr_65962
              refine lv_if_eq (tgt := 104) hx hb dX5_readClause_97 (by decide) (fun c_65963 => ?_) (fun c_65963 => ?_)
              · have B_65964 : bn 0 0 r_65962 := bn_w (bn_eq c_65963 (show bn 0 0 (0 : Int32) from bn_k (by decide))) (by decide)
                refine lv_iconst (v := 0) hx hb dX5_readClause_104 (by decide) ?_
                exact prI (post := fun r L1 f1 => bn 0 1 r ∧ SH (spC (RF 30 t) fc tc w q) nnC G ad L1 f1) S Y rfl (by decide) (by decide) hA1 ⟨bn_w (show bn 0 0 (0 : Int32) from bn_k (by decide)) (by decide), I⟩ dX5_readClause_105
              · have B_65965 : bn 1 1 r_65962 := bn_w (bn_nel c_65963 er_65962 (show bn 0 0 (0 : Int32) from bn_k (by decide))) (by decide)
                refine lv_iconst (v := 1) hx hb dX5_readClause_100 (by decide) ?_
                refine lv_goto (tgt := 105) hx hb dX5_readClause_101 (by decide) ?_
                exact prI (post := fun r L1 f1 => bn 0 1 r ∧ SH (spC (RF 30 t) fc tc w q) nnC G ad L1 f1) S Y rfl (by decide) (by decide) hA1 ⟨bn_w (show bn 1 1 (1 : Int32) from bn_k (by decide)) (by decide), I⟩ dX5_readClause_105
          · have B_65953 : bn 0 2 v_65918 := bn_w (bn_gtr c_65951 (show bn 3 3 (3 : Int32) from bn_k (by decide)) B_65937) (by decide)
            refine lv_aload_n hx hb dX5_readClause_72 rfl (lv_at hl 1 rfl) ?_
            refine lv_iload_n hx hb dX5_readClause_73 rfl (lv_at hl 0 rfl) ?_
            refine cVi (As := [.int v_65918]) (rest := []) S Y (x_X5_readLaw (l := l) (t := t) I hW hT hQ ht) cw_X5_readLaw km5_134 (I.opo (k := 2) (j := 0) (by decide) rfl).choose_spec.1 ok_X5.1 rfl rfl ⟨Nat.le_of_ble_eq_true rfl, Nat.le_of_ble_eq_true rfl⟩ hl.1 rfl (Nat.le_of_ble_eq_true rfl) ⟨Nat.le_of_ble_eq_true rfl, Nat.le_of_ble_eq_true rfl⟩ dX5_readClause_74 (fun r_65968 L_65966 f_65967 H locs hr_65968 Y => ?_)
            obtain ⟨er_65968, I⟩ := hr_65968
            refine lv_if_eq (tgt := 104) hx hb dX5_readClause_77 (by decide) (fun c_65969 => ?_) (fun c_65969 => ?_)
            · have B_65970 : bn 0 0 r_65968 := bn_w (bn_eq c_65969 (show bn 0 0 (0 : Int32) from bn_k (by decide))) (by decide)
              refine lv_iconst (v := 0) hx hb dX5_readClause_104 (by decide) ?_
              exact prI (post := fun r L1 f1 => bn 0 1 r ∧ SH (spC (RF 30 t) fc tc w q) nnC G ad L1 f1) S Y rfl (by decide) (by decide) hA1 ⟨bn_w (show bn 0 0 (0 : Int32) from bn_k (by decide)) (by decide), I⟩ dX5_readClause_105
            · have B_65971 : bn 1 1 r_65968 := bn_w (bn_nel c_65969 er_65968 (show bn 0 0 (0 : Int32) from bn_k (by decide))) (by decide)
              refine lv_goto (tgt := 91) hx hb dX5_readClause_80 (by decide) ?_
              refine lv_aload_n hx hb dX5_readClause_91 rfl (lv_at hl 1 rfl) ?_
              refine lv_bipush (v := 59) hx hb dX5_readClause_92 (by decide) ?_
              refine cVi (As := [.int 59]) (rest := []) S Y (x_X5_expect (l := l) I hW hT hQ) cw_X5_expect km5_140 (I.opo (k := 2) (j := 0) (by decide) rfl).choose_spec.1 ok_X5.1 rfl rfl ⟨Nat.le_of_ble_eq_true rfl, Nat.le_of_ble_eq_true rfl⟩ hl.1 rfl (Nat.le_of_ble_eq_true rfl) ⟨Nat.le_of_ble_eq_true rfl, Nat.le_of_ble_eq_true rfl⟩ dX5_readClause_94 (fun r_65974 L_65972 f_65973 H locs hr_65974 Y => ?_)
              obtain ⟨er_65974, I⟩ := hr_65974
              refine lv_if_eq (tgt := 104) hx hb dX5_readClause_97 (by decide) (fun c_65975 => ?_) (fun c_65975 => ?_)
              · have B_65976 : bn 0 0 r_65974 := bn_w (bn_eq c_65975 (show bn 0 0 (0 : Int32) from bn_k (by decide))) (by decide)
                refine lv_iconst (v := 0) hx hb dX5_readClause_104 (by decide) ?_
                exact prI (post := fun r L1 f1 => bn 0 1 r ∧ SH (spC (RF 30 t) fc tc w q) nnC G ad L1 f1) S Y rfl (by decide) (by decide) hA1 ⟨bn_w (show bn 0 0 (0 : Int32) from bn_k (by decide)) (by decide), I⟩ dX5_readClause_105
              · have B_65977 : bn 1 1 r_65974 := bn_w (bn_nel c_65975 er_65974 (show bn 0 0 (0 : Int32) from bn_k (by decide))) (by decide)
                refine lv_iconst (v := 1) hx hb dX5_readClause_100 (by decide) ?_
                refine lv_goto (tgt := 105) hx hb dX5_readClause_101 (by decide) ?_
                exact prI (post := fun r L1 f1 => bn 0 1 r ∧ SH (spC (RF 30 t) fc tc w q) nnC G ad L1 f1) S Y rfl (by decide) (by decide) hA1 ⟨bn_w (show bn 1 1 (1 : Int32) from bn_k (by decide)) (by decide), I⟩ dX5_readClause_105
        · have B_65946 : bn 1 1 r_65943 := bn_w (bn_nel c_65944 er_65943 (show bn 0 0 (0 : Int32) from bn_k (by decide))) (by decide)
          refine lv_aload_n hx hb dX5_readClause_48 rfl (lv_at hl 1 rfl) ?_
          refine lv_bipush (v := 6) hx hb dX5_readClause_49 (by decide) ?_
          refine cVi (As := [.int 6]) (rest := []) S Y (x_X5_fail (l := l) I hW hT hQ) cw_X5_fail km5_121 p_ad_2_0 ok_X5.1 rfl rfl ⟨Nat.le_of_ble_eq_true rfl, Nat.le_of_ble_eq_true rfl⟩ hl.1 rfl (Nat.le_of_ble_eq_true rfl) ⟨Nat.le_of_ble_eq_true rfl, Nat.le_of_ble_eq_true rfl⟩ dX5_readClause_51 (fun r_65980 L_65978 f_65979 H locs hr_65980 Y => ?_)
          obtain ⟨er_65980, I⟩ := hr_65980
          exact prI (post := fun r L1 f1 => bn 0 1 r ∧ SH (spC (RF 30 t) fc tc w q) nnC G ad L1 f1) S Y (nw_b (bn_w er_65980 (by decide))) (by decide) (by decide) hA1 ⟨bn_w er_65980 (by decide), I⟩ dX5_readClause_54
      · have B_65942 : bn 1 1 r_65939 := bn_w (bn_nel c_65940 er_65939 (show bn 0 0 (0 : Int32) from bn_k (by decide))) (by decide)
        refine lv_aload_n hx hb dX5_readClause_32 rfl (lv_at hl 1 rfl) ?_
        refine lv_iconst (v := 4) hx hb dX5_readClause_33 (by decide) ?_
        refine cVi (As := [.int 4]) (rest := []) S Y (x_X5_fail (l := l) I hW hT hQ) cw_X5_fail km5_121 p_ad_2_0 ok_X5.1 rfl rfl ⟨Nat.le_of_ble_eq_true rfl, Nat.le_of_ble_eq_true rfl⟩ hl.1 rfl (Nat.le_of_ble_eq_true rfl) ⟨Nat.le_of_ble_eq_true rfl, Nat.le_of_ble_eq_true rfl⟩ dX5_readClause_34 (fun r_65983 L_65981 f_65982 H locs hr_65983 Y => ?_)
        obtain ⟨er_65983, I⟩ := hr_65983
        exact prI (post := fun r L1 f1 => bn 0 1 r ∧ SH (spC (RF 30 t) fc tc w q) nnC G ad L1 f1) S Y (nw_b (bn_w er_65983 (by decide))) (by decide) (by decide) hA1 ⟨bn_w er_65983 (by decide), I⟩ dX5_readClause_37
    · have B_65938 : bn 10 2147483647 v_65918 := bn_w (bn_gtl c_65936 B_65932 (show bn 9 9 (9 : Int32) from bn_k (by decide))) (by decide)
      refine lv_aload_n hx hb dX5_readClause_15 rfl (lv_at hl 1 rfl) ?_
      refine lv_iconst (v := 1) hx hb dX5_readClause_16 (by decide) ?_
      refine cVi (As := [.int 1]) (rest := []) S Y (x_X5_fail (l := l) I hW hT hQ) cw_X5_fail km5_121 p_ad_2_0 ok_X5.1 rfl rfl ⟨Nat.le_of_ble_eq_true rfl, Nat.le_of_ble_eq_true rfl⟩ hl.1 rfl (Nat.le_of_ble_eq_true rfl) ⟨Nat.le_of_ble_eq_true rfl, Nat.le_of_ble_eq_true rfl⟩ dX5_readClause_17 (fun r_65986 L_65984 f_65985 H locs hr_65986 Y => ?_)
      obtain ⟨er_65986, I⟩ := hr_65986
      exact prI (post := fun r L1 f1 => bn 0 1 r ∧ SH (spC (RF 30 t) fc tc w q) nnC G ad L1 f1) S Y (nw_b (bn_w er_65986 (by decide))) (by decide) (by decide) hA1 ⟨bn_w er_65986 (by decide), I⟩ dX5_readClause_20
