theorem dX5_readLaw_0 : decode cX5_readLaw 0 = .ok (.aload_n 0, 1) := by decide +kernel
theorem dX5_readLaw_1 : decode cX5_readLaw 1 = .ok (.getfield 34, 3) := by decide +kernel
theorem dX5_readLaw_4 : decode cX5_readLaw 4 = .ok (.getfield 143, 3) := by decide +kernel
theorem kf5_143 : inW (Cond.fieldLinkNest RX5 143 "KneeOaths$Script" "length" "I" "KneeOaths") := ⟨List.mem_of_getElem? (i := 243) (by decide +kernel), by decide +kernel⟩
theorem dX5_readLaw_7 : decode cX5_readLaw 7 = .ok (.istore_n 2, 1) := by decide +kernel
theorem dX5_readLaw_8 : decode cX5_readLaw 8 = .ok (.aload_n 0, 1) := by decide +kernel
theorem dX5_readLaw_9 : decode cX5_readLaw 9 = .ok (.iload_n 1, 1) := by decide +kernel
theorem dX5_readLaw_10 : decode cX5_readLaw 10 = .ok (.putfield 144, 3) := by decide +kernel
theorem dX5_readLaw_13 : decode cX5_readLaw 13 = .ok (.aload_n 0, 1) := by decide +kernel
theorem dX5_readLaw_14 : decode cX5_readLaw 14 = .ok (.iconst 0, 1) := by decide +kernel
theorem dX5_readLaw_15 : decode cX5_readLaw 15 = .ok (.invokevirtual 147, 3) := by decide +kernel
theorem dX5_readLaw_18 : decode cX5_readLaw 18 = .ok (.ifCond .ne 5, 3) := by decide +kernel
theorem dX5_readLaw_23 : decode cX5_readLaw 23 = .ok (.aload_n 0, 1) := by decide +kernel
theorem dX5_readLaw_24 : decode cX5_readLaw 24 = .ok (.getfield 34, 3) := by decide +kernel
theorem dX5_readLaw_27 : decode cX5_readLaw 27 = .ok (.iload_n 1, 1) := by decide +kernel
theorem dX5_readLaw_28 : decode cX5_readLaw 28 = .ok (.iload_n 2, 1) := by decide +kernel
theorem dX5_readLaw_29 : decode cX5_readLaw 29 = .ok (.invokevirtual 150, 3) := by decide +kernel
theorem cw_X7_addLaw : CWv yX7_addLaw cX7_addLaw 3 none 2 := ⟨⟨⟨List.mem_of_getElem? (i := 129) (by decide +kernel), by decide +kernel⟩, ⟨List.mem_of_getElem? (i := 824) (by decide +kernel), by decide +kernel⟩, by decide +kernel⟩, ⟨List.mem_of_getElem? (i := 822) (by decide +kernel), by decide +kernel⟩, ⟨List.mem_of_getElem? (i := 823) (by decide +kernel), by decide +kernel⟩⟩
theorem km5_150 : inW (Cond.methodLink RX5 150 yX7_addLaw) := ⟨List.mem_of_getElem? (i := 821) (by decide +kernel), by decide +kernel⟩
theorem dX5_readLaw_32 : decode cX5_readLaw 32 = .ok (.iconst 1, 1) := by decide +kernel
theorem dX5_readLaw_33 : decode cX5_readLaw 33 = .ok (.ireturn, 1) := by decide +kernel
theorem dX5_readLaw_21 : decode cX5_readLaw 21 = .ok (.iconst 0, 1) := by decide +kernel
theorem dX5_readLaw_22 : decode cX5_readLaw 22 = .ok (.ireturn, 1) := by decide +kernel
theorem rd_all {l : Launch} {G : GG} {ad : Nat → Nat → Nat} {nL : Int} {lw : Int} {fk : Int} {fp : Int} {kN : Nat} {kK : Nat → Int} {kP : Nat → Int} {kV : Nat → Int} {bT : Nat → Int32} {fc : Int × Int} {tc w : Nat → Int × Int} {q : Nat → (Nat → Int32) → Prop} : ∀ (n : Nat), (∀ {L : List Nat} {f : HF} {t : Nat} {i1 : Int32} {iT oT : Nat} {bL : Bool} {sc : Nat → SG} {sl : Int} {cB : Int × Int} {cC cD : (Nat → Int32) → Prop}, (SH (spC ((RF 30 t, fz (pp nL) (pp (kN : Int)) (pp ((iT + 1 : Nat) : Int)) (pp (kK iT)) (pp (kP iT)) (pp (kV iT)) (pp lw) (pp fk) (pp fp), tz (EQ bT) (RW kN kK) (RW kN kP) (RW kN kV), sc) : RS) fc tc w q) nnC G ad L f) → (WBp w 8) → (WBp tc 4) → (QIp q) → (t < 4) → (bn 0 8 i1) → (RDH kK kN) → (iT < kN) → (sc t = (pp sl, cB, cC, cD)) → (0 ≤ sl ∧ sl ≤ (iT : Int)) → (i1.toInt = (oT : Int)) → (bL = true ↔ lw = 2) → ((8 - i1.toInt).toNat ≤ n) → PMi l yX5_readSum cX5_readSum 4 .boolean (16 * n + 10) 0 0 G [.ref (ad 2 0), .int i1] L f (fun r L1 f1 => ∃ j2 : Nat, ∃ fk2 : Int, ∃ fp2 : Int, ∃ sc2 : Nat → SG, bn 0 1 r ∧ SH (spC ((RF 30 t, fz (pp nL) (pp (kN : Int)) (pp ((j2 + 1 : Nat) : Int)) (pp (kK j2)) (pp (kP j2)) (pp (kV j2)) (pp lw) (pp fk2) (pp fp2), tz (EQ bT) (RW kN kK) (RW kN kP) (RW kN kV), sc2) : RS) fc tc w q) nnC G ad L1 f1 ∧ RDP kK kV kP ([(kSum, oT, bL)] : List LI) iT j2 kN fk fp fk2 fp2 r ∧ (r = 1 → ∃ sl2, sc2 t = (pp sl2, cB, cC, cD) ∧ sl < sl2 ∧ sl2 + (iT : Int) ≤ sl + (j2 : Int)))) ∧ (∀ {L : List Nat} {f : HF} {t : Nat} {i1 : Int32} {iT oT : Nat} {bL : Bool} {sc : Nat → SG} {sl : Int} {cB : Int × Int} {cC cD : (Nat → Int32) → Prop}, (SH (spC ((RF 30 t, fz (pp nL) (pp (kN : Int)) (pp ((iT + 1 : Nat) : Int)) (pp (kK iT)) (pp (kP iT)) (pp (kV iT)) (pp lw) (pp fk) (pp fp), tz (EQ bT) (RW kN kK) (RW kN kP) (RW kN kV), sc) : RS) fc tc w q) nnC G ad L f) → (WBp w 8) → (WBp tc 4) → (QIp q) → (t < 4) → (bn 0 8 i1) → (RDH kK kN) → (iT < kN) → (sc t = (pp sl, cB, cC, cD)) → (0 ≤ sl ∧ sl ≤ (iT : Int)) → (i1.toInt = (oT : Int)) → (bL = true ↔ lw = 2) → ((8 - i1.toInt).toNat ≤ n) → PMi l yX5_readChoice cX5_readChoice 4 .boolean (16 * n + 15) 0 0 G [.ref (ad 2 0), .int i1] L f (fun r L1 f1 => ∃ j2 : Nat, ∃ fk2 : Int, ∃ fp2 : Int, ∃ sc2 : Nat → SG, bn 0 1 r ∧ SH (spC ((RF 30 t, fz (pp nL) (pp (kN : Int)) (pp ((j2 + 1 : Nat) : Int)) (pp (kK j2)) (pp (kP j2)) (pp (kV j2)) (pp lw) (pp fk2) (pp fp2), tz (EQ bT) (RW kN kK) (RW kN kP) (RW kN kV), sc2) : RS) fc tc w q) nnC G ad L1 f1 ∧ RDP kK kV kP ([(kEi, oT, bL), ((kEx 24), oT, bL), (kSum, oT, bL), ((kEx 25), oT, bL), (kSum, oT, bL), ((kEx 26), oT, bL)] : List LI) iT j2 kN fk fp fk2 fp2 r ∧ (r = 1 → ∃ sl2, sc2 t = (pp sl2, cB, cC, cD) ∧ sl < sl2 ∧ sl2 + (iT : Int) ≤ sl + (j2 : Int)))) ∧ (∀ {L : List Nat} {f : HF} {t : Nat} {i1 : Int32} {iT oT : Nat} {bL : Bool} {sc : Nat → SG} {sl : Int} {cB : Int × Int} {cC cD : (Nat → Int32) → Prop}, (SH (spC ((RF 30 t, fz (pp nL) (pp (kN : Int)) (pp ((iT + 1 : Nat) : Int)) (pp (kK iT)) (pp (kP iT)) (pp (kV iT)) (pp lw) (pp fk) (pp fp), tz (EQ bT) (RW kN kK) (RW kN kP) (RW kN kV), sc) : RS) fc tc w q) nnC G ad L f) → (WBp w 8) → (WBp tc 4) → (QIp q) → (t < 4) → (bn 0 8 i1) → (RDH kK kN) → (iT < kN) → (sc t = (pp sl, cB, cC, cD)) → (0 ≤ sl ∧ sl ≤ (iT : Int)) → (i1.toInt = (oT : Int)) → (bL = true ↔ lw = 2) → ((8 - i1.toInt).toNat ≤ n) → PMi l yX5_readOne cX5_readOne 3 .boolean (16 * n + 8) 0 0 G [.ref (ad 2 0), .int i1] L f (fun r L1 f1 => ∃ j2 : Nat, ∃ fk2 : Int, ∃ fp2 : Int, ∃ sc2 : Nat → SG, bn 0 1 r ∧ SH (spC ((RF 30 t, fz (pp nL) (pp (kN : Int)) (pp ((j2 + 1 : Nat) : Int)) (pp (kK j2)) (pp (kP j2)) (pp (kV j2)) (pp lw) (pp fk2) (pp fp2), tz (EQ bT) (RW kN kK) (RW kN kP) (RW kN kV), sc2) : RS) fc tc w q) nnC G ad L1 f1 ∧ RDP kK kV kP ([(kOne, oT, bL)] : List LI) iT j2 kN fk fp fk2 fp2 r ∧ (r = 1 → ∃ sl2, sc2 t = (pp sl2, cB, cC, cD) ∧ sl < sl2 ∧ sl2 + (iT : Int) ≤ sl + (j2 : Int)))) ∧ (∀ {L : List Nat} {f : HF} {t : Nat} {i1 : Int32} {iT oT : Nat} {bL : Bool} {sc : Nat → SG} {sl : Int} {cB : Int × Int} {cC cD : (Nat → Int32) → Prop}, (SH (spC ((RF 30 t, fz (pp nL) (pp (kN : Int)) (pp ((iT + 1 : Nat) : Int)) (pp (kK iT)) (pp (kP iT)) (pp (kV iT)) (pp lw) (pp fk) (pp fp), tz (EQ bT) (RW kN kK) (RW kN kP) (RW kN kV), sc) : RS) fc tc w q) nnC G ad L f) → (WBp w 8) → (WBp tc 4) → (QIp q) → (t < 4) → (bn 0 8 i1) → (RDH kK kN) → (iT < kN) → (sc t = (pp sl, cB, cC, cD)) → (0 ≤ sl ∧ sl ≤ (iT : Int)) → (i1.toInt = (oT : Int)) → (bL = true ↔ lw = 2) → ((8 - i1.toInt).toNat ≤ n) → PMi l yX5_readJust cX5_readJust 3 .boolean (16 * n + 15) 0 0 G [.ref (ad 2 0), .int i1] L f (fun r L1 f1 => ∃ j2 : Nat, ∃ fk2 : Int, ∃ fp2 : Int, ∃ sc2 : Nat → SG, bn 0 1 r ∧ SH (spC ((RF 30 t, fz (pp nL) (pp (kN : Int)) (pp ((j2 + 1 : Nat) : Int)) (pp (kK j2)) (pp (kP j2)) (pp (kV j2)) (pp lw) (pp fk2) (pp fp2), tz (EQ bT) (RW kN kK) (RW kN kP) (RW kN kV), sc2) : RS) fc tc w q) nnC G ad L1 f1 ∧ RDP kK kV kP ([((kEx 40), oT, bL), (kEi, oT, bL), ((kJT 1), oT, bL)] : List LI) iT j2 kN fk fp fk2 fp2 r ∧ (r = 1 → ∃ sl2, sc2 t = (pp sl2, cB, cC, cD) ∧ sl < sl2 ∧ sl2 + (iT : Int) ≤ sl + (j2 : Int)))) ∧ (∀ {L : List Nat} {f : HF} {t : Nat} {i1 : Int32} {iT oT : Nat} {bL : Bool} {sc : Nat → SG} {sl : Int} {cB : Int × Int} {cC cD : (Nat → Int32) → Prop}, (SH (spC ((RF 30 t, fz (pp nL) (pp (kN : Int)) (pp ((iT + 1 : Nat) : Int)) (pp (kK iT)) (pp (kP iT)) (pp (kV iT)) (pp lw) (pp fk) (pp fp), tz (EQ bT) (RW kN kK) (RW kN kP) (RW kN kV), sc) : RS) fc tc w q) nnC G ad L f) → (WBp w 8) → (WBp tc 4) → (QIp q) → (t < 4) → (bn 0 8 i1) → (RDH kK kN) → (iT < kN) → (sc t = (pp sl, cB, cC, cD)) → (0 ≤ sl ∧ sl ≤ (iT : Int)) → (i1.toInt = (oT : Int)) → (bL = true ↔ lw = 2) → ((8 - i1.toInt).toNat ≤ n) → PMi l yX5_readAsk cX5_readAsk 3 .boolean (16 * n + 12) 0 0 G [.ref (ad 2 0), .int i1] L f (fun r L1 f1 => ∃ j2 : Nat, ∃ fk2 : Int, ∃ fp2 : Int, ∃ sc2 : Nat → SG, bn 0 1 r ∧ SH (spC ((RF 30 t, fz (pp nL) (pp (kN : Int)) (pp ((j2 + 1 : Nat) : Int)) (pp (kK j2)) (pp (kP j2)) (pp (kV j2)) (pp lw) (pp fk2) (pp fp2), tz (EQ bT) (RW kN kK) (RW kN kP) (RW kN kV), sc2) : RS) fc tc w q) nnC G ad L1 f1 ∧ RDP kK kV kP ([(kAsk, oT, bL)] : List LI) iT j2 kN fk fp fk2 fp2 r ∧ (r = 1 → ∃ sl2, sc2 t = (pp sl2, cB, cC, cD) ∧ sl < sl2 ∧ sl2 + (iT : Int) ≤ sl + (j2 : Int)))) := by
  intro n
  induction n with
  | zero =>
    refine ⟨fun I hW hT hQ ht b_i1 hN hi hs hl ho hbl hm => x_X5_readSum_z I hW hT hQ ht (od_0 b_i1 hm) hN hi hs hl ho hbl, fun I hW hT hQ ht b_i1 hN hi hs hl ho hbl hm => x_X5_readChoice_z I hW hT hQ ht (od_0 b_i1 hm) hN hi hs hl ho hbl, fun I hW hT hQ ht b_i1 hN hi hs hl ho hbl hm => x_X5_readOne_z I hW hT hQ ht (od_0 b_i1 hm) hN hi hs hl ho hbl, fun I hW hT hQ ht b_i1 hN hi hs hl ho hbl hm => x_X5_readJust_z I hW hT hQ ht (od_0 b_i1 hm) hN hi hs hl ho hbl, fun I hW hT hQ ht b_i1 hN hi hs hl ho hbl hm => x_X5_readAsk_z I hW hT hQ ht (od_0 b_i1 hm) hN hi hs hl ho hbl⟩
  | succ n ih =>
    obtain ⟨ihS, ihC, ihO, ihJ, ihA⟩ := ih
    refine ⟨fun I hW hT hQ ht b_i1 hN hi hs hl ho hbl hm => x_X5_readSum_s I hW hT hQ ht b_i1 hN hi hs hl ho hbl hm @ihS @ihC @ihO @ihJ @ihA, fun I hW hT hQ ht b_i1 hN hi hs hl ho hbl hm => x_X5_readChoice_s I hW hT hQ ht b_i1 hN hi hs hl ho hbl hm @ihS @ihC @ihO @ihJ @ihA, fun I hW hT hQ ht b_i1 hN hi hs hl ho hbl hm => x_X5_readOne_s I hW hT hQ ht b_i1 hN hi hs hl ho hbl hm @ihS @ihC @ihO @ihJ @ihA, fun I hW hT hQ ht b_i1 hN hi hs hl ho hbl hm => x_X5_readJust_s I hW hT hQ ht b_i1 hN hi hs hl ho hbl hm @ihS @ihC @ihO @ihJ @ihA, fun I hW hT hQ ht b_i1 hN hi hs hl ho hbl hm => x_X5_readAsk_s I hW hT hQ ht b_i1 hN hi hs hl ho hbl hm @ihS @ihC @ihO @ihJ @ihA⟩
theorem x_X5_readSum {l : Launch} {G : GG}  {L : List Nat} {f : HF} {ad : Nat → Nat → Nat} {nL : Int} {lw : Int} {fk : Int} {fp : Int} {kN : Nat} {kK : Nat → Int} {kP : Nat → Int} {kV : Nat → Int} {bT : Nat → Int32} {fc : Int × Int} {tc w : Nat → Int × Int} {q : Nat → (Nat → Int32) → Prop} {t : Nat} {i1 : Int32} {iT oT : Nat} {bL : Bool} {sc : Nat → SG} {sl : Int} {cB : Int × Int} {cC cD : (Nat → Int32) → Prop} (I : SH (spC ((RF 30 t, fz (pp nL) (pp (kN : Int)) (pp ((iT + 1 : Nat) : Int)) (pp (kK iT)) (pp (kP iT)) (pp (kV iT)) (pp lw) (pp fk) (pp fp), tz (EQ bT) (RW kN kK) (RW kN kP) (RW kN kV), sc) : RS) fc tc w q) nnC G ad L f) (hW : WBp w 8) (hT : WBp tc 4) (hQ : QIp q) (ht : t < 4) (b_i1 : bn 0 8 i1) (hN : RDH kK kN) (hi : iT < kN) (hs : sc t = (pp sl, cB, cC, cD)) (hl : 0 ≤ sl ∧ sl ≤ (iT : Int)) (ho : i1.toInt = (oT : Int)) (hbl : bL = true ↔ lw = 2) : PMi l yX5_readSum cX5_readSum 4 .boolean 138 0 0 G [.ref (ad 2 0), .int i1] L f (fun r L1 f1 => ∃ j2 : Nat, ∃ fk2 : Int, ∃ fp2 : Int, ∃ sc2 : Nat → SG, bn 0 1 r ∧ SH (spC ((RF 30 t, fz (pp nL) (pp (kN : Int)) (pp ((j2 + 1 : Nat) : Int)) (pp (kK j2)) (pp (kP j2)) (pp (kV j2)) (pp lw) (pp fk2) (pp fp2), tz (EQ bT) (RW kN kK) (RW kN kP) (RW kN kV), sc2) : RS) fc tc w q) nnC G ad L1 f1 ∧ RDP kK kV kP ([(kSum, oT, bL)] : List LI) iT j2 kN fk fp fk2 fp2 r ∧ (r = 1 → ∃ sl2, sc2 t = (pp sl2, cB, cC, cD) ∧ sl < sl2 ∧ sl2 + (iT : Int) ≤ sl + (j2 : Int))) := (rd_all 8).1 I hW hT hQ ht b_i1 hN hi hs hl ho hbl (by obtain ⟨h1, h2⟩ := b_i1; omega)
section LAWR
variable {K V : Nat → Int} {X Y : List LI} {i0 i : Nat} {e k a cc sl sl2 : Int} {aF aT : Nat → Int} {o : Nat} {b : Bool} {v : Int}
theorem TrLaw (h : ∀ S, Tr K V (X ++ S) i0 (((kLaw e, 0, false) :: Y) ++ S) i) : ∀ S, Tr K V (X ++ S) i0 (((kSum, 0, decide (e = 2)) :: Y) ++ S) i := fun S => by
  by_cases z : e = 2
  · have q := Tr_goR (K := K) (V := V) (i := i) (x := kLaw e) (o := 0) (b := false) (S := Y ++ S) (a := 0) (its := [kSum]) (d := 100) (by unfold gx; simp only; rw [if_pos z])
    rw [decide_eq_true z]
    exact Tr_t (h S) q
  · have q := Tr_go (K := K) (V := V) (i := i) (x := kLaw e) (o := 0) (b := false) (S := Y ++ S) (a := 0) (its := [kSum]) (d := 0) (by unfold gx; simp only; rw [if_neg z])
    rw [decide_eq_false z]
    exact Tr_t (h S) q
/-- the laws that stand, as bits -/
def mkL (aF aT : Nat → Int) : Int := (if aF 0 < aT 0 then 1 else 0) + (if aF 1 < aT 1 then 2 else 0) + (if aF 2 < aT 2 then 4 else 0)
theorem mkL_b (aF aT : Nat → Int) : 0 ≤ mkL aF aT ∧ mkL aF aT ≤ 7 := by
  unfold mkL
  (repeat' split) <;> omega
abbrev twice (m k : Int) : Prop := onceM m k ≠ m ∧ (if k = 0 then m % 2 = 1 else if k = 1 then m / 2 % 2 = 1 else m / 4 % 2 = 1)
theorem tw_iff (h : 0 ≤ k ∧ k ≤ 9) : twice (mkL aF aT) k ↔ hasL aF aT k := by
  unfold twice onceM hasL
  by_cases k0 : k = 0
  · subst k0
    rw [if_pos rfl, if_pos rfl]
    show _ ↔ 0 ≤ (0 : Int) ∧ (0 : Int) < 3 ∧ aF 0 < aT 0
    constructor
    · intro q
      have q2 := q.2
      unfold mkL at q2
      revert q2
      (repeat' split) <;> omega
    · intro q
      have m : mkL aF aT % 2 = 1 := by
        unfold mkL
        (repeat' split) <;> omega
      exact ⟨by omega, m⟩
  by_cases k1 : k = 1
  · subst k1
    rw [if_neg (by decide), if_pos rfl, if_neg (by decide), if_pos rfl]
    show _ ↔ 0 ≤ (1 : Int) ∧ (1 : Int) < 3 ∧ aF 1 < aT 1
    constructor
    · intro q
      have q2 := q.2
      unfold mkL at q2
      revert q2
      (repeat' split) <;> omega
    · intro q
      have m : mkL aF aT / 2 % 2 = 1 := by
        unfold mkL
        (repeat' split) <;> omega
      exact ⟨by omega, m⟩
  by_cases k2 : k = 2
  · subst k2
    rw [if_neg (by decide), if_neg (by decide), if_pos rfl, if_neg (by decide), if_neg (by decide)]
    show _ ↔ 0 ≤ (2 : Int) ∧ (2 : Int) < 3 ∧ aF 2 < aT 2
    constructor
    · intro q
      have q2 := q.2
      unfold mkL at q2
      revert q2
      (repeat' split) <;> omega
    · intro q
      have m : mkL aF aT / 4 % 2 = 1 := by
        unfold mkL
        (repeat' split) <;> omega
      exact ⟨by omega, m⟩
  · rw [if_neg k0, if_neg k1, if_neg k2]
    constructor
    · intro q; exact absurd rfl q.1
    · intro q; omega
/-- a clause's laws and count as one number -/
def clN (aF aT : Nat → Int) (cc : Int) : Int := mkL aF aT * 100 + cc
theorem clN_d (h : 0 ≤ cc ∧ cc ≤ 24) : clN aF aT cc / 100 = mkL aF aT ∧ clN aF aT cc % 100 = cc := by
  have := mkL_b aF aT
  unfold clN
  constructor <;> omega
theorem gx_c1 (hk : k ≠ 1002) (h2 : k < 0 ∨ 9 < k) : gx (kCls a) o b k v = (1, 0, [], 0) := by unfold gx; simp only; rw [if_neg hk, if_pos h2]
theorem gx_c4 (h1 : 0 ≤ k ∧ k ≤ 9) (hc : 0 ≤ cc ∧ cc ≤ 24) (ht : hasL aF aT k) : gx (kCls (clN aF aT cc)) o b k v = (4, 0, [], 0) := by
  have q := (tw_iff h1).mpr ht
  unfold gx; simp only; rw [if_neg (by omega), if_neg (by omega), if_pos]
  rw [(clN_d hc).1]; exact q
theorem gx_c6 (h1 : 0 ≤ k ∧ k ≤ 9) (hc : 0 ≤ cc ∧ cc ≤ 24) (ht : ¬ hasL aF aT k) (h24 : 24 ≤ cc) : gx (kCls (clN aF aT cc)) o b k v = (6, 0, [], 0) := by
  unfold gx; simp only; rw [if_neg (by omega), if_neg (by omega), if_neg, if_pos (by rw [(clN_d hc).2]; omega)]
  rw [(clN_d hc).1]; exact fun q => ht ((tw_iff h1).mp q)
theorem gx_cg (h1 : 0 ≤ k ∧ k ≤ 9) (hc : 0 ≤ cc ∧ cc ≤ 24) (ht : ¬ hasL aF aT k) (h24 : ¬ 24 ≤ cc) : gx (kCls (clN aF aT cc)) o b k v = (0, 1, cbody k ++ [kEx 59, kCls (onceM (mkL aF aT) k * 100 + cc + 1)], 0) := by
  unfold gx; simp only; rw [if_neg (by omega), if_neg (by omega), if_neg, if_neg (by rw [(clN_d hc).2]; omega)]
  · rw [(clN_d hc).1, (clN_d hc).2]
  · rw [(clN_d hc).1]; exact fun q => ht ((tw_iff h1).mp q)
theorem cl_law {n : Int32} (h1 : 0 ≤ n.toInt ∧ n.toInt ≤ 2) (ht : ¬ hasL aF aT n.toInt) (hs : sl < sl2) : onceM (mkL aF aT) n.toInt * 100 + cc + 1 = clN (stf aF n.toNatClampNeg sl) (stf aT n.toNatClampNeg sl2) (cc + 1) := by
  have e : n.toNatClampNeg = n.toInt.toNat := rfl
  rw [e]
  unfold hasL at ht
  unfold clN onceM mkL stf
  rcases (show n.toInt = 0 ∨ n.toInt = 1 ∨ n.toInt = 2 by omega) with z | z | z
  · rw [z] at ht ⊢
    have ht : ¬ (0 ≤ (0 : Int) ∧ (0 : Int) < 3 ∧ aF 0 < aT 0) := ht
    simp only [show (0 : Int).toNat = 0 from rfl]
    simp [hs]
    (repeat' split) <;> omega
  · rw [z] at ht ⊢
    have ht : ¬ (0 ≤ (1 : Int) ∧ (1 : Int) < 3 ∧ aF 1 < aT 1) := ht
    simp only [show (1 : Int).toNat = 1 from rfl]
    simp [hs]
    (repeat' split) <;> omega
  · rw [z] at ht ⊢
    have ht : ¬ (0 ≤ (2 : Int) ∧ (2 : Int) < 3 ∧ aF 2 < aT 2) := ht
    simp only [show (2 : Int).toNat = 2 from rfl]
    simp [hs]
    (repeat' split) <;> omega
theorem cl_deed (h : 3 ≤ k) : onceM (mkL aF aT) k * 100 + cc + 1 = clN aF aT (cc + 1) := by
  unfold onceM clN
  rw [if_neg (by omega), if_neg (by omega), if_neg (by omega)]
  omega
theorem hasL_of {r : Int32} {p : Prop} (e : r = 1 ∧ p ∨ r = 0 ∧ ¬ p) (h : ¬ r = 0) : p := by
  rcases e with e | e
  · exact e.2
  · exact absurd e.1 h
theorem hasL_no {r : Int32} {p : Prop} (e : r = 1 ∧ p ∨ r = 0 ∧ ¬ p) (h : r = 0) : ¬ p := by
  rcases e with e | e
  · rw [h] at e; exact absurd e.1 (by decide)
  · exact e.2
end LAWR
set_option maxHeartbeats 4000000 in
set_option maxRecDepth 100000 in
theorem x_X5_readLaw {l : Launch} {G : GG}  {L : List Nat} {f : HF} {ad : Nat → Nat → Nat} {nL : Int} {lw : Int} {fk : Int} {fp : Int} {kN : Nat} {kK : Nat → Int} {kP : Nat → Int} {kV : Nat → Int} {bT : Nat → Int32} {fc : Int × Int} {tc w : Nat → Int × Int} {q : Nat → (Nat → Int32) → Prop} {t : Nat} {i1 : Int32} {iT : Nat} {sc : Nat → SG} {sl : Int} {cB : Int × Int} {aF aT : Nat → Int} (I : SH (spC ((RF 30 t, fz (pp nL) (pp (kN : Int)) (pp ((iT + 1 : Nat) : Int)) (pp (kK iT)) (pp (kP iT)) (pp (kV iT)) (pp lw) (pp fk) (pp fp), tz (EQ bT) (RW kN kK) (RW kN kP) (RW kN kV), sc) : RS) fc tc w q) nnC G ad L f) (hW : WBp w 8) (hT : WBp tc 4) (hQ : QIp q) (ht : t < 4) (b_i1 : bn 0 2 i1) (hN : RDH kK kN) (hi : iT < kN) (hs : sc t = (pp sl, cB, LR aF, LR aT)) (hl : 0 ≤ sl ∧ sl ≤ (iT : Int)) : PMi l yX5_readLaw cX5_readLaw 3 .boolean 139 0 0 G [.ref (ad 2 0), .int i1] L f (fun r L1 f1 => ∃ j2 : Nat, ∃ fk2 : Int, ∃ fp2 : Int, ∃ sc2 : Nat → SG, bn 0 1 r ∧ SH (spC ((RF 30 t, fz (pp nL) (pp (kN : Int)) (pp ((j2 + 1 : Nat) : Int)) (pp (kK j2)) (pp (kP j2)) (pp (kV j2)) (pp i1.toInt) (pp fk2) (pp fp2), tz (EQ bT) (RW kN kK) (RW kN kP) (RW kN kV), sc2) : RS) fc tc w q) nnC G ad L1 f1 ∧ RDP kK kV kP ([((kLaw i1.toInt), 0, false)] : List LI) iT j2 kN fk fp fk2 fp2 r ∧ (r = 1 → ∃ sl2, sc2 t = (pp sl2, cB, LR (stf aF (i1 : Int32).toNatClampNeg sl), LR (stf aT (i1 : Int32).toNatClampNeg sl2)) ∧ sl < sl2 ∧ sl2 + (iT : Int) ≤ sl + (j2 : Int))) := by
  refine PMi.of (post := fun r L1 f1 => ∃ j2 : Nat, ∃ fk2 : Int, ∃ fp2 : Int, ∃ sc2 : Nat → SG, bn 0 1 r ∧ SH (spC ((RF 30 t, fz (pp nL) (pp (kN : Int)) (pp ((j2 + 1 : Nat) : Int)) (pp (kK j2)) (pp (kP j2)) (pp (kV j2)) (pp i1.toInt) (pp fk2) (pp fp2), tz (EQ bT) (RW kN kK) (RW kN kP) (RW kN kV), sc2) : RS) fc tc w q) nnC G ad L1 f1 ∧ RDP kK kV kP ([((kLaw i1.toInt), 0, false)] : List LI) iT j2 kN fk fp fk2 fp2 r ∧ (r = 1 → ∃ sl2, sc2 t = (pp sl2, cB, LR (stf aF (i1 : Int32).toNatClampNeg sl), LR (stf aT (i1 : Int32).toNatClampNeg sl2)) ∧ sl < sl2 ∧ sl2 + (iT : Int) ≤ sl + (j2 : Int))) (own := RX5) (by decide) rfl (Nat.le_of_ble_eq_true rfl) (fun sz p e s m args below meth c A ls hA1 hname S Y hl => ?_)
  have hx := S.hx
  have hb := S.hb
  have hl : lv_has ls 3 [(0, .ref (ad 2 0)), (1, .int i1)] := hl
  refine lv_aload_n hx hb dX5_readLaw_0 rfl (lv_at hl 0 rfl) ?_
  obtain ⟨v_77854, v_77856, v_77858, v_77860, v_77862, v_77864, v_77866, v_77868, v_77870, p_ad_2_0, b_77855, b_77857, b_77859, b_77861, b_77863, b_77865, b_77867, b_77869, b_77871⟩ := opnC_2r (j := 0) I (by decide)
  have p_ad_2_0 : pt L f (ad 2 0) (.inr (5, [.ref (ad 50 0), .ref (ad 51 0), .ref (ad 52 0), .ref (ad 53 0), .int v_77854, .int v_77856, .int v_77858, .int v_77860, .int v_77862, .int v_77864, .int v_77866, .ref (ad 30 t), .int v_77868, .int v_77870])) := p_ad_2_0
  have tv_77854 : v_77854.toInt = nL := lim_eq b_77855
  have tv_77856 : v_77856.toInt = (kN : Int) := lim_eq b_77857
  have tv_77858 : v_77858.toInt = ((iT + 1 : Nat) : Int) := lim_eq b_77859
  have tv_77860 : v_77860.toInt = (kK iT) := lim_eq b_77861
  have tv_77862 : v_77862.toInt = (kP iT) := lim_eq b_77863
  have tv_77864 : v_77864.toInt = (kV iT) := lim_eq b_77865
  have tv_77866 : v_77866.toInt = lw := lim_eq b_77867
  have tv_77868 : v_77868.toInt = fk := lim_eq b_77869
  have tv_77870 : v_77870.toInt = fp := lim_eq b_77871
  refine pg_get S Y ok_X5 11 (by decide) kf5_34 (v := .ref (ad 30 t)) p_ad_2_0 rfl dX5_readLaw_1 ?_
  obtain ⟨v_77872, v_77874, p_ad_30_t, b_77873, b_77875⟩ := opnC_30 (j := t) I (show t < 8 from by omega)
  have p_ad_30_t : pt L f (ad 30 t) (.inr (7, [.ref (ad 31 t), .ref (ad 32 t), .ref (ad 33 t), .ref (ad 34 t), .ref (ad 35 t), .int v_77872, .int v_77874])) := p_ad_30_t
  have tv_77872 : v_77872.toInt = sl := lim_eq2 b_77873 (congrArg (fun z : SG => z.1) hs)
  refine pg_getN S Y ok_X7 5 (by decide) kf5_143 (v := .int v_77872) p_ad_30_t rfl dX5_readLaw_4 ?_
  refine lv_istore_n (lv' := [(2, .int v_77872), (0, .ref (ad 2 0)), (1, .int i1)]) hx hb dX5_readLaw_7 rfl hl (by decide) rfl (fun ls hl => ?_)
  refine lv_aload_n hx hb dX5_readLaw_8 rfl (lv_at hl 1 rfl) ?_
  refine lv_iload_n hx hb dX5_readLaw_9 rfl (lv_at hl 2 rfl) ?_
  refine pg_put S Y ok_X5 10 (by decide) kf5_144 rfl (fs' := [.ref (ad 50 0), .ref (ad 51 0), .ref (ad 52 0), .ref (ad 53 0), .int v_77854, .int v_77856, .int v_77858, .int v_77860, .int v_77862, .int v_77864, .int i1, .ref (ad 30 t), .int v_77868, .int v_77870]) (v := .int i1) p_ad_2_0 rfl rfl rfl (Nat.le_of_ble_eq_true rfl) dX5_readLaw_10 (fun f_77876 H locs ef_77876 Y => ?_)
  have p_ad_30_t := p_ad_30_t.up ef_77876 (I.ne (k := 30) (j := t) (k' := 2) (j' := 0) (show t < 8 from by omega) (by decide) (Or.inl (by decide)))
  have p_ad_2_0 := p_ad_2_0.me ef_77876
  have I := I.upS (sp' := spC ((RF 30 t, fz (pp nL) (pp (kN : Int)) (pp ((iT + 1 : Nat) : Int)) (pp (kK iT)) (pp (kP iT)) (pp (kV iT)) (pp i1.toInt) (pp fk) (pp fp), tz (EQ bT) (RW kN kK) (RW kN kP) (RW kN kV), sc) : RS) fc tc w q) (k := 2) (j := 0) (by decide) ef_77876 (okE_o (okFs_c okV_r (okFs_c okV_r (okFs_c okV_r (okFs_c okV_r (okFs_c (okV_p b_77855) (okFs_c (okV_p b_77857) (okFs_c (okV_p b_77859) (okFs_c (okV_p b_77861) (okFs_c (okV_p b_77863) (okFs_c (okV_p b_77865) (okFs_c (okV_p (lim_mk (bn_w b_i1 (by decide) : bn (-2147483648) 2147483647 i1) (rfl : i1.toInt = i1.toInt))) (okFs_c okV_r (okFs_c (okV_p b_77869) (okFs_c (okV_p b_77871) okFs_n))))))))))))))) rsC
  have tr_77877 : ∀ S, Tr kK kV (([((kLaw i1.toInt), 0, false)] : List LI) ++ S) iT (([(kSum, 0, (decide (i1.toInt = 2)))] : List LI) ++ S) iT := TrLaw (Y := []) (show ∀ S, Tr kK kV (([((kLaw i1.toInt), 0, false)] : List LI) ++ S) iT (([((kLaw i1.toInt), 0, false)] : List LI) ++ S) iT from fun _ => Tr_0)
  refine lv_aload_n hx hb dX5_readLaw_13 rfl (lv_at hl 1 rfl) ?_
  refine lv_iconst (v := 0) hx hb dX5_readLaw_14 (by decide) ?_
  refine cVi (As := [.int 0]) (rest := []) S Y (x_X5_readSum (l := l) (t := t) I hW hT hQ ht (bn_w (show bn 0 0 (0 : Int32) from bn_k (by decide)) (by decide)) hN hi hs (by have u1 := tv_77854; have u2 := tv_77856; have u3 := tv_77858; have u4 := tv_77860; have u5 := tv_77862; have u6 := tv_77864; have u7 := tv_77866; have u8 := tv_77868; have u9 := tv_77870; have u10 := tv_77872; have u11 := hi; have u12 := hN.1; have u13 := hN.2.1; have u14 := hl.1; have u15 := hl.2; omega) (show (0 : Int32).toInt = ((0 : Nat) : Int) from rfl) (decide_eq_true_iff)) cw_X5_readSum km5_147 p_ad_2_0 ok_X5.1 rfl rfl ⟨Nat.le_of_ble_eq_true rfl, Nat.le_of_ble_eq_true rfl⟩ hl.1 rfl (Nat.le_of_ble_eq_true rfl) ⟨Nat.le_of_ble_eq_true rfl, Nat.le_of_ble_eq_true rfl⟩ dX5_readLaw_15 (fun r_77880 L_77878 f_77879 H locs hr_77880 Y => ?_)
  obtain ⟨j2_77881, fk2_77882, fp2_77883, sc2_77884, er_77880, I, eR_77885, eS_77886⟩ := hr_77880
  refine lv_if_ne (tgt := 23) hx hb dX5_readLaw_18 (by decide) (fun c_77887 => ?_) (fun c_77887 => ?_)
  · obtain ⟨hr_77891, tg_77888, hj_77889, hl_77890, rfl, rfl⟩ := RDP_t eR_77885 c_77887
    have tr_77892 : ∀ S, Tr kK kV (([((kLaw i1.toInt), 0, false)] : List LI) ++ S) iT (([] : List LI) ++ S) j2_77881 := TrC (Z := ([(kSum, 0, (decide (i1.toInt = 2)))] : List LI)) (Y := ([] : List LI)) tr_77877 tg_77888
    obtain ⟨sl_77893, hs_77894, hq_77895, hq_77896⟩ := eS_77886 hr_77891
    have B_77897 : bn 1 1 r_77880 := bn_w (bn_nel c_77887 er_77880 (show bn 0 0 (0 : Int32) from bn_k (by decide))) (by decide)
    refine lv_aload_n hx hb dX5_readLaw_23 rfl (lv_at hl 1 rfl) ?_
    obtain ⟨v_77900, v_77902, v_77904, v_77906, v_77908, v_77910, v_77912, v_77914, v_77916, p_ad_2_0, b_77901, b_77903, b_77905, b_77907, b_77909, b_77911, b_77913, b_77915, b_77917⟩ := opnC_2r (j := 0) I (by decide)
    have p_ad_2_0 : pt L_77878 f_77879 (ad 2 0) (.inr (5, [.ref (ad 50 0), .ref (ad 51 0), .ref (ad 52 0), .ref (ad 53 0), .int v_77900, .int v_77902, .int v_77904, .int v_77906, .int v_77908, .int v_77910, .int v_77912, .ref (ad 30 t), .int v_77914, .int v_77916])) := p_ad_2_0
    have tv_77900 : v_77900.toInt = nL := lim_eq b_77901
    have tv_77902 : v_77902.toInt = (kN : Int) := lim_eq b_77903
    have tv_77904 : v_77904.toInt = ((j2_77881 + 1 : Nat) : Int) := lim_eq b_77905
    have tv_77906 : v_77906.toInt = (kK j2_77881) := lim_eq b_77907
    have tv_77908 : v_77908.toInt = (kP j2_77881) := lim_eq b_77909
    have tv_77910 : v_77910.toInt = (kV j2_77881) := lim_eq b_77911
    have tv_77912 : v_77912.toInt = i1.toInt := lim_eq b_77913
    have tv_77914 : v_77914.toInt = fk := lim_eq b_77915
    have tv_77916 : v_77916.toInt = fp := lim_eq b_77917
    refine pg_get S Y ok_X5 11 (by decide) kf5_34 (v := .ref (ad 30 t)) p_ad_2_0 rfl dX5_readLaw_24 ?_
    refine lv_iload_n hx hb dX5_readLaw_27 rfl (lv_at hl 2 rfl) ?_
    refine lv_iload_n hx hb dX5_readLaw_28 rfl (lv_at hl 0 rfl) ?_
    refine cVv (As := [.int i1, .int v_77872]) (rest := []) S Y (x_X7_addLaw (l := l) (j := t) I hW hT hQ (show t < 8 from by omega) (bn_w b_i1 (by decide)) hs_77894) cw_X7_addLaw km5_150 (I.opo (k := 30) (j := t) (show t < 8 from by omega) rfl).choose_spec.1 ok_X7.1 rfl rfl ⟨Nat.le_of_ble_eq_true rfl, Nat.le_of_ble_eq_true rfl⟩ hl.1 rfl (Nat.le_of_ble_eq_true rfl) ⟨Nat.le_of_ble_eq_true rfl, Nat.le_of_ble_eq_true rfl⟩ dX5_readLaw_29 (fun L_77918 f_77919 H locs hr_77920 Y => ?_)
    obtain ⟨sc2_77921, I, es_77922⟩ := hr_77920
    refine lv_iconst (v := 1) hx hb dX5_readLaw_32 (by decide) ?_
    exact prI (post := fun r L1 f1 => ∃ j2 : Nat, ∃ fk2 : Int, ∃ fp2 : Int, ∃ sc2 : Nat → SG, bn 0 1 r ∧ SH (spC ((RF 30 t, fz (pp nL) (pp (kN : Int)) (pp ((j2 + 1 : Nat) : Int)) (pp (kK j2)) (pp (kP j2)) (pp (kV j2)) (pp i1.toInt) (pp fk2) (pp fp2), tz (EQ bT) (RW kN kK) (RW kN kP) (RW kN kV), sc2) : RS) fc tc w q) nnC G ad L1 f1 ∧ RDP kK kV kP ([((kLaw i1.toInt), 0, false)] : List LI) iT j2 kN fk fp fk2 fp2 r ∧ (r = 1 → ∃ sl2, sc2 t = (pp sl2, cB, LR (stf aF (i1 : Int32).toNatClampNeg sl), LR (stf aT (i1 : Int32).toNatClampNeg sl2)) ∧ sl < sl2 ∧ sl2 + (iT : Int) ≤ sl + (j2 : Int))) S Y rfl (by decide) (by decide) hA1 ⟨j2_77881, fk, fp, sc2_77921, bn_w (show bn 1 1 (1 : Int32) from bn_k (by decide)) (by decide), I, (Or.inl ⟨rfl, tr_77892, hj_77889, (by have u1 := tv_77854; have u2 := tv_77856; have u3 := tv_77858; have u4 := tv_77860; have u5 := tv_77862; have u6 := tv_77864; have u7 := tv_77866; have u8 := tv_77868; have u9 := tv_77870; have u10 := tv_77872; have u11 := tv_77900; have u12 := tv_77902; have u13 := tv_77904; have u14 := tv_77906; have u15 := tv_77908; have u16 := tv_77910; have u17 := tv_77912; have u18 := tv_77914; have u19 := tv_77916; have u20 := hi; have u21 := hN.1; have u22 := hN.2.1; have u23 := hl.1; have u24 := hl.2; have u25 := hj_77889; have u26 := hl_77890; have u27 := hq_77895; have u28 := hq_77896; omega), rfl, rfl⟩), (fun _ => ⟨sl_77893, (by rw [← tv_77872]; exact es_77922), (by have u1 := tv_77854; have u2 := tv_77856; have u3 := tv_77858; have u4 := tv_77860; have u5 := tv_77862; have u6 := tv_77864; have u7 := tv_77866; have u8 := tv_77868; have u9 := tv_77870; have u10 := tv_77872; have u11 := tv_77900; have u12 := tv_77902; have u13 := tv_77904; have u14 := tv_77906; have u15 := tv_77908; have u16 := tv_77910; have u17 := tv_77912; have u18 := tv_77914; have u19 := tv_77916; have u20 := hi; have u21 := hN.1; have u22 := hN.2.1; have u23 := hl.1; have u24 := hl.2; have u25 := hj_77889; have u26 := hl_77890; have u27 := hq_77895; have u28 := hq_77896; omega), (by have u1 := tv_77854; have u2 := tv_77856; have u3 := tv_77858; have u4 := tv_77860; have u5 := tv_77862; have u6 := tv_77864; have u7 := tv_77866; have u8 := tv_77868; have u9 := tv_77870; have u10 := tv_77872; have u11 := tv_77900; have u12 := tv_77902; have u13 := tv_77904; have u14 := tv_77906; have u15 := tv_77908; have u16 := tv_77910; have u17 := tv_77912; have u18 := tv_77914; have u19 := tv_77916; have u20 := hi; have u21 := hN.1; have u22 := hN.2.1; have u23 := hl.1; have u24 := hl.2; have u25 := hj_77889; have u26 := hl_77890; have u27 := hq_77895; have u28 := hq_77896; omega)⟩)⟩ dX5_readLaw_33
  · have bd_77898 : ∀ S, LL kK kV (([((kLaw i1.toInt), 0, false)] : List LI) ++ S) iT (fk2_77882, j2_77881) := TrB (Z := ([(kSum, 0, (decide (i1.toInt = 2)))] : List LI)) (Y := ([] : List LI)) tr_77877 (RDP_f eR_77885 c_77887).1
    have B_77899 : bn 0 0 r_77880 := bn_w (bn_eq c_77887 (show bn 0 0 (0 : Int32) from bn_k (by decide))) (by decide)
    refine lv_iconst (v := 0) hx hb dX5_readLaw_21 (by decide) ?_
    exact prI (post := fun r L1 f1 => ∃ j2 : Nat, ∃ fk2 : Int, ∃ fp2 : Int, ∃ sc2 : Nat → SG, bn 0 1 r ∧ SH (spC ((RF 30 t, fz (pp nL) (pp (kN : Int)) (pp ((j2 + 1 : Nat) : Int)) (pp (kK j2)) (pp (kP j2)) (pp (kV j2)) (pp i1.toInt) (pp fk2) (pp fp2), tz (EQ bT) (RW kN kK) (RW kN kP) (RW kN kV), sc2) : RS) fc tc w q) nnC G ad L1 f1 ∧ RDP kK kV kP ([((kLaw i1.toInt), 0, false)] : List LI) iT j2 kN fk fp fk2 fp2 r ∧ (r = 1 → ∃ sl2, sc2 t = (pp sl2, cB, LR (stf aF (i1 : Int32).toNatClampNeg sl), LR (stf aT (i1 : Int32).toNatClampNeg sl2)) ∧ sl < sl2 ∧ sl2 + (iT : Int) ≤ sl + (j2 : Int))) S Y rfl (by decide) (by decide) hA1 ⟨j2_77881, fk2_77882, fp2_77883, sc2_77884, bn_w (show bn 0 0 (0 : Int32) from bn_k (by decide)) (by decide), I, (Or.inr ⟨rfl, bd_77898, (RDP_f eR_77885 c_77887).2.1, (RDP_f eR_77885 c_77887).2.2⟩), (fun h => absurd h (by decide))⟩ dX5_readLaw_22
