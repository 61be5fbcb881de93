theorem dX9_get_0 : decode cX9_get 0 = .ok (.iload_n 1, 1) := by decide +kernel
theorem dX9_get_1 : decode cX9_get 1 = .ok (.ifCond .lt 20, 3) := by decide +kernel
theorem dX9_get_21 : decode cX9_get 21 = .ok (.iconst (-1), 1) := by decide +kernel
theorem dX9_get_22 : decode cX9_get 22 = .ok (.ireturn, 1) := by decide +kernel
theorem dX9_get_4 : decode cX9_get 4 = .ok (.iload_n 1, 1) := by decide +kernel
theorem dX9_get_5 : decode cX9_get 5 = .ok (.aload_n 0, 1) := by decide +kernel
theorem dX9_get_6 : decode cX9_get 6 = .ok (.getfield 25, 3) := by decide +kernel
theorem ok_X9 : clOK 9 RX9 TX9 3 tyX9 := ⟨rfl, fun w h => ⟨(show ∀ w ∈ u_ws RX9 TX9 3, w ∈ lw_tbl by decide +kernel) w h, (show ∀ w ∈ u_ws RX9 TX9 3, gw w = true by decide +kernel) w h⟩, tyX9_ok, nmX9⟩
theorem kf9_25 : inW (Cond.fieldLink RX9 25 "KneeOaths$Told" "count" "I") := ⟨List.mem_of_getElem? (i := 220) (by decide +kernel), by decide +kernel⟩
theorem dX9_get_9 : decode cX9_get 9 = .ok (.if_icmp .ge 12, 3) := by decide +kernel
theorem dX9_get_12 : decode cX9_get 12 = .ok (.iload_n 2, 1) := by decide +kernel
theorem dX9_get_13 : decode cX9_get 13 = .ok (.ifCond .lt 8, 3) := by decide +kernel
theorem dX9_get_16 : decode cX9_get 16 = .ok (.iload_n 2, 1) := by decide +kernel
theorem dX9_get_17 : decode cX9_get 17 = .ok (.iconst 3, 1) := by decide +kernel
theorem dX9_get_18 : decode cX9_get 18 = .ok (.if_icmp .lt 5, 3) := by decide +kernel
theorem dX9_get_23 : decode cX9_get 23 = .ok (.aload_n 0, 1) := by decide +kernel
theorem dX9_get_24 : decode cX9_get 24 = .ok (.getfield 9, 3) := by decide +kernel
theorem kf9_9 : inW (Cond.fieldLink RX9 9 "KneeOaths$Told" "cells" "[I") := ⟨List.mem_of_getElem? (i := 218) (by decide +kernel), by decide +kernel⟩
theorem dX9_get_27 : decode cX9_get 27 = .ok (.iload_n 1, 1) := by decide +kernel
theorem dX9_get_28 : decode cX9_get 28 = .ok (.iconst 3, 1) := by decide +kernel
theorem dX9_get_29 : decode cX9_get 29 = .ok (.imul, 1) := by decide +kernel
theorem dX9_get_30 : decode cX9_get 30 = .ok (.iload_n 2, 1) := by decide +kernel
theorem dX9_get_31 : decode cX9_get 31 = .ok (.iadd, 1) := by decide +kernel
theorem dX9_get_32 : decode cX9_get 32 = .ok (.iaload, 1) := by decide +kernel
theorem dX9_get_33 : decode cX9_get 33 = .ok (.ireturn, 1) := by decide +kernel
theorem dX9_forget_0 : decode cX9_forget 0 = .ok (.aload_n 0, 1) := by decide +kernel
theorem dX9_forget_1 : decode cX9_forget 1 = .ok (.iconst 0, 1) := by decide +kernel
theorem dX9_forget_2 : decode cX9_forget 2 = .ok (.putfield 25, 3) := by decide +kernel
theorem dX9_forget_5 : decode cX9_forget 5 = .ok (.iconst 0, 1) := by decide +kernel
theorem dX9_forget_6 : decode cX9_forget 6 = .ok (.ireturn, 1) := by decide +kernel
theorem dX9_tell_0 : decode cX9_tell 0 = .ok (.aload_n 0, 1) := by decide +kernel
theorem dX9_tell_1 : decode cX9_tell 1 = .ok (.getfield 25, 3) := by decide +kernel
theorem dX9_tell_4 : decode cX9_tell 4 = .ok (.aload_n 0, 1) := by decide +kernel
theorem dX9_tell_5 : decode cX9_tell 5 = .ok (.getfield 21, 3) := by decide +kernel
theorem kf9_21 : inW (Cond.fieldLink RX9 21 "KneeOaths$Told" "limit" "I") := ⟨List.mem_of_getElem? (i := 219) (by decide +kernel), by decide +kernel⟩
theorem dX9_tell_8 : decode cX9_tell 8 = .ok (.if_icmp .lt 6, 3) := by decide +kernel
theorem dX9_tell_14 : decode cX9_tell 14 = .ok (.aload_n 0, 1) := by decide +kernel
theorem dX9_tell_15 : decode cX9_tell 15 = .ok (.getfield 25, 3) := by decide +kernel
theorem dX9_tell_18 : decode cX9_tell 18 = .ok (.iconst 3, 1) := by decide +kernel
theorem dX9_tell_19 : decode cX9_tell 19 = .ok (.imul, 1) := by decide +kernel
theorem dX9_tell_20 : decode cX9_tell 20 = .ok (.istore 4, 2) := by decide +kernel
theorem dX9_tell_22 : decode cX9_tell 22 = .ok (.aload_n 0, 1) := by decide +kernel
theorem dX9_tell_23 : decode cX9_tell 23 = .ok (.getfield 9, 3) := by decide +kernel
theorem dX9_tell_26 : decode cX9_tell 26 = .ok (.iload 4, 2) := by decide +kernel
theorem dX9_tell_28 : decode cX9_tell 28 = .ok (.iload_n 1, 1) := by decide +kernel
theorem dX9_tell_29 : decode cX9_tell 29 = .ok (.iastore, 1) := by decide +kernel
theorem dX9_tell_30 : decode cX9_tell 30 = .ok (.aload_n 0, 1) := by decide +kernel
theorem dX9_tell_31 : decode cX9_tell 31 = .ok (.getfield 9, 3) := by decide +kernel
theorem dX9_tell_34 : decode cX9_tell 34 = .ok (.iload 4, 2) := by decide +kernel
theorem dX9_tell_36 : decode cX9_tell 36 = .ok (.iconst 1, 1) := by decide +kernel
theorem dX9_tell_37 : decode cX9_tell 37 = .ok (.iadd, 1) := by decide +kernel
theorem dX9_tell_38 : decode cX9_tell 38 = .ok (.iload_n 2, 1) := by decide +kernel
theorem dX9_tell_39 : decode cX9_tell 39 = .ok (.iastore, 1) := by decide +kernel
theorem dX9_tell_40 : decode cX9_tell 40 = .ok (.aload_n 0, 1) := by decide +kernel
theorem dX9_tell_41 : decode cX9_tell 41 = .ok (.getfield 9, 3) := by decide +kernel
theorem dX9_tell_44 : decode cX9_tell 44 = .ok (.iload 4, 2) := by decide +kernel
theorem dX9_tell_46 : decode cX9_tell 46 = .ok (.iconst 2, 1) := by decide +kernel
theorem dX9_tell_47 : decode cX9_tell 47 = .ok (.iadd, 1) := by decide +kernel
theorem dX9_tell_48 : decode cX9_tell 48 = .ok (.iload_n 3, 1) := by decide +kernel
theorem dX9_tell_49 : decode cX9_tell 49 = .ok (.iastore, 1) := by decide +kernel
theorem dX9_tell_50 : decode cX9_tell 50 = .ok (.aload_n 0, 1) := by decide +kernel
theorem dX9_tell_51 : decode cX9_tell 51 = .ok (.dup, 1) := by decide +kernel
theorem dX9_tell_52 : decode cX9_tell 52 = .ok (.getfield 25, 3) := by decide +kernel
theorem dX9_tell_55 : decode cX9_tell 55 = .ok (.iconst 1, 1) := by decide +kernel
theorem dX9_tell_56 : decode cX9_tell 56 = .ok (.iadd, 1) := by decide +kernel
theorem dX9_tell_57 : decode cX9_tell 57 = .ok (.putfield 25, 3) := by decide +kernel
theorem dX9_tell_60 : decode cX9_tell 60 = .ok (.aload_n 0, 1) := by decide +kernel
theorem dX9_tell_61 : decode cX9_tell 61 = .ok (.getfield 25, 3) := by decide +kernel
theorem dX9_tell_64 : decode cX9_tell 64 = .ok (.ireturn, 1) := by decide +kernel
theorem dX9_tell_11 : decode cX9_tell 11 = .ok (.bipush (-2), 2) := by decide +kernel
theorem dX9_tell_13 : decode cX9_tell 13 = .ok (.ireturn, 1) := by decide +kernel
theorem ti_mul {a b : Int32} (h1 : -2147483648 ≤ a.toInt * b.toInt) (h2 : a.toInt * b.toInt < 2147483648) : (a * b).toInt = a.toInt * b.toInt := by
  rw [Int32.toInt_mul]; exact Int.bmod_eq_of_le (by omega) (by omega)
theorem ti_add {a b : Int32} (h1 : -2147483648 ≤ a.toInt + b.toInt) (h2 : a.toInt + b.toInt < 2147483648) : (a + b).toInt = a.toInt + b.toInt := by
  rw [Int32.toInt_add]; exact Int.bmod_eq_of_le (by omega) (by omega)
theorem vp_of {x : Int32} {n : Nat} (h0 : 0 ≤ x.toInt) (h1 : x.toInt < n) : vp_in x n := by
  unfold vp_in
  intro q
  rcases q with q | q
  · rw [Int32.lt_iff_toInt_lt, show (0 : Int32).toInt = 0 from rfl] at q; omega
  · have e : x.toNatClampNeg = x.toInt.toNat := rfl
    rw [e] at q; omega
theorem ti0 {x : Int32} (h : ¬ x < 0) : 0 ≤ x.toInt := by
  rw [Int32.lt_iff_toInt_lt, show (0 : Int32).toInt = 0 from rfl] at h; omega
theorem ix3 {i j c : Int32} {n m : Nat} (hm : m = 3 * n) (hn : n ≤ 100) (hb : bd c n) (h1 : ¬ i < 0) (h2 : ¬ c ≤ i) (h3 : ¬ j < 0) (h4 : j < 3) : vp_in (i * 3 + j) m := by
  have a := ti0 h1; have b := ti0 h3
  rw [Int32.le_iff_toInt_le] at h2
  rw [Int32.lt_iff_toInt_lt, show (3 : Int32).toInt = 3 from rfl] at h4
  obtain ⟨b1, b2⟩ := hb
  have e : (i * 3).toInt = i.toInt * 3 := ti_mul (by rw [show (3 : Int32).toInt = 3 from rfl]; omega) (by rw [show (3 : Int32).toInt = 3 from rfl]; omega)
  have e2 : (i * 3 + j).toInt = i.toInt * 3 + j.toInt := by rw [ti_add (by rw [e]; omega) (by rw [e]; omega), e]
  exact vp_of (by rw [e2]; omega) (by rw [e2]; omega)
theorem ixk {c l k : Int32} {n m t : Nat} (hm : m = 3 * n) (hn : n ≤ 100) (hl : bd l n) (hc : 0 ≤ c.toInt) (h : c < l) (hk : k.toInt = t) (ht : t < 3) : vp_in (c * 3 + k) m := by
  rw [Int32.lt_iff_toInt_lt] at h
  obtain ⟨b1, b2⟩ := hl
  have e : (c * 3).toInt = c.toInt * 3 := ti_mul (by rw [show (3 : Int32).toInt = 3 from rfl]; omega) (by rw [show (3 : Int32).toInt = 3 from rfl]; omega)
  have e2 : (c * 3 + k).toInt = c.toInt * 3 + k.toInt := by rw [ti_add (by rw [e]; omega) (by rw [e]; omega), e]
  exact vp_of (by rw [e2]; omega) (by rw [e2]; omega)
theorem ixk0 {c l : Int32} {n m : Nat} (hm : m = 3 * n) (hn : n ≤ 100) (hl : bd l n) (hc : 0 ≤ c.toInt) (h : c < l) : vp_in (c * 3) m := by
  have e : c * 3 = c * 3 + 0 := (Int32.add_zero _).symm
  rw [e]; exact ixk (t := 0) hm hn hl hc h rfl (by decide)
theorem bd_up {c l : Int32} {n : Nat} (hn : n ≤ 1000000) (hl : bd l n) (hc : 0 ≤ c.toInt) (h : c < l) : bd (c + 1) n := by
  rw [Int32.lt_iff_toInt_lt] at h
  obtain ⟨b1, b2⟩ := hl
  have e : (c + 1).toInt = c.toInt + 1 := ti_add (by rw [show (1 : Int32).toInt = 1 from rfl]; omega) (by rw [show (1 : Int32).toInt = 1 from rfl]; omega)
  exact ⟨by rw [e]; omega, by rw [e]; omega⟩
set_option maxHeartbeats 4000000 in
set_option maxRecDepth 100000 in
theorem c_X9_get {l : Launch} {G : GG} {L : List Nat} {f : HF} {h cx : Nat} {i j li ct : Int32} {g : Nat → Int32}  (p_h : pt L f h (.inr (9, [.ref cx, .int li, .int ct]))) (p_cx : pt L f cx (.inl (G.2 0, 24, .inl g))) (qb : bd ct 8) : PMp l yX9_get cX9_get 3 .int 0 0 0 G [.ref h, .int i, .int j] L f (fun r => True) := by
  refine PMi.of (post := fun r L1 f1 => (True) ∧ L1 = L ∧ f1 = f) (own := RX9) (by decide) rfl (Nat.le_of_ble_eq_true rfl) (fun sz p e s m args below meth c A ls hA1 hname S Y hl => ?_)
  have hx := S.hx
  have hb := S.hb
  have hl : lv_has ls 3 [(0, .ref h), (1, .int i), (2, .int j)] := hl
  refine lv_iload_n hx hb dX9_get_0 rfl (lv_at hl 1 rfl) ?_
  refine lv_if_lt (tgt := 21) hx hb dX9_get_1 (by decide) (fun c_1 => ?_) (fun c_1 => ?_)
  · refine lv_iconst (v := (-1)) hx hb dX9_get_21 (by decide) ?_
    exact prI (post := fun r L1 f1 => (True) ∧ L1 = L ∧ f1 = f) S Y rfl (by decide) (by decide) hA1 ⟨trivial, rfl, rfl⟩ dX9_get_22
  · refine lv_iload_n hx hb dX9_get_4 rfl (lv_at hl 1 rfl) ?_
    refine lv_aload_n hx hb dX9_get_5 rfl (lv_at hl 0 rfl) ?_
    refine pg_get S Y ok_X9 2 (by decide) kf9_25 (v := .int ct) p_h rfl dX9_get_6 ?_
    refine lv_icmp_ge (tgt := 21) hx hb dX9_get_9 (by decide) (fun c_2 => ?_) (fun c_2 => ?_)
    · refine lv_iconst (v := (-1)) hx hb dX9_get_21 (by decide) ?_
      exact prI (post := fun r L1 f1 => (True) ∧ L1 = L ∧ f1 = f) S Y rfl (by decide) (by decide) hA1 ⟨trivial, rfl, rfl⟩ dX9_get_22
    · refine lv_iload_n hx hb dX9_get_12 rfl (lv_at hl 2 rfl) ?_
      refine lv_if_lt (tgt := 21) hx hb dX9_get_13 (by decide) (fun c_3 => ?_) (fun c_3 => ?_)
      · refine lv_iconst (v := (-1)) hx hb dX9_get_21 (by decide) ?_
        exact prI (post := fun r L1 f1 => (True) ∧ L1 = L ∧ f1 = f) S Y rfl (by decide) (by decide) hA1 ⟨trivial, rfl, rfl⟩ dX9_get_22
      · refine lv_iload_n hx hb dX9_get_16 rfl (lv_at hl 2 rfl) ?_
        refine lv_iconst (v := 3) hx hb dX9_get_17 (by decide) ?_
        refine lv_icmp_lt (tgt := 23) hx hb dX9_get_18 (by decide) (fun c_4 => ?_) (fun c_4 => ?_)
        · refine lv_aload_n hx hb dX9_get_23 rfl (lv_at hl 0 rfl) ?_
          refine pg_get S Y ok_X9 0 (by decide) kf9_9 (v := .ref cx) p_h rfl dX9_get_24 ?_
          refine lv_iload_n hx hb dX9_get_27 rfl (lv_at hl 1 rfl) ?_
          refine lv_iconst (v := 3) hx hb dX9_get_28 (by decide) ?_
          refine lv_imul hx hb dX9_get_29 ?_
          refine lv_topi (fun x_5 ex_5 => ?_)
          refine lv_iload_n hx hb dX9_get_30 rfl (lv_at hl 2 rfl) ?_
          refine lv_iadd hx hb dX9_get_31 ?_
          refine lv_topi (fun x_6 ex_6 => ?_)
          refine pg_iald S Y (v := (g (x_6 : Int32).toNatClampNeg)) p_cx (by rw [ex_6, ex_5]; exact ix3 (c := ct) (n := 8) rfl (by decide) qb c_1 c_2 c_3 c_4) rfl dX9_get_32 ?_
          exact prI (post := fun r L1 f1 => (True) ∧ L1 = L ∧ f1 = f) S Y rfl (by decide) (by decide) hA1 ⟨trivial, rfl, rfl⟩ dX9_get_33
        · refine lv_iconst (v := (-1)) hx hb dX9_get_21 (by decide) ?_
          exact prI (post := fun r L1 f1 => (True) ∧ L1 = L ∧ f1 = f) S Y rfl (by decide) (by decide) hA1 ⟨trivial, rfl, rfl⟩ dX9_get_22
set_option maxHeartbeats 4000000 in
set_option maxRecDepth 100000 in
theorem c_X9_forget {l : Launch} {G : GG} {L : List Nat} {f : HF} {h cx : Nat} {li ct : Int32}  (p_h : pt L f h (.inr (9, [.ref cx, .int li, .int ct])))  : PMi l yX9_forget cX9_forget 1 .int 0 0 0 G [.ref h] L f (fun r L1 f1 => r = 0 ∧ kp L f L1 f1 [h] ∧ pt L1 f1 h (.inr (9, [.ref cx, .int li, .int 0]))) := by
  refine PMi.of (post := fun r L1 f1 => r = 0 ∧ kp L f L1 f1 [h] ∧ pt L1 f1 h (.inr (9, [.ref cx, .int li, .int 0]))) (own := RX9) (by decide) rfl (Nat.le_of_ble_eq_true rfl) (fun sz p e s m args below meth c A ls hA1 hname S Y hl => ?_)
  have hx := S.hx
  have hb := S.hb
  have hl : lv_has ls 1 [(0, .ref h)] := hl
  have hk : kp L f L f [h] := kp.rf
  refine lv_aload_n hx hb dX9_forget_0 rfl (lv_at hl 0 rfl) ?_
  refine lv_iconst (v := 0) hx hb dX9_forget_1 (by decide) ?_
  refine pg_put S Y ok_X9 2 (by decide) kf9_25 rfl (fs' := [.ref cx, .int li, .int 0]) (v := .int 0) p_h rfl rfl rfl (Nat.le_of_ble_eq_true rfl) dX9_forget_2 (fun f_7 H locs ef_7 Y => ?_)
  have p_h := p_h.me ef_7
  have hk := hk.up ef_7 (by simp)
  refine lv_iconst (v := 0) hx hb dX9_forget_5 (by decide) ?_
  exact prI (post := fun r L1 f1 => r = 0 ∧ kp L f L1 f1 [h] ∧ pt L1 f1 h (.inr (9, [.ref cx, .int li, .int 0]))) S Y rfl (by decide) (by decide) hA1 ⟨rfl, hk, p_h⟩ dX9_forget_6
set_option maxHeartbeats 4000000 in
set_option maxRecDepth 100000 in
theorem c_X9_tell {l : Launch} {G : GG} {L : List Nat} {f : HF} {h cx : Nat} {i j k li ct : Int32} {g : Nat → Int32}  (p_h : pt L f h (.inr (9, [.ref cx, .int li, .int ct]))) (p_cx : pt L f cx (.inl (G.2 0, 24, .inl g))) (ql : bd li 8) (qb : bd ct 8) : PMi l yX9_tell cX9_tell 5 .int 0 0 0 G [.ref h, .int i, .int j, .int k] L f (fun r L1 f1 => r = (if ct < li then ct + 1 else -2) ∧ ∃ g2 : Nat → Int32, kp L f L1 f1 [h, cx] ∧ pt L1 f1 h (.inr (9, [.ref cx, .int li, .int (if ct < li then ct + 1 else ct)])) ∧ pt L1 f1 cx (.inl (G.2 0, 24, .inl g2))) := by
  refine PMi.of (post := fun r L1 f1 => r = (if ct < li then ct + 1 else -2) ∧ ∃ g2 : Nat → Int32, kp L f L1 f1 [h, cx] ∧ pt L1 f1 h (.inr (9, [.ref cx, .int li, .int (if ct < li then ct + 1 else ct)])) ∧ pt L1 f1 cx (.inl (G.2 0, 24, .inl g2))) (own := RX9) (by decide) rfl (Nat.le_of_ble_eq_true rfl) (fun sz p e s m args below meth c A ls hA1 hname S Y hl => ?_)
  have hx := S.hx
  have hb := S.hb
  have hl : lv_has ls 5 [(0, .ref h), (1, .int i), (2, .int j), (3, .int k)] := hl
  have hk : kp L f L f [h, cx] := kp.rf
  refine lv_aload_n hx hb dX9_tell_0 rfl (lv_at hl 0 rfl) ?_
  refine pg_get S Y ok_X9 2 (by decide) kf9_25 (v := .int ct) p_h rfl dX9_tell_1 ?_
  refine lv_aload_n hx hb dX9_tell_4 rfl (lv_at hl 0 rfl) ?_
  refine pg_get S Y ok_X9 1 (by decide) kf9_21 (v := .int li) p_h rfl dX9_tell_5 ?_
  refine lv_icmp_lt (tgt := 14) hx hb dX9_tell_8 (by decide) (fun c_8 => ?_) (fun c_8 => ?_)
  · refine lv_aload_n hx hb dX9_tell_14 rfl (lv_at hl 0 rfl) ?_
    refine pg_get S Y ok_X9 2 (by decide) kf9_25 (v := .int ct) p_h rfl dX9_tell_15 ?_
    refine lv_iconst (v := 3) hx hb dX9_tell_18 (by decide) ?_
    refine lv_imul hx hb dX9_tell_19 ?_
    refine lv_topi (fun x_9 ex_9 => ?_)
    refine lv_istore (lv' := [(4, .int x_9), (0, .ref h), (1, .int i), (2, .int j), (3, .int k)]) hx hb dX9_tell_20 hl (by decide) rfl (fun ls hl => ?_)
    refine lv_aload_n hx hb dX9_tell_22 rfl (lv_at hl 1 rfl) ?_
    refine pg_get S Y ok_X9 0 (by decide) kf9_9 (v := .ref cx) p_h rfl dX9_tell_23 ?_
    refine lv_iload hx hb dX9_tell_26 (lv_at hl 0 rfl) ?_
    refine lv_iload_n hx hb dX9_tell_28 rfl (lv_at hl 2 rfl) ?_
    refine pg_iast S Y p_cx (by rw [ex_9]; exact ixk0 (l := li) (n := 8) rfl (by decide) ql qb.1 c_8) dX9_tell_29 (fun f_11 H locs ef_11 Y => ?_)
    obtain ⟨g_10, eg_10⟩ : ∃ z, z = upd (g) (x_9 : Int32).toNatClampNeg i := ⟨_, rfl⟩
    rw [← eg_10] at ef_11
    have p_h := p_h.up ef_11 ((p_h.neA p_cx))
    have p_cx := p_cx.me ef_11
    have hk := hk.up ef_11 (by simp)
    refine lv_aload_n hx hb dX9_tell_30 rfl (lv_at hl 1 rfl) ?_
    refine pg_get S Y ok_X9 0 (by decide) kf9_9 (v := .ref cx) p_h rfl dX9_tell_31 ?_
    refine lv_iload hx hb dX9_tell_34 (lv_at hl 0 rfl) ?_
    refine lv_iconst (v := 1) hx hb dX9_tell_36 (by decide) ?_
    refine lv_iadd hx hb dX9_tell_37 ?_
    refine lv_topi (fun x_12 ex_12 => ?_)
    refine lv_iload_n hx hb dX9_tell_38 rfl (lv_at hl 3 rfl) ?_
    refine pg_iast S Y p_cx (by rw [ex_12, ex_9]; exact ixk (l := li) (n := 8) (t := 1) rfl (by decide) ql qb.1 c_8 rfl (by decide)) dX9_tell_39 (fun f_14 H locs ef_14 Y => ?_)
    obtain ⟨g_13, eg_13⟩ : ∃ z, z = upd (g_10) (x_12 : Int32).toNatClampNeg j := ⟨_, rfl⟩
    rw [← eg_13] at ef_14
    have p_h := p_h.up ef_14 ((p_h.neA p_cx))
    have p_cx := p_cx.me ef_14
    have hk := hk.up ef_14 (by simp)
    refine lv_aload_n hx hb dX9_tell_40 rfl (lv_at hl 1 rfl) ?_
    refine pg_get S Y ok_X9 0 (by decide) kf9_9 (v := .ref cx) p_h rfl dX9_tell_41 ?_
    refine lv_iload hx hb dX9_tell_44 (lv_at hl 0 rfl) ?_
    refine lv_iconst (v := 2) hx hb dX9_tell_46 (by decide) ?_
    refine lv_iadd hx hb dX9_tell_47 ?_
    refine lv_topi (fun x_15 ex_15 => ?_)
    refine lv_iload_n hx hb dX9_tell_48 rfl (lv_at hl 4 rfl) ?_
    refine pg_iast S Y p_cx (by rw [ex_15, ex_9]; exact ixk (l := li) (n := 8) (t := 2) rfl (by decide) ql qb.1 c_8 rfl (by decide)) dX9_tell_49 (fun f_17 H locs ef_17 Y => ?_)
    obtain ⟨g_16, eg_16⟩ : ∃ z, z = upd (g_13) (x_15 : Int32).toNatClampNeg k := ⟨_, rfl⟩
    rw [← eg_16] at ef_17
    have p_h := p_h.up ef_17 ((p_h.neA p_cx))
    have p_cx := p_cx.me ef_17
    have hk := hk.up ef_17 (by simp)
    refine lv_aload_n hx hb dX9_tell_50 rfl (lv_at hl 1 rfl) ?_
    refine lv_dup hx hb dX9_tell_51 rfl ?_
    refine pg_get S Y ok_X9 2 (by decide) kf9_25 (v := .int ct) p_h rfl dX9_tell_52 ?_
    refine lv_iconst (v := 1) hx hb dX9_tell_55 (by decide) ?_
    refine lv_iadd hx hb dX9_tell_56 ?_
    refine lv_topi (fun x_18 ex_18 => ?_)
    refine pg_put S Y ok_X9 2 (by decide) kf9_25 rfl (fs' := [.ref cx, .int li, .int x_18]) (v := .int x_18) p_h rfl rfl rfl (Nat.le_of_ble_eq_true rfl) dX9_tell_57 (fun f_19 H locs ef_19 Y => ?_)
    have p_cx := p_cx.up ef_19 ((p_cx.neB p_h))
    have p_h := p_h.me ef_19
    have hk := hk.up ef_19 (by simp)
    refine lv_aload_n hx hb dX9_tell_60 rfl (lv_at hl 1 rfl) ?_
    refine pg_get S Y ok_X9 2 (by decide) kf9_25 (v := .int x_18) p_h rfl dX9_tell_61 ?_
    exact prI (post := fun r L1 f1 => r = (if ct < li then ct + 1 else -2) ∧ ∃ g2 : Nat → Int32, kp L f L1 f1 [h, cx] ∧ pt L1 f1 h (.inr (9, [.ref cx, .int li, .int (if ct < li then ct + 1 else ct)])) ∧ pt L1 f1 cx (.inl (G.2 0, 24, .inl g2))) S Y rfl (by decide) (by decide) hA1 ⟨by rw [if_pos c_8]; exact ex_18, g_16, hk, by rw [if_pos c_8, ← ex_18]; exact p_h, p_cx⟩ dX9_tell_64
  · refine lv_bipush (v := (-2)) hx hb dX9_tell_11 (by decide) ?_
    exact prI (post := fun r L1 f1 => r = (if ct < li then ct + 1 else -2) ∧ ∃ g2 : Nat → Int32, kp L f L1 f1 [h, cx] ∧ pt L1 f1 h (.inr (9, [.ref cx, .int li, .int (if ct < li then ct + 1 else ct)])) ∧ pt L1 f1 cx (.inl (G.2 0, 24, .inl g2))) S Y rfl (by decide) (by decide) hA1 ⟨by rw [if_neg c_8], g, hk, by rw [if_neg c_8]; exact p_h, p_cx⟩ dX9_tell_13
