set_option maxRecDepth 100000 in
theorem ob_X11 {G : GG} {L L1 : List Nat} {f f1 : HF} {h : Nat} {P : Prop} (hp : ∃ w : Nat, ∃ ta : Nat, ∃ ag : Nat, ∃ sc : Nat, ∃ nw : Nat, ∃ pa : Nat, ∃ fe : Nat, ∃ cl : Nat, ∃ wo : Nat, ∃ si : Nat, ∃ we : Nat, ∃ oa : Nat, ∃ aa : Nat, ∃ c1 : Nat, ∃ c2 : Nat, ∃ c3 : Nat, ∃ c4 : Nat, ∃ c5 : Nat, ∃ s0 : Nat, ∃ dg : Nat, ∃ nu : Nat, ∃ lf : Nat, ∃ lt : Nat, ∃ cs : Nat, ∃ sf : Nat → Option Nat, ∃ pf : Nat → Option Nat, ∃ k : Nat, ∃ k_ta : Nat, ∃ k_ag : Nat, ∃ k_sc : Nat, ∃ k_nw : Nat, ∃ k_pa : Nat, ∃ k_fe : Nat, ∃ k_cl : Nat, ∃ k_wo : Nat, ∃ k_si : Nat, ∃ k_we : Nat, ∃ k_oa : Nat, ∃ k_aa : Nat, ∃ k_c1 : Nat, ∃ k_c2 : Nat, ∃ k_c3 : Nat, ∃ k_c4 : Nat, ∃ k_c5 : Nat, ∃ k_s0 : Nat, ∃ k_dg : Nat, ∃ k_nu : Nat, ∃ k_lf : Nat, ∃ k_lt : Nat, ∃ k_cs : Nat, ∃ k_sf : Nat → Option Nat, ∃ k_pf : Nat → Option Nat, ∃ sl : Nat, ∃ slo : Nat, ∃ sla : Nat, ∃ rd : Nat, ∃ tp : Nat, ∃ ki : Nat, ∃ pl : Nat, ∃ va : Nat, ∃ jd : Nat, ∃ jst : Nat, ∃ rg : Nat, ∃ dd : Nat, ∃ mo : Nat, ∃ fo : Nat, ∃ su : Nat, ∃ ch : Nat, ∃ pr : Nat, ∃ kn : Nat, ∃ LT : List Nat, kp L f L1 f1 [h] ∧ pt L1 f1 h (.inr (11, [.ref w, .ref k, .ref rd, .ref jd, .ref rg, .ref dd, .ref fo, .ref su, .ref ch])) ∧ pt L1 f1 w (.inr (10, [.ref ta, .ref ag, .ref sc, .ref nw, .ref pa, .ref fe, .ref cl, .ref wo, .ref si, .ref we, .int 0, .int 0, .int (-1), .int 0, .int 0])) ∧ pt L1 f1 ta (.inl (G.2 0, 6, .inl (fun _ => 0))) ∧ pt L1 f1 ag (.inl (G.2 0, 6, .inl (fun _ => 0))) ∧ pt L1 f1 sc (.inl (G.2 4, 4, .inr (.inr (.inr (.inr sf))))) ∧ pt L1 f1 nw (.inr (4, [.ref oa, .ref aa, .int 0, .int 0, .int 0, .int 0, .int 137])) ∧ pt L1 f1 oa (.inl (G.2 0, 98, .inl (fun _ => 0))) ∧ pt L1 f1 aa (.inl (G.2 0, 90, .inl (fun _ => 0))) ∧ pt L1 f1 pa (.inl (G.2 3, 30, .inr (.inr (.inr (.inr pf))))) ∧ pt L1 f1 fe (.inr (9, [.ref c1, .int 6, .int 0])) ∧ pt L1 f1 cl (.inr (9, [.ref c2, .int 8, .int 0])) ∧ pt L1 f1 wo (.inr (9, [.ref c3, .int 8, .int 0])) ∧ pt L1 f1 si (.inr (9, [.ref c4, .int 8, .int 0])) ∧ pt L1 f1 we (.inr (9, [.ref c5, .int 8, .int 0])) ∧ pt L1 f1 c1 (.inl (G.2 0, 24, .inl (fun _ => 0))) ∧ pt L1 f1 c2 (.inl (G.2 0, 24, .inl (fun _ => 0))) ∧ pt L1 f1 c3 (.inl (G.2 0, 24, .inl (fun _ => 0))) ∧ pt L1 f1 c4 (.inl (G.2 0, 24, .inl (fun _ => 0))) ∧ pt L1 f1 c5 (.inl (G.2 0, 24, .inl (fun _ => 0))) ∧ pt L1 f1 s0 (.inr (7, [.ref dg, .ref nu, .ref lf, .ref lt, .ref cs, .int 0, .int 0])) ∧ pt L1 f1 lf (.inl (G.2 0, 3, .inl (fun _ => 0))) ∧ pt L1 f1 lt (.inl (G.2 0, 3, .inl (fun _ => 0))) ∧ pt L1 f1 k (.inr (10, [.ref k_ta, .ref k_ag, .ref k_sc, .ref k_nw, .ref k_pa, .ref k_fe, .ref k_cl, .ref k_wo, .ref k_si, .ref k_we, .int 0, .int 0, .int (-1), .int 0, .int 0])) ∧ pt L1 f1 k_ta (.inl (G.2 0, 6, .inl (fun _ => 0))) ∧ pt L1 f1 k_ag (.inl (G.2 0, 6, .inl (fun _ => 0))) ∧ pt L1 f1 k_sc (.inl (G.2 4, 4, .inr (.inr (.inr (.inr k_sf))))) ∧ pt L1 f1 k_nw (.inr (4, [.ref k_oa, .ref k_aa, .int 0, .int 0, .int 0, .int 0, .int 137])) ∧ pt L1 f1 k_oa (.inl (G.2 0, 98, .inl (fun _ => 0))) ∧ pt L1 f1 k_aa (.inl (G.2 0, 90, .inl (fun _ => 0))) ∧ pt L1 f1 k_pa (.inl (G.2 3, 30, .inr (.inr (.inr (.inr k_pf))))) ∧ pt L1 f1 k_fe (.inr (9, [.ref k_c1, .int 6, .int 0])) ∧ pt L1 f1 k_cl (.inr (9, [.ref k_c2, .int 8, .int 0])) ∧ pt L1 f1 k_wo (.inr (9, [.ref k_c3, .int 8, .int 0])) ∧ pt L1 f1 k_si (.inr (9, [.ref k_c4, .int 8, .int 0])) ∧ pt L1 f1 k_we (.inr (9, [.ref k_c5, .int 8, .int 0])) ∧ pt L1 f1 k_c1 (.inl (G.2 0, 24, .inl (fun _ => 0))) ∧ pt L1 f1 k_c2 (.inl (G.2 0, 24, .inl (fun _ => 0))) ∧ pt L1 f1 k_c3 (.inl (G.2 0, 24, .inl (fun _ => 0))) ∧ pt L1 f1 k_c4 (.inl (G.2 0, 24, .inl (fun _ => 0))) ∧ pt L1 f1 k_c5 (.inl (G.2 0, 24, .inl (fun _ => 0))) ∧ pt L1 f1 k_s0 (.inr (7, [.ref k_dg, .ref k_nu, .ref k_lf, .ref k_lt, .ref k_cs, .int 0, .int 0])) ∧ pt L1 f1 k_lf (.inl (G.2 0, 3, .inl (fun _ => 0))) ∧ pt L1 f1 k_lt (.inl (G.2 0, 3, .inl (fun _ => 0))) ∧ pt L1 f1 sl (.inr (4, [.ref slo, .ref sla, .int 0, .int 0, .int 0, .int 0, .int 137])) ∧ pt L1 f1 slo (.inl (G.2 0, 98, .inl (fun _ => 0))) ∧ pt L1 f1 sla (.inl (G.2 0, 90, .inl (fun _ => 0))) ∧ pt L1 f1 rd (.inr (5, [.ref tp, .ref ki, .ref pl, .ref va, .int 0, .int 0, .int 0, .int 0, .int 0, .int 0, .int 0, .null, .int (-1), .int (-1)])) ∧ pt L1 f1 tp (.inl (G.2 0, 300, .inl (fun _ => 0))) ∧ pt L1 f1 ki (.inl (G.2 0, 301, .inl (fun _ => 0))) ∧ pt L1 f1 pl (.inl (G.2 0, 301, .inl (fun _ => 0))) ∧ pt L1 f1 va (.inl (G.2 0, 301, .inl (fun _ => 0))) ∧ pt L1 f1 jd (.inr (3, [.ref w, .ref jst, .int 0])) ∧ pt L1 f1 rg (.inr (6, [.ref w, .int 0])) ∧ pt L1 f1 dd (.inr (1, [.ref w, .ref jd, .ref rg, .ref mo, .int 0])) ∧ pt L1 f1 fo (.inr (2, [.ref w, .ref jd, .ref dd, .ref sl])) ∧ pt L1 f1 ch (.inr (0, [.ref w, .ref pr, .ref kn])) ∧ ta ≠ ag ∧ lf ≠ lt ∧ sf 0 = some s0 ∧ pastOK G L nw L1 f1 pf 30 ∧ pastOK G LT k_nw L1 f1 k_pf 30 ∧ ki ≠ pl ∧ ki ≠ va ∧ pl ≠ va ∧ sl ≠ nw ∧ (∀ j, j < 30 → ∀ o, pf j = some o → o ∈ LT) ∧ nw ∈ LT ∧ k_nw ∉ LT ∧ w ≠ k) (k9 : ∀ (w : Nat) (ta : Nat) (ag : Nat) (sc : Nat) (nw : Nat) (pa : Nat) (fe : Nat) (cl : Nat) (wo : Nat) (si : Nat) (we : Nat) (oa : Nat) (aa : Nat) (c1 : Nat) (c2 : Nat) (c3 : Nat) (c4 : Nat) (c5 : Nat) (s0 : Nat) (dg : Nat) (nu : Nat) (lf : Nat) (lt : Nat) (cs : Nat) (sf : Nat → Option Nat) (pf : Nat → Option Nat) (k : Nat) (k_ta : Nat) (k_ag : Nat) (k_sc : Nat) (k_nw : Nat) (k_pa : Nat) (k_fe : Nat) (k_cl : Nat) (k_wo : Nat) (k_si : Nat) (k_we : Nat) (k_oa : Nat) (k_aa : Nat) (k_c1 : Nat) (k_c2 : Nat) (k_c3 : Nat) (k_c4 : Nat) (k_c5 : Nat) (k_s0 : Nat) (k_dg : Nat) (k_nu : Nat) (k_lf : Nat) (k_lt : Nat) (k_cs : Nat) (k_sf : Nat → Option Nat) (k_pf : Nat → Option Nat) (sl : Nat) (slo : Nat) (sla : Nat) (rd : Nat) (tp : Nat) (ki : Nat) (pl : Nat) (va : Nat) (jd : Nat) (jst : Nat) (rg : Nat) (dd : Nat) (mo : Nat) (fo : Nat) (su : Nat) (ch : Nat) (pr : Nat) (kn : Nat) (LT : List Nat) , (kp L f L1 f1 [h]) → (pt L1 f1 h (.inr (11, [.ref w, .ref k, .ref rd, .ref jd, .ref rg, .ref dd, .ref fo, .ref su, .ref ch]))) → (pt L1 f1 w (.inr (10, [.ref ta, .ref ag, .ref sc, .ref nw, .ref pa, .ref fe, .ref cl, .ref wo, .ref si, .ref we, .int 0, .int 0, .int (-1), .int 0, .int 0]))) → (pt L1 f1 ta (.inl (G.2 0, 6, .inl (fun _ => 0)))) → (pt L1 f1 ag (.inl (G.2 0, 6, .inl (fun _ => 0)))) → (pt L1 f1 sc (.inl (G.2 4, 4, .inr (.inr (.inr (.inr sf)))))) → (pt L1 f1 nw (.inr (4, [.ref oa, .ref aa, .int 0, .int 0, .int 0, .int 0, .int 137]))) → (pt L1 f1 oa (.inl (G.2 0, 98, .inl (fun _ => 0)))) → (pt L1 f1 aa (.inl (G.2 0, 90, .inl (fun _ => 0)))) → (pt L1 f1 pa (.inl (G.2 3, 30, .inr (.inr (.inr (.inr pf)))))) → (pt L1 f1 fe (.inr (9, [.ref c1, .int 6, .int 0]))) → (pt L1 f1 cl (.inr (9, [.ref c2, .int 8, .int 0]))) → (pt L1 f1 wo (.inr (9, [.ref c3, .int 8, .int 0]))) → (pt L1 f1 si (.inr (9, [.ref c4, .int 8, .int 0]))) → (pt L1 f1 we (.inr (9, [.ref c5, .int 8, .int 0]))) → (pt L1 f1 c1 (.inl (G.2 0, 24, .inl (fun _ => 0)))) → (pt L1 f1 c2 (.inl (G.2 0, 24, .inl (fun _ => 0)))) → (pt L1 f1 c3 (.inl (G.2 0, 24, .inl (fun _ => 0)))) → (pt L1 f1 c4 (.inl (G.2 0, 24, .inl (fun _ => 0)))) → (pt L1 f1 c5 (.inl (G.2 0, 24, .inl (fun _ => 0)))) → (pt L1 f1 s0 (.inr (7, [.ref dg, .ref nu, .ref lf, .ref lt, .ref cs, .int 0, .int 0]))) → (pt L1 f1 lf (.inl (G.2 0, 3, .inl (fun _ => 0)))) → (pt L1 f1 lt (.inl (G.2 0, 3, .inl (fun _ => 0)))) → (pt L1 f1 k (.inr (10, [.ref k_ta, .ref k_ag, .ref k_sc, .ref k_nw, .ref k_pa, .ref k_fe, .ref k_cl, .ref k_wo, .ref k_si, .ref k_we, .int 0, .int 0, .int (-1), .int 0, .int 0]))) → (pt L1 f1 k_ta (.inl (G.2 0, 6, .inl (fun _ => 0)))) → (pt L1 f1 k_ag (.inl (G.2 0, 6, .inl (fun _ => 0)))) → (pt L1 f1 k_sc (.inl (G.2 4, 4, .inr (.inr (.inr (.inr k_sf)))))) → (pt L1 f1 k_nw (.inr (4, [.ref k_oa, .ref k_aa, .int 0, .int 0, .int 0, .int 0, .int 137]))) → (pt L1 f1 k_oa (.inl (G.2 0, 98, .inl (fun _ => 0)))) → (pt L1 f1 k_aa (.inl (G.2 0, 90, .inl (fun _ => 0)))) → (pt L1 f1 k_pa (.inl (G.2 3, 30, .inr (.inr (.inr (.inr k_pf)))))) → (pt L1 f1 k_fe (.inr (9, [.ref k_c1, .int 6, .int 0]))) → (pt L1 f1 k_cl (.inr (9, [.ref k_c2, .int 8, .int 0]))) → (pt L1 f1 k_wo (.inr (9, [.ref k_c3, .int 8, .int 0]))) → (pt L1 f1 k_si (.inr (9, [.ref k_c4, .int 8, .int 0]))) → (pt L1 f1 k_we (.inr (9, [.ref k_c5, .int 8, .int 0]))) → (pt L1 f1 k_c1 (.inl (G.2 0, 24, .inl (fun _ => 0)))) → (pt L1 f1 k_c2 (.inl (G.2 0, 24, .inl (fun _ => 0)))) → (pt L1 f1 k_c3 (.inl (G.2 0, 24, .inl (fun _ => 0)))) → (pt L1 f1 k_c4 (.inl (G.2 0, 24, .inl (fun _ => 0)))) → (pt L1 f1 k_c5 (.inl (G.2 0, 24, .inl (fun _ => 0)))) → (pt L1 f1 k_s0 (.inr (7, [.ref k_dg, .ref k_nu, .ref k_lf, .ref k_lt, .ref k_cs, .int 0, .int 0]))) → (pt L1 f1 k_lf (.inl (G.2 0, 3, .inl (fun _ => 0)))) → (pt L1 f1 k_lt (.inl (G.2 0, 3, .inl (fun _ => 0)))) → (pt L1 f1 sl (.inr (4, [.ref slo, .ref sla, .int 0, .int 0, .int 0, .int 0, .int 137]))) → (pt L1 f1 slo (.inl (G.2 0, 98, .inl (fun _ => 0)))) → (pt L1 f1 sla (.inl (G.2 0, 90, .inl (fun _ => 0)))) → (pt L1 f1 rd (.inr (5, [.ref tp, .ref ki, .ref pl, .ref va, .int 0, .int 0, .int 0, .int 0, .int 0, .int 0, .int 0, .null, .int (-1), .int (-1)]))) → (pt L1 f1 tp (.inl (G.2 0, 300, .inl (fun _ => 0)))) → (pt L1 f1 ki (.inl (G.2 0, 301, .inl (fun _ => 0)))) → (pt L1 f1 pl (.inl (G.2 0, 301, .inl (fun _ => 0)))) → (pt L1 f1 va (.inl (G.2 0, 301, .inl (fun _ => 0)))) → (pt L1 f1 jd (.inr (3, [.ref w, .ref jst, .int 0]))) → (pt L1 f1 rg (.inr (6, [.ref w, .int 0]))) → (pt L1 f1 dd (.inr (1, [.ref w, .ref jd, .ref rg, .ref mo, .int 0]))) → (pt L1 f1 fo (.inr (2, [.ref w, .ref jd, .ref dd, .ref sl]))) → (pt L1 f1 ch (.inr (0, [.ref w, .ref pr, .ref kn]))) → (ta ≠ ag) → (lf ≠ lt) → (sf 0 = some s0) → (pastOK G L nw L1 f1 pf 30) → (pastOK G LT k_nw L1 f1 k_pf 30) → (ki ≠ pl) → (ki ≠ va) → (pl ≠ va) → (sl ≠ nw) → ((∀ j, j < 30 → ∀ o, pf j = some o → o ∈ LT)) → (nw ∈ LT) → (k_nw ∉ LT) → (w ≠ k) → P) : P :=
  hp.elim fun w hp => hp.elim fun ta hp => hp.elim fun ag hp => hp.elim fun sc hp => hp.elim fun nw hp => hp.elim fun pa hp => hp.elim fun fe hp => hp.elim fun cl hp => hp.elim fun wo hp => hp.elim fun si hp => hp.elim fun we hp => hp.elim fun oa hp => hp.elim fun aa hp => hp.elim fun c1 hp => hp.elim fun c2 hp => hp.elim fun c3 hp => hp.elim fun c4 hp => hp.elim fun c5 hp => hp.elim fun s0 hp => hp.elim fun dg hp => hp.elim fun nu hp => hp.elim fun lf hp => hp.elim fun lt hp => hp.elim fun cs hp => hp.elim fun sf hp => hp.elim fun pf hp => hp.elim fun k hp => hp.elim fun k_ta hp => hp.elim fun k_ag hp => hp.elim fun k_sc hp => hp.elim fun k_nw hp => hp.elim fun k_pa hp => hp.elim fun k_fe hp => hp.elim fun k_cl hp => hp.elim fun k_wo hp => hp.elim fun k_si hp => hp.elim fun k_we hp => hp.elim fun k_oa hp => hp.elim fun k_aa hp => hp.elim fun k_c1 hp => hp.elim fun k_c2 hp => hp.elim fun k_c3 hp => hp.elim fun k_c4 hp => hp.elim fun k_c5 hp => hp.elim fun k_s0 hp => hp.elim fun k_dg hp => hp.elim fun k_nu hp => hp.elim fun k_lf hp => hp.elim fun k_lt hp => hp.elim fun k_cs hp => hp.elim fun k_sf hp => hp.elim fun k_pf hp => hp.elim fun sl hp => hp.elim fun slo hp => hp.elim fun sla hp => hp.elim fun rd hp => hp.elim fun tp hp => hp.elim fun ki hp => hp.elim fun pl hp => hp.elim fun va hp => hp.elim fun jd hp => hp.elim fun jst hp => hp.elim fun rg hp => hp.elim fun dd hp => hp.elim fun mo hp => hp.elim fun fo hp => hp.elim fun su hp => hp.elim fun ch hp => hp.elim fun pr hp => hp.elim fun kn hp => hp.elim fun LT hp => k9 w ta ag sc nw pa fe cl wo si we oa aa c1 c2 c3 c4 c5 s0 dg nu lf lt cs sf pf k k_ta k_ag k_sc k_nw k_pa k_fe k_cl k_wo k_si k_we k_oa k_aa k_c1 k_c2 k_c3 k_c4 k_c5 k_s0 k_dg k_nu k_lf k_lt k_cs k_sf k_pf sl slo sla rd tp ki pl va jd jst rg dd mo fo su ch pr kn LT hp.1 hp.2.1 hp.2.2.1 hp.2.2.2.1 hp.2.2.2.2.1 hp.2.2.2.2.2.1 hp.2.2.2.2.2.2.1 hp.2.2.2.2.2.2.2.1 hp.2.2.2.2.2.2.2.2.1 hp.2.2.2.2.2.2.2.2.2.1 hp.2.2.2.2.2.2.2.2.2.2.1 hp.2.2.2.2.2.2.2.2.2.2.2.1 hp.2.2.2.2.2.2.2.2.2.2.2.2.1 hp.2.2.2.2.2.2.2.2.2.2.2.2.2.1 hp.2.2.2.2.2.2.2.2.2.2.2.2.2.2.1 hp.2.2.2.2.2.2.2.2.2.2.2.2.2.2.2.1 hp.2.2.2.2.2.2.2.2.2.2.2.2.2.2.2.2.1 hp.2.2.2.2.2.2.2.2.2.2.2.2.2.2.2.2.2.1 hp.2.2.2.2.2.2.2.2.2.2.2.2.2.2.2.2.2.2.1 hp.2.2.2.2.2.2.2.2.2.2.2.2.2.2.2.2.2.2.2.1 hp.2.2.2.2.2.2.2.2.2.2.2.2.2.2.2.2.2.2.2.2.1 hp.2.2.2.2.2.2.2.2.2.2.2.2.2.2.2.2.2.2.2.2.2.1 hp.2.2.2.2.2.2.2.2.2.2.2.2.2.2.2.2.2.2.2.2.2.2.1 hp.2.2.2.2.2.2.2.2.2.2.2.2.2.2.2.2.2.2.2.2.2.2.2.1 hp.2.2.2.2.2.2.2.2.2.2.2.2.2.2.2.2.2.2.2.2.2.2.2.2.1 hp.2.2.2.2.2.2.2.2.2.2.2.2.2.2.2.2.2.2.2.2.2.2.2.2.2.1 hp.2.2.2.2.2.2.2.2.2.2.2.2.2.2.2.2.2.2.2.2.2.2.2.2.2.2.1 hp.2.2.2.2.2.2.2.2.2.2.2.2.2.2.2.2.2.2.2.2.2.2.2.2.2.2.2.1 hp.2.2.2.2.2.2.2.2.2.2.2.2.2.2.2.2.2.2.2.2.2.2.2.2.2.2.2.2.1 hp.2.2.2.2.2.2.2.2.2.2.2.2.2.2.2.2.2.2.2.2.2.2.2.2.2.2.2.2.2.1 hp.2.2.2.2.2.2.2.2.2.2.2.2.2.2.2.2.2.2.2.2.2.2.2.2.2.2.2.2.2.2.1 hp.2.2.2.2.2.2.2.2.2.2.2.2.2.2.2.2.2.2.2.2.2.2.2.2.2.2.2.2.2.2.2.1 hp.2.2.2.2.2.2.2.2.2.2.2.2.2.2.2.2.2.2.2.2.2.2.2.2.2.2.2.2.2.2.2.2.1 hp.2.2.2.2.2.2.2.2.2.2.2.2.2.2.2.2.2.2.2.2.2.2.2.2.2.2.2.2.2.2.2.2.2.1 hp.2.2.2.2.2.2.2.2.2.2.2.2.2.2.2.2.2.2.2.2.2.2.2.2.2.2.2.2.2.2.2.2.2.2.1 hp.2.2.2.2.2.2.2.2.2.2.2.2.2.2.2.2.2.2.2.2.2.2.2.2.2.2.2.2.2.2.2.2.2.2.2.1 hp.2.2.2.2.2.2.2.2.2.2.2.2.2.2.2.2.2.2.2.2.2.2.2.2.2.2.2.2.2.2.2.2.2.2.2.2.1 hp.2.2.2.2.2.2.2.2.2.2.2.2.2.2.2.2.2.2.2.2.2.2.2.2.2.2.2.2.2.2.2.2.2.2.2.2.2.1 hp.2.2.2.2.2.2.2.2.2.2.2.2.2.2.2.2.2.2.2.2.2.2.2.2.2.2.2.2.2.2.2.2.2.2.2.2.2.2.1 hp.2.2.2.2.2.2.2.2.2.2.2.2.2.2.2.2.2.2.2.2.2.2.2.2.2.2.2.2.2.2.2.2.2.2.2.2.2.2.2.1 hp.2.2.2.2.2.2.2.2.2.2.2.2.2.2.2.2.2.2.2.2.2.2.2.2.2.2.2.2.2.2.2.2.2.2.2.2.2.2.2.2.1 hp.2.2.2.2.2.2.2.2.2.2.2.2.2.2.2.2.2.2.2.2.2.2.2.2.2.2.2.2.2.2.2.2.2.2.2.2.2.2.2.2.2.1 hp.2.2.2.2.2.2.2.2.2.2.2.2.2.2.2.2.2.2.2.2.2.2.2.2.2.2.2.2.2.2.2.2.2.2.2.2.2.2.2.2.2.2.1 hp.2.2.2.2.2.2.2.2.2.2.2.2.2.2.2.2.2.2.2.2.2.2.2.2.2.2.2.2.2.2.2.2.2.2.2.2.2.2.2.2.2.2.2.1 hp.2.2.2.2.2.2.2.2.2.2.2.2.2.2.2.2.2.2.2.2.2.2.2.2.2.2.2.2.2.2.2.2.2.2.2.2.2.2.2.2.2.2.2.2.1 hp.2.2.2.2.2.2.2.2.2.2.2.2.2.2.2.2.2.2.2.2.2.2.2.2.2.2.2.2.2.2.2.2.2.2.2.2.2.2.2.2.2.2.2.2.2.1 hp.2.2.2.2.2.2.2.2.2.2.2.2.2.2.2.2.2.2.2.2.2.2.2.2.2.2.2.2.2.2.2.2.2.2.2.2.2.2.2.2.2.2.2.2.2.2.1 hp.2.2.2.2.2.2.2.2.2.2.2.2.2.2.2.2.2.2.2.2.2.2.2.2.2.2.2.2.2.2.2.2.2.2.2.2.2.2.2.2.2.2.2.2.2.2.2.1 hp.2.2.2.2.2.2.2.2.2.2.2.2.2.2.2.2.2.2.2.2.2.2.2.2.2.2.2.2.2.2.2.2.2.2.2.2.2.2.2.2.2.2.2.2.2.2.2.2.1 hp.2.2.2.2.2.2.2.2.2.2.2.2.2.2.2.2.2.2.2.2.2.2.2.2.2.2.2.2.2.2.2.2.2.2.2.2.2.2.2.2.2.2.2.2.2.2.2.2.2.1 hp.2.2.2.2.2.2.2.2.2.2.2.2.2.2.2.2.2.2.2.2.2.2.2.2.2.2.2.2.2.2.2.2.2.2.2.2.2.2.2.2.2.2.2.2.2.2.2.2.2.2.1 hp.2.2.2.2.2.2.2.2.2.2.2.2.2.2.2.2.2.2.2.2.2.2.2.2.2.2.2.2.2.2.2.2.2.2.2.2.2.2.2.2.2.2.2.2.2.2.2.2.2.2.2.1 hp.2.2.2.2.2.2.2.2.2.2.2.2.2.2.2.2.2.2.2.2.2.2.2.2.2.2.2.2.2.2.2.2.2.2.2.2.2.2.2.2.2.2.2.2.2.2.2.2.2.2.2.2.1 hp.2.2.2.2.2.2.2.2.2.2.2.2.2.2.2.2.2.2.2.2.2.2.2.2.2.2.2.2.2.2.2.2.2.2.2.2.2.2.2.2.2.2.2.2.2.2.2.2.2.2.2.2.2.1 hp.2.2.2.2.2.2.2.2.2.2.2.2.2.2.2.2.2.2.2.2.2.2.2.2.2.2.2.2.2.2.2.2.2.2.2.2.2.2.2.2.2.2.2.2.2.2.2.2.2.2.2.2.2.2.1 hp.2.2.2.2.2.2.2.2.2.2.2.2.2.2.2.2.2.2.2.2.2.2.2.2.2.2.2.2.2.2.2.2.2.2.2.2.2.2.2.2.2.2.2.2.2.2.2.2.2.2.2.2.2.2.2.1 hp.2.2.2.2.2.2.2.2.2.2.2.2.2.2.2.2.2.2.2.2.2.2.2.2.2.2.2.2.2.2.2.2.2.2.2.2.2.2.2.2.2.2.2.2.2.2.2.2.2.2.2.2.2.2.2.2.1 hp.2.2.2.2.2.2.2.2.2.2.2.2.2.2.2.2.2.2.2.2.2.2.2.2.2.2.2.2.2.2.2.2.2.2.2.2.2.2.2.2.2.2.2.2.2.2.2.2.2.2.2.2.2.2.2.2.2.1 hp.2.2.2.2.2.2.2.2.2.2.2.2.2.2.2.2.2.2.2.2.2.2.2.2.2.2.2.2.2.2.2.2.2.2.2.2.2.2.2.2.2.2.2.2.2.2.2.2.2.2.2.2.2.2.2.2.2.2.1 hp.2.2.2.2.2.2.2.2.2.2.2.2.2.2.2.2.2.2.2.2.2.2.2.2.2.2.2.2.2.2.2.2.2.2.2.2.2.2.2.2.2.2.2.2.2.2.2.2.2.2.2.2.2.2.2.2.2.2.2.1 hp.2.2.2.2.2.2.2.2.2.2.2.2.2.2.2.2.2.2.2.2.2.2.2.2.2.2.2.2.2.2.2.2.2.2.2.2.2.2.2.2.2.2.2.2.2.2.2.2.2.2.2.2.2.2.2.2.2.2.2.2.1 hp.2.2.2.2.2.2.2.2.2.2.2.2.2.2.2.2.2.2.2.2.2.2.2.2.2.2.2.2.2.2.2.2.2.2.2.2.2.2.2.2.2.2.2.2.2.2.2.2.2.2.2.2.2.2.2.2.2.2.2.2.2.1 hp.2.2.2.2.2.2.2.2.2.2.2.2.2.2.2.2.2.2.2.2.2.2.2.2.2.2.2.2.2.2.2.2.2.2.2.2.2.2.2.2.2.2.2.2.2.2.2.2.2.2.2.2.2.2.2.2.2.2.2.2.2.2.1 hp.2.2.2.2.2.2.2.2.2.2.2.2.2.2.2.2.2.2.2.2.2.2.2.2.2.2.2.2.2.2.2.2.2.2.2.2.2.2.2.2.2.2.2.2.2.2.2.2.2.2.2.2.2.2.2.2.2.2.2.2.2.2.2.1 hp.2.2.2.2.2.2.2.2.2.2.2.2.2.2.2.2.2.2.2.2.2.2.2.2.2.2.2.2.2.2.2.2.2.2.2.2.2.2.2.2.2.2.2.2.2.2.2.2.2.2.2.2.2.2.2.2.2.2.2.2.2.2.2.2.1 hp.2.2.2.2.2.2.2.2.2.2.2.2.2.2.2.2.2.2.2.2.2.2.2.2.2.2.2.2.2.2.2.2.2.2.2.2.2.2.2.2.2.2.2.2.2.2.2.2.2.2.2.2.2.2.2.2.2.2.2.2.2.2.2.2.2.1 hp.2.2.2.2.2.2.2.2.2.2.2.2.2.2.2.2.2.2.2.2.2.2.2.2.2.2.2.2.2.2.2.2.2.2.2.2.2.2.2.2.2.2.2.2.2.2.2.2.2.2.2.2.2.2.2.2.2.2.2.2.2.2.2.2.2.2.1 hp.2.2.2.2.2.2.2.2.2.2.2.2.2.2.2.2.2.2.2.2.2.2.2.2.2.2.2.2.2.2.2.2.2.2.2.2.2.2.2.2.2.2.2.2.2.2.2.2.2.2.2.2.2.2.2.2.2.2.2.2.2.2.2.2.2.2.2.1 hp.2.2.2.2.2.2.2.2.2.2.2.2.2.2.2.2.2.2.2.2.2.2.2.2.2.2.2.2.2.2.2.2.2.2.2.2.2.2.2.2.2.2.2.2.2.2.2.2.2.2.2.2.2.2.2.2.2.2.2.2.2.2.2.2.2.2.2.2.1 hp.2.2.2.2.2.2.2.2.2.2.2.2.2.2.2.2.2.2.2.2.2.2.2.2.2.2.2.2.2.2.2.2.2.2.2.2.2.2.2.2.2.2.2.2.2.2.2.2.2.2.2.2.2.2.2.2.2.2.2.2.2.2.2.2.2.2.2.2.2
set_option maxRecDepth 100000 in
theorem ob_X12 {G : GG} {L L1 : List Nat} {f f1 : HF} {h : Nat} {P : Prop} (hp : ∃ a : Nat, ∃ im : Nat, ∃ te : Nat, ∃ tp : Nat, ∃ pi : Nat, ∃ co : Nat, ∃ na : Nat, ∃ vl : Nat, ∃ tr : Nat, ∃ ac : Nat, ∃ as_ : Nat, ∃ su : Nat, ∃ wi_ : Nat, ∃ se : Nat, ∃ gi : Nat → Int32, kp L f L1 f1 [h] ∧ pt L1 f1 h (.inr (12, [.ref a, .ref im, .ref te, .ref tp, .int 0, .int (-1), .int (-1), .int 0, .int 0, .int 0, .int 0, .long 0, .int 0, .int 0, .int 0, .ref pi, .ref co, .int 0, .int 0, .int 0, .int 0, .int 0, .ref na, .ref vl, .ref tr, .int 1, .ref ac, .ref as_, .ref su, .ref wi_, .int 0, .ref se])) ∧ pt L1 f1 a (.inl (G.2 0, 10568, .inl a0)) ∧ pt L1 f1 im (.inl (G.2 0, 10568, .inl gi)) ∧ pt L1 f1 te (.inl (G.2 0, 2916, .inl (fun _ => 0))) ∧ pt L1 f1 tp (.inl (G.2 0, 300, .inl (fun _ => 0))) ∧ pt L1 f1 ac (.inl (G.2 0, 6, .inl (fun _ => 0))) ∧ pt L1 f1 as_ (.inl (G.2 0, 114, .inl (fun _ => 0))) ∧ pt L1 f1 se (.inl (G.2 0, 6, .inl (fun _ => 0))) ∧ a ≠ im ∧ ∀ k, k < 10568 → gi k = a0 k) (k9 : ∀ (a : Nat) (im : Nat) (te : Nat) (tp : Nat) (pi : Nat) (co : Nat) (na : Nat) (vl : Nat) (tr : Nat) (ac : Nat) (as_ : Nat) (su : Nat) (wi_ : Nat) (se : Nat) (gi : Nat → Int32) , (kp L f L1 f1 [h]) → (pt L1 f1 h (.inr (12, [.ref a, .ref im, .ref te, .ref tp, .int 0, .int (-1), .int (-1), .int 0, .int 0, .int 0, .int 0, .long 0, .int 0, .int 0, .int 0, .ref pi, .ref co, .int 0, .int 0, .int 0, .int 0, .int 0, .ref na, .ref vl, .ref tr, .int 1, .ref ac, .ref as_, .ref su, .ref wi_, .int 0, .ref se]))) → (pt L1 f1 a (.inl (G.2 0, 10568, .inl a0))) → (pt L1 f1 im (.inl (G.2 0, 10568, .inl gi))) → (pt L1 f1 te (.inl (G.2 0, 2916, .inl (fun _ => 0)))) → (pt L1 f1 tp (.inl (G.2 0, 300, .inl (fun _ => 0)))) → (pt L1 f1 ac (.inl (G.2 0, 6, .inl (fun _ => 0)))) → (pt L1 f1 as_ (.inl (G.2 0, 114, .inl (fun _ => 0)))) → (pt L1 f1 se (.inl (G.2 0, 6, .inl (fun _ => 0)))) → (a ≠ im) → (∀ k, k < 10568 → gi k = a0 k) → P) : P :=
  hp.elim fun a hp => hp.elim fun im hp => hp.elim fun te hp => hp.elim fun tp hp => hp.elim fun pi hp => hp.elim fun co hp => hp.elim fun na hp => hp.elim fun vl hp => hp.elim fun tr hp => hp.elim fun ac hp => hp.elim fun as_ hp => hp.elim fun su hp => hp.elim fun wi_ hp => hp.elim fun se hp => hp.elim fun gi hp => k9 a im te tp pi co na vl tr ac as_ su wi_ se gi hp.1 hp.2.1 hp.2.2.1 hp.2.2.2.1 hp.2.2.2.2.1 hp.2.2.2.2.2.1 hp.2.2.2.2.2.2.1 hp.2.2.2.2.2.2.2.1 hp.2.2.2.2.2.2.2.2.1 hp.2.2.2.2.2.2.2.2.2.1 hp.2.2.2.2.2.2.2.2.2.2
set_option maxHeartbeats 4000000 in
set_option maxRecDepth 100000 in
theorem law_low {p : Program} {e : Env} {s : State} {m : MethodId} {below : List Frame} {meth : Method} {c : Code} (l : Launch) {b L : Nat} {xs : Nat → Int32} (C0 : lw_At p s m meth c b L xs) {G : GG} {A : Nat → Prop} (hAe : A = (fun q : Nat => s.heap.size ≤ q)) (S : SX G A p s m meth c RL code 4 ret) {X : va_W} {Lq : List Nat} {fq : HF} {H : Heap} {locs : List Loc} {ls : Array Slot} {xo xm : Nat} (Y : DY G A s X Lq fq H locs) (hl : lv_has ls 4 [(3, .int 0), (2, .ref xm), (1, .ref xo), (0, .ref b)]) (hL : L ≤ 6) (h6 : ¬ L = 6) : W p l e room_1 s m #[Value.ref b] below meth c H locs 1000 60000 (lw_Z below #[Value.ref b] s) (F0 m 18 ls []) := by
  obtain ⟨hx, hb, hr, hml, hown, hts, hX, hbl, hlocks, hgv⟩ := id C0
  have hbA : ¬ A b := by rw [hAe]; exact Nat.not_le.mpr hbl
  have hLc : L = 0 ∨ L = 1 ∨ L = 2 ∨ L = 3 ∨ L = 4 ∨ L = 5 := by clear Y S hl; omega
  rcases hLc with rfl | rfl | rfl | rfl | rfl | rfl
  · refine lv_iload_n hx hb dL_law_18 rfl (lv_at hl 0 rfl) ?_
    refine lv_aload_n hx hb dL_law_19 rfl (lv_at hl 3 rfl) ?_
    refine va_slen hx hb hX hbl hbA Y.2.2 dL_law_20 ?_
    refine lv_fold (z := 0) (by decide) ?_
    refine lv_bipush (v := 6) hx hb dL_law_21 (by decide) ?_
    refine lv_isub hx hb dL_law_23 ?_
    refine lv_fold (z := (-6)) (by decide) ?_
    refine lv_icmp_gt (tgt := 1532) hx hb dL_law_24 (by decide) (fun _ => ?_) (fun h => absurd (by decide) h)
    refine lv_iconst (v := 1) hx hb dL_law_1532 (by decide) ?_
    refine va_forget (fun q hq => by have h := Y.2.2.2.2 q hq; rw [hAe] at h; exact h) ?_
    refine W.widen (k := 600000) (n := 7302250) (by decide) (by decide) ?_
    exact lw_ret hx hb hr hlocks dL_law_1533
  · refine lv_iload_n hx hb dL_law_18 rfl (lv_at hl 0 rfl) ?_
    refine lv_aload_n hx hb dL_law_19 rfl (lv_at hl 3 rfl) ?_
    refine va_slen hx hb hX hbl hbA Y.2.2 dL_law_20 ?_
    refine lv_fold (z := 1) (by decide) ?_
    refine lv_bipush (v := 6) hx hb dL_law_21 (by decide) ?_
    refine lv_isub hx hb dL_law_23 ?_
    refine lv_fold (z := (-5)) (by decide) ?_
    refine lv_icmp_gt (tgt := 1532) hx hb dL_law_24 (by decide) (fun _ => ?_) (fun h => absurd (by decide) h)
    refine lv_iconst (v := 1) hx hb dL_law_1532 (by decide) ?_
    refine va_forget (fun q hq => by have h := Y.2.2.2.2 q hq; rw [hAe] at h; exact h) ?_
    refine W.widen (k := 600000) (n := 7302250) (by decide) (by decide) ?_
    exact lw_ret hx hb hr hlocks dL_law_1533
  · refine lv_iload_n hx hb dL_law_18 rfl (lv_at hl 0 rfl) ?_
    refine lv_aload_n hx hb dL_law_19 rfl (lv_at hl 3 rfl) ?_
    refine va_slen hx hb hX hbl hbA Y.2.2 dL_law_20 ?_
    refine lv_fold (z := 2) (by decide) ?_
    refine lv_bipush (v := 6) hx hb dL_law_21 (by decide) ?_
    refine lv_isub hx hb dL_law_23 ?_
    refine lv_fold (z := (-4)) (by decide) ?_
    refine lv_icmp_gt (tgt := 1532) hx hb dL_law_24 (by decide) (fun _ => ?_) (fun h => absurd (by decide) h)
    refine lv_iconst (v := 1) hx hb dL_law_1532 (by decide) ?_
    refine va_forget (fun q hq => by have h := Y.2.2.2.2 q hq; rw [hAe] at h; exact h) ?_
    refine W.widen (k := 600000) (n := 7302250) (by decide) (by decide) ?_
    exact lw_ret hx hb hr hlocks dL_law_1533
  · refine lv_iload_n hx hb dL_law_18 rfl (lv_at hl 0 rfl) ?_
    refine lv_aload_n hx hb dL_law_19 rfl (lv_at hl 3 rfl) ?_
    refine va_slen hx hb hX hbl hbA Y.2.2 dL_law_20 ?_
    refine lv_fold (z := 3) (by decide) ?_
    refine lv_bipush (v := 6) hx hb dL_law_21 (by decide) ?_
    refine lv_isub hx hb dL_law_23 ?_
    refine lv_fold (z := (-3)) (by decide) ?_
    refine lv_icmp_gt (tgt := 1532) hx hb dL_law_24 (by decide) (fun _ => ?_) (fun h => absurd (by decide) h)
    refine lv_iconst (v := 1) hx hb dL_law_1532 (by decide) ?_
    refine va_forget (fun q hq => by have h := Y.2.2.2.2 q hq; rw [hAe] at h; exact h) ?_
    refine W.widen (k := 600000) (n := 7302250) (by decide) (by decide) ?_
    exact lw_ret hx hb hr hlocks dL_law_1533
  · refine lv_iload_n hx hb dL_law_18 rfl (lv_at hl 0 rfl) ?_
    refine lv_aload_n hx hb dL_law_19 rfl (lv_at hl 3 rfl) ?_
    refine va_slen hx hb hX hbl hbA Y.2.2 dL_law_20 ?_
    refine lv_fold (z := 4) (by decide) ?_
    refine lv_bipush (v := 6) hx hb dL_law_21 (by decide) ?_
    refine lv_isub hx hb dL_law_23 ?_
    refine lv_fold (z := (-2)) (by decide) ?_
    refine lv_icmp_gt (tgt := 1532) hx hb dL_law_24 (by decide) (fun _ => ?_) (fun h => absurd (by decide) h)
    refine lv_iconst (v := 1) hx hb dL_law_1532 (by decide) ?_
    refine va_forget (fun q hq => by have h := Y.2.2.2.2 q hq; rw [hAe] at h; exact h) ?_
    refine W.widen (k := 600000) (n := 7302250) (by decide) (by decide) ?_
    exact lw_ret hx hb hr hlocks dL_law_1533
  · refine lv_iload_n hx hb dL_law_18 rfl (lv_at hl 0 rfl) ?_
    refine lv_aload_n hx hb dL_law_19 rfl (lv_at hl 3 rfl) ?_
    refine va_slen hx hb hX hbl hbA Y.2.2 dL_law_20 ?_
    refine lv_fold (z := 5) (by decide) ?_
    refine lv_bipush (v := 6) hx hb dL_law_21 (by decide) ?_
    refine lv_isub hx hb dL_law_23 ?_
    refine lv_fold (z := (-1)) (by decide) ?_
    refine lv_icmp_gt (tgt := 1532) hx hb dL_law_24 (by decide) (fun _ => ?_) (fun h => absurd (by decide) h)
    refine lv_iconst (v := 1) hx hb dL_law_1532 (by decide) ?_
    refine va_forget (fun q hq => by have h := Y.2.2.2.2 q hq; rw [hAe] at h; exact h) ?_
    refine W.widen (k := 600000) (n := 7302250) (by decide) (by decide) ?_
    exact lw_ret hx hb hr hlocks dL_law_1533
set_option maxHeartbeats 40000000 in
set_option maxRecDepth 100000 in
theorem law_six {p : Program} {e : Env} {s : State} {m : MethodId} {below : List Frame} {meth : Method} {c : Code} (l : Launch) {b : Nat} {xs : Nat → Int32} (C0 : lw_At p s m meth c b 6 xs) {G : GG} {A : Nat → Prop} (hAe : A = (fun q : Nat => s.heap.size ≤ q)) (S : SX G A p s m meth c RL code 4 ret) {Lx Lm : List Nat} {fx fm : HF} {H : Heap} {locs : List Loc} {ls : Array Slot} {xo xm w ta ag sc nw pa fe cl wo si we oa aa c1 c2 c3 c4 c5 s0 dg nu lf lt cs k k_ta k_ag k_sc k_nw k_pa k_fe k_cl k_wo k_si k_we k_oa k_aa k_c1 k_c2 k_c3 k_c4 k_c5 sl slo sla rd tp ki pl va jd rg dd mo fo su ch pr kn m_a m_im m_te m_tp m_pi m_co m_na m_vl m_tr m_ac m_as_ m_su m_wi_ m_se : Nat} {sf pf k_pf : Nat → Option Nat} {LT : List Nat} {m_gi : Nat → Int32} {L0 : List Nat} (p_xo : pt Lx fx xo (.inr (11, [.ref w, .ref k, .ref rd, .ref jd, .ref rg, .ref dd, .ref fo, .ref su, .ref ch]))) (p_w : pt Lx fx w (.inr (10, [.ref ta, .ref ag, .ref sc, .ref nw, .ref pa, .ref fe, .ref cl, .ref wo, .ref si, .ref we, .int 0, .int 0, .int (-1), .int 0, .int 0]))) (p_ta : pt Lx fx ta (.inl (G.2 0, 6, .inl (fun _ => 0)))) (p_ag : pt Lx fx ag (.inl (G.2 0, 6, .inl (fun _ => 0)))) (p_sc : pt Lx fx sc (.inl (G.2 4, 4, .inr (.inr (.inr (.inr sf)))))) (p_nw : pt Lx fx nw (.inr (4, [.ref oa, .ref aa, .int 0, .int 0, .int 0, .int 0, .int 137]))) (p_oa : pt Lx fx oa (.inl (G.2 0, 98, .inl (fun _ => 0)))) (p_aa : pt Lx fx aa (.inl (G.2 0, 90, .inl (fun _ => 0)))) (p_pa : pt Lx fx pa (.inl (G.2 3, 30, .inr (.inr (.inr (.inr pf)))))) (p_fe : pt Lx fx fe (.inr (9, [.ref c1, .int 6, .int 0]))) (p_cl : pt Lx fx cl (.inr (9, [.ref c2, .int 8, .int 0]))) (p_wo : pt Lx fx wo (.inr (9, [.ref c3, .int 8, .int 0]))) (p_si : pt Lx fx si (.inr (9, [.ref c4, .int 8, .int 0]))) (p_we : pt Lx fx we (.inr (9, [.ref c5, .int 8, .int 0]))) (p_c1 : pt Lx fx c1 (.inl (G.2 0, 24, .inl (fun _ => 0)))) (p_c2 : pt Lx fx c2 (.inl (G.2 0, 24, .inl (fun _ => 0)))) (p_c3 : pt Lx fx c3 (.inl (G.2 0, 24, .inl (fun _ => 0)))) (p_c4 : pt Lx fx c4 (.inl (G.2 0, 24, .inl (fun _ => 0)))) (p_c5 : pt Lx fx c5 (.inl (G.2 0, 24, .inl (fun _ => 0)))) (p_s0 : pt Lx fx s0 (.inr (7, [.ref dg, .ref nu, .ref lf, .ref lt, .ref cs, .int 0, .int 0]))) (p_lf : pt Lx fx lf (.inl (G.2 0, 3, .inl (fun _ => 0)))) (p_lt : pt Lx fx lt (.inl (G.2 0, 3, .inl (fun _ => 0)))) (p_k : pt Lx fx k (.inr (10, [.ref k_ta, .ref k_ag, .ref k_sc, .ref k_nw, .ref k_pa, .ref k_fe, .ref k_cl, .ref k_wo, .ref k_si, .ref k_we, .int 0, .int 0, .int (-1), .int 0, .int 0]))) (p_k_ta : pt Lx fx k_ta (.inl (G.2 0, 6, .inl (fun _ => 0)))) (p_k_ag : pt Lx fx k_ag (.inl (G.2 0, 6, .inl (fun _ => 0)))) (p_k_nw : pt Lx fx k_nw (.inr (4, [.ref k_oa, .ref k_aa, .int 0, .int 0, .int 0, .int 0, .int 137]))) (p_k_oa : pt Lx fx k_oa (.inl (G.2 0, 98, .inl (fun _ => 0)))) (p_k_aa : pt Lx fx k_aa (.inl (G.2 0, 90, .inl (fun _ => 0)))) (p_k_pa : pt Lx fx k_pa (.inl (G.2 3, 30, .inr (.inr (.inr (.inr k_pf)))))) (p_k_fe : pt Lx fx k_fe (.inr (9, [.ref k_c1, .int 6, .int 0]))) (p_k_cl : pt Lx fx k_cl (.inr (9, [.ref k_c2, .int 8, .int 0]))) (p_k_wo : pt Lx fx k_wo (.inr (9, [.ref k_c3, .int 8, .int 0]))) (p_k_si : pt Lx fx k_si (.inr (9, [.ref k_c4, .int 8, .int 0]))) (p_k_we : pt Lx fx k_we (.inr (9, [.ref k_c5, .int 8, .int 0]))) (p_k_c1 : pt Lx fx k_c1 (.inl (G.2 0, 24, .inl (fun _ => 0)))) (p_k_c2 : pt Lx fx k_c2 (.inl (G.2 0, 24, .inl (fun _ => 0)))) (p_k_c3 : pt Lx fx k_c3 (.inl (G.2 0, 24, .inl (fun _ => 0)))) (p_k_c4 : pt Lx fx k_c4 (.inl (G.2 0, 24, .inl (fun _ => 0)))) (p_k_c5 : pt Lx fx k_c5 (.inl (G.2 0, 24, .inl (fun _ => 0)))) (p_sl : pt Lx fx sl (.inr (4, [.ref slo, .ref sla, .int 0, .int 0, .int 0, .int 0, .int 137]))) (p_slo : pt Lx fx slo (.inl (G.2 0, 98, .inl (fun _ => 0)))) (p_sla : pt Lx fx sla (.inl (G.2 0, 90, .inl (fun _ => 0)))) (p_rd : pt Lx fx rd (.inr (5, [.ref tp, .ref ki, .ref pl, .ref va, .int 0, .int 0, .int 0, .int 0, .int 0, .int 0, .int 0, .null, .int (-1), .int (-1)]))) (p_tp : pt Lx fx tp (.inl (G.2 0, 300, .inl (fun _ => 0)))) (p_ki : pt Lx fx ki (.inl (G.2 0, 301, .inl (fun _ => 0)))) (p_pl : pt Lx fx pl (.inl (G.2 0, 301, .inl (fun _ => 0)))) (p_va : pt Lx fx va (.inl (G.2 0, 301, .inl (fun _ => 0)))) (p_rg : pt Lx fx rg (.inr (6, [.ref w, .int 0]))) (p_dd : pt Lx fx dd (.inr (1, [.ref w, .ref jd, .ref rg, .ref mo, .int 0]))) (p_fo : pt Lx fx fo (.inr (2, [.ref w, .ref jd, .ref dd, .ref sl]))) (p_ch : pt Lx fx ch (.inr (0, [.ref w, .ref pr, .ref kn]))) (p_xm : pt Lm fm xm (.inr (12, [.ref m_a, .ref m_im, .ref m_te, .ref m_tp, .int 0, .int (-1), .int (-1), .int 0, .int 0, .int 0, .int 0, .long 0, .int 0, .int 0, .int 0, .ref m_pi, .ref m_co, .int 0, .int 0, .int 0, .int 0, .int 0, .ref m_na, .ref m_vl, .ref m_tr, .int 1, .ref m_ac, .ref m_as_, .ref m_su, .ref m_wi_, .int 0, .ref m_se]))) (p_m_a : pt Lm fm m_a (.inl (G.2 0, 10568, .inl a0))) (p_m_im : pt Lm fm m_im (.inl (G.2 0, 10568, .inl m_gi))) (p_m_te : pt Lm fm m_te (.inl (G.2 0, 2916, .inl (fun _ => 0)))) (p_m_tp : pt Lm fm m_tp (.inl (G.2 0, 300, .inl (fun _ => 0)))) (p_m_as_ : pt Lm fm m_as_ (.inl (G.2 0, 114, .inl (fun _ => 0)))) (p_m_se : pt Lm fm m_se (.inl (G.2 0, 6, .inl (fun _ => 0)))) (n1 : ta ≠ ag) (n4 : lf ≠ lt) (hsf : sf 0 = some s0) (hpf : pastOK G L0 nw Lx fx pf 30) (hpk : pastOK G LT k_nw Lx fx k_pf 30) (n5 : ki ≠ pl) (n6 : ki ≠ va) (n7 : pl ≠ va) (n8 : sl ≠ nw) (hinT : (∀ j, j < 30 → ∀ o, pf j = some o → o ∈ LT)) (hnwT : nw ∈ LT) (hknT : k_nw ∉ LT) (n9 : w ≠ k) (m_n1 : m_a ≠ m_im) (m_hgi : ∀ k, k < 10568 → m_gi k = a0 k) (Y : DY G A s (va_pl Lx fx) Lm fm H locs) (hl : lv_has ls 4 [(3, .int 0), (2, .ref xm), (1, .ref xo), (0, .ref b)]) : W p l e room_1 s m #[Value.ref b] below meth c H locs 1000 60000 (lw_Z below #[Value.ref b] s) (F0 m 18 ls []) := by
  obtain ⟨hx, hb, hr, hml, hown, hts, hX, hbl, hlocks, hgv⟩ := id C0
  have hbA : ¬ A b := by rw [hAe]; exact Nat.not_le.mpr hbl
  have tail : ∀ (H : Heap) (locs : List Loc) (ls : Array Slot), va_S A s.heap H locs → lv_has ls 4 [(3, .int 6), (0, .ref b)] → W p l e room_1 s m #[Value.ref b] below meth c H locs 1000 60000 (lw_Z below #[Value.ref b] s) (F0 m 18 ls []) := by
    intro H locs ls hS hl
    refine lv_iload_n hx hb dL_law_18 rfl (lv_at hl 0 rfl) ?_
    refine lv_aload_n hx hb dL_law_19 rfl (lv_at hl 1 rfl) ?_
    refine va_slen hx hb hX hbl hbA hS dL_law_20 ?_
    refine lv_fold (z := 6) (by decide) ?_
    refine lv_bipush (v := 6) hx hb dL_law_21 (by decide) ?_
    refine lv_isub hx hb dL_law_23 ?_
    refine lv_fold (z := 0) (by decide) ?_
    refine lv_icmp_gt (tgt := 1532) hx hb dL_law_24 (by decide) (fun _ => ?_) (fun h => absurd (by decide) h)
    refine lv_iconst (v := 1) hx hb dL_law_1532 (by decide) ?_
    refine va_forget (fun q hq => by have h := hS.2.2 q hq; rw [hAe] at h; exact h) ?_
    refine W.widen (k := 600000) (n := 7302250) (by decide) (by decide) ?_
    exact lw_ret hx hb hr hlocks dL_law_1533
  refine lv_iload_n hx hb dL_law_18 rfl (lv_at hl 0 rfl) ?_
  refine lv_aload_n hx hb dL_law_19 rfl (lv_at hl 3 rfl) ?_
  refine va_slen hx hb hX hbl hbA Y.2.2 dL_law_20 ?_
  refine lv_fold (z := 6) (by decide) ?_
  refine lv_bipush (v := 6) hx hb dL_law_21 (by decide) ?_
  refine lv_isub hx hb dL_law_23 ?_
  refine lv_fold (z := 0) (by decide) ?_
  refine lv_icmp_gt (tgt := 1532) hx hb dL_law_24 (by decide) (fun h => absurd h (by decide)) (fun _ => ?_)
  refine lv_aload_n hx hb dL_law_27 rfl (lv_at hl 3 rfl) ?_
  refine lv_iload_n hx hb dL_law_28 rfl (lv_at hl 0 rfl) ?_
  refine va_sld hx hb hX hbl hbA Y.2.2 (by unfold vp_in; decide) dL_law_29 ?_
  refine lv_fold (z := xs 0) rfl ?_
  refine lv_bipush (v := 63) hx hb dL_law_30 (by decide) ?_
  refine lv_iand hx hb dL_law_32 ?_
  refine lv_topi (fun x_1535 ex_1535 => ?_)
  rcases sw_0_47 x_1535 with h_1536 | h_1536 | h_1536 | h_1536 | h_1536 | h_1536 | h_1536 | h_1536 | h_1536 | h_1536 | h_1536 | h_1536 | h_1536 | h_1536 | h_1536 | h_1536 | h_1536 | h_1536 | h_1536 | h_1536 | h_1536 | h_1536 | h_1536 | h_1536 | h_1536 | h_1536 | h_1536 | h_1536 | h_1536 | h_1536 | h_1536 | h_1536 | h_1536 | h_1536 | h_1536 | h_1536 | h_1536 | h_1536 | h_1536 | h_1536 | h_1536 | h_1536 | h_1536 | h_1536 | h_1536 | h_1536 | h_1536 | h_1536 | h_1536
  · refine lv_fold (z := 0) h_1536 ?_
    exact law_0 l C0 hAe S p_xo p_w p_ta p_ag p_xm p_m_a n1 Y hl tail
  · refine lv_fold (z := 1) h_1536 ?_
    exact law_1 l C0 hAe S p_xo p_rd p_tp p_xm p_m_tp Y hl tail
  · refine lv_fold (z := 2) h_1536 ?_
    exact law_2 l C0 hAe S p_xo p_w p_rd p_xm Y hl tail
  · refine lv_fold (z := 3) h_1536 ?_
    exact law_3 l C0 hAe S p_xo p_w p_sc p_s0 p_lf p_lt p_rd p_ki p_pl p_va p_xm p_m_a p_m_te n4 hsf n5 n6 n7 Y hl tail
  · refine lv_fold (z := 4) h_1536 ?_
    exact law_4 l C0 hAe S p_xo p_w p_rd p_xm Y hl tail
  · refine lv_fold (z := 5) h_1536 ?_
    exact law_5 l C0 hAe S p_xo p_w p_xm p_m_a Y hl tail
  · refine lv_fold (z := 6) h_1536 ?_
    exact law_6 l C0 hAe S p_xo p_w p_dd p_xm p_m_a Y hl tail
  · refine lv_fold (z := 7) h_1536 ?_
    exact law_7 l C0 hAe S p_xo p_w p_nw p_dd p_xm p_m_a Y hl tail
  · refine lv_fold (z := 8) h_1536 ?_
    exact law_8 l C0 hAe S p_xo p_w p_nw p_dd p_xm p_m_a Y hl tail
  · refine lv_fold (z := 9) h_1536 ?_
    exact law_9 l C0 hAe S p_xo p_w p_dd p_xm p_m_a Y hl tail
  · refine lv_fold (z := 10) h_1536 ?_
    exact law_10 l C0 hAe S p_xo p_w p_dd p_xm p_m_a Y hl tail
  · refine lv_fold (z := 11) h_1536 ?_
    exact law_11 l C0 hAe S p_xo p_w p_nw p_rg p_dd p_xm p_m_a Y hl tail
  · refine lv_fold (z := 12) h_1536 ?_
    exact law_12 l C0 hAe S p_xo p_w p_nw p_oa p_aa p_pa p_dd p_xm p_m_a hpf Y hl tail
  · refine lv_fold (z := 13) h_1536 ?_
    exact law_13 l C0 hAe S p_xo p_w p_xm p_m_a p_m_te Y hl tail
  · refine lv_fold (z := 14) h_1536 ?_
    exact law_14 l C0 hAe S p_xo p_w p_xm p_m_a Y hl tail
  · refine lv_fold (z := 15) h_1536 ?_
    exact law_15 l C0 hAe S p_xo p_w p_xm p_m_a Y hl tail
  · refine lv_fold (z := 16) h_1536 ?_
    exact law_16 l C0 hAe S p_xo p_w p_xm p_m_a Y hl tail
  · refine lv_fold (z := 17) h_1536 ?_
    exact law_17 l C0 hAe S p_xo p_w p_nw p_xm p_m_a Y hl tail
  · refine lv_fold (z := 18) h_1536 ?_
    exact law_18 l C0 hAe S p_xo p_w p_nw p_xm p_m_a Y hl tail
  · refine lv_fold (z := 19) h_1536 ?_
    exact law_19 l C0 hAe S p_xo p_w p_nw p_xm p_m_a Y hl tail
  · refine lv_fold (z := 20) h_1536 ?_
    exact law_20 l C0 hAe S p_xo p_w p_nw p_oa p_aa p_sl p_slo p_sla p_fo p_xm p_m_a p_m_as_ n8 Y hl tail
  · refine lv_fold (z := 21) h_1536 ?_
    exact law_21 l C0 hAe S p_xo p_w p_xm p_m_a Y hl tail
  · refine lv_fold (z := 22) h_1536 ?_
    exact law_22 l C0 hAe S p_xo p_w p_nw p_fo p_xm p_m_a Y hl tail
  · refine lv_fold (z := 23) h_1536 ?_
    exact law_23 l C0 hAe S p_xo p_w p_nw p_fe p_xm p_m_a Y hl tail
  · refine lv_fold (z := 24) h_1536 ?_
    exact law_24 l C0 hAe S p_xo p_w p_xm p_m_a Y hl tail
  · refine lv_fold (z := 25) h_1536 ?_
    exact law_25 l C0 hAe S p_xo p_w p_nw p_xm p_m_a Y hl tail
  · refine lv_fold (z := 26) h_1536 ?_
    exact law_26 l C0 hAe S p_xo p_w p_xm p_m_a Y hl tail
  · refine lv_fold (z := 27) h_1536 ?_
    exact law_27 l C0 hAe S p_xo p_w p_nw p_cl p_xm p_m_a Y hl tail
  · refine lv_fold (z := 28) h_1536 ?_
    exact law_28 l C0 hAe S p_xo p_w p_cl p_ch p_xm p_m_a Y hl tail
  · refine lv_fold (z := 29) h_1536 ?_
    exact law_29 l C0 hAe S p_xo p_w p_xm p_m_a Y hl tail
  · refine lv_fold (z := 30) h_1536 ?_
    exact law_30 l C0 hAe S p_xo p_w p_wo p_c3 p_xm p_m_a Y hl tail
  · refine lv_fold (z := 31) h_1536 ?_
    exact law_31 l C0 hAe S p_xo p_w p_wo p_ch p_xm p_m_a Y hl tail
  · refine lv_fold (z := 32) h_1536 ?_
    exact law_32 l C0 hAe S p_xo p_w p_xm p_m_a Y hl tail
  · refine lv_fold (z := 33) h_1536 ?_
    exact law_33 l C0 hAe S p_xo p_w p_nw p_rg p_xm p_m_a Y hl tail
  · refine lv_fold (z := 34) h_1536 ?_
    exact law_34 l C0 hAe S p_xo p_w p_ch p_xm p_m_a p_m_se Y hl tail
  · refine lv_fold (z := 35) h_1536 ?_
    exact law_35 l C0 hAe S p_xo p_w p_nw p_si p_xm p_m_a Y hl tail
  · refine lv_fold (z := 36) h_1536 ?_
    exact law_36 l C0 hAe S p_xo p_w p_xm p_m_a Y hl tail
  · refine lv_fold (z := 37) h_1536 ?_
    exact law_37 l C0 hAe S p_xo p_w p_ch p_xm p_m_a p_m_se Y hl tail
  · refine lv_fold (z := 38) h_1536 ?_
    exact law_38 l C0 hAe S p_xo p_w p_nw p_xm p_m_a Y hl tail
  · refine lv_fold (z := 39) h_1536 ?_
    exact law_39 l C0 hAe S p_xo p_w p_nw p_we p_xm p_m_a Y hl tail
  · refine lv_fold (z := 40) h_1536 ?_
    exact law_40 l C0 hAe S p_xo p_w p_xm p_m_a Y hl tail
  · refine lv_fold (z := 41) h_1536 ?_
    exact law_41 l C0 hAe S p_xo p_w p_ch p_xm p_m_a Y hl tail
  · refine lv_fold (z := 42) h_1536 ?_
    exact law_42 l C0 hAe S p_xo p_w p_nw p_ch p_xm p_m_a Y hl tail
  · refine lv_fold (z := 43) h_1536 ?_
    exact law_43 l C0 hAe S p_xo p_w p_nw p_xm p_m_a Y hl tail
  · refine lv_fold (z := 44) h_1536 ?_
    exact law_44 l C0 hAe S p_xo p_w p_nw p_xm p_m_a Y hl tail
  · refine lv_fold (z := 45) h_1536 ?_
    exact law_45 l C0 hAe S p_xo p_w p_ta p_ag p_nw p_oa p_aa p_pa p_fe p_cl p_wo p_si p_we p_c1 p_c2 p_c3 p_c4 p_c5 p_k p_k_ta p_k_ag p_k_nw p_k_oa p_k_aa p_k_pa p_k_fe p_k_cl p_k_wo p_k_si p_k_we p_k_c1 p_k_c2 p_k_c3 p_k_c4 p_k_c5 p_xm p_m_a p_m_im hpf hpk hinT hnwT hknT n9 m_n1 Y hl tail
  · refine lv_fold (z := 46) h_1536 ?_
    exact law_46 l C0 hAe S p_xo p_w p_ta p_ag p_nw p_oa p_aa p_pa p_fe p_cl p_wo p_si p_we p_c1 p_c2 p_c3 p_c4 p_c5 p_k p_k_ta p_k_ag p_k_nw p_k_oa p_k_aa p_k_pa p_k_fe p_k_cl p_k_wo p_k_si p_k_we p_k_c1 p_k_c2 p_k_c3 p_k_c4 p_k_c5 p_xm p_m_a p_m_im hpf hpk hinT hnwT hknT n9 m_n1 m_hgi Y hl tail
  · refine lv_fold (z := 47) h_1536 ?_
    exact law_47 l C0 hAe S p_xo p_w p_fe p_cl p_wo p_si p_we p_rd p_xm p_m_a Y hl tail
  · refine lv_tableOut (tgt := 1526) hx hb dL_law_33 h_1536 (by decide) ?_
    refine lv_iinc (v := 6) (lv' := [(3, .int 6), (2, .ref xm), (1, .ref xo), (0, .ref b)]) hx hb dL_law_1526 hl (k := 0) rfl (by decide) (by decide) rfl (fun ls hl => ?_)
    refine lv_goto (tgt := 18) hx hb dL_law_1529 (by decide) ?_
    exact tail _ _ _ Y.2.2 (lv_sub hl [0, 3] rfl)
set_option maxHeartbeats 40000000 in
set_option maxRecDepth 100000 in
theorem whole_start {p : Program} {e : Env} {s : State} {m : MethodId} {below : List Frame} {meth : Method} {c : Code} (l : Launch) {b L : Nat} {xs : Nat → Int32} (hL : L ≤ 6) (C0 : lw_At p s m meth c b L xs) : W p l e room_1 s m #[Value.ref b] below meth c s.heap [] 0 0 (lw_Z below #[Value.ref b] s) (entryFrame m ([Value.ref b] : List Value).toArray 4) := by
  obtain ⟨hx, hb, hr, hml, hown, hts, hX, hbl, hlocks, hgv⟩ := id C0
  obtain ⟨G, hK, hAW⟩ := known_all hts
  obtain ⟨A, hAe⟩ : ∃ A : Nat → Prop, A = (fun q : Nat => s.heap.size ≤ q) := ⟨_, rfl⟩
  have hbA : ¬ A b := by rw [hAe]; exact Nat.not_le.mpr hbl
  have hA : ∀ q : Nat, s.heap.size ≤ q → A q := fun q h => by rw [hAe]; exact h
  have S : SX G A p s m meth c RL code 4 ret := ⟨hx, hb, hml, hown, hr, hlocks, hAW, hK, hA⟩
  obtain ⟨f00, -⟩ : ∃ z : HF, True := ⟨fun _ => .inr (0, []), trivial⟩
  have Y : DY G A s [] [] f00 s.heap [] := ⟨fun k q h => by simp [va_pl] at h, ⟨fun i j p q h => by simp [va_pl] at h, fun k q h => by simp [va_pl] at h⟩, va_S.rf⟩
  have hl := lv_entry ([.ref b]) (n := 4) (Nat.le_of_ble_eq_true rfl)
  rw [lg_entry_eq]
  generalize (lg_sl ([.ref b]) ++ List.replicate (4 - (lg_sl ([.ref b])).length) Slot.unset).toArray = ls at hl ⊢
  have hl : lv_has ls 4 [(0, .ref b)] := hl
  refine pg_new S Y ok_X11 kcL_7 kn11 ki11 (fs := [.null, .null, .null, .null, .null, .null, .null, .null, .null]) (by decide) (by decide) (by decide) dL_law_0 (fun xo f_1532 H nxo ef_1532 Y => ?_)
  have p_xo := pt.new (L := []) ef_1532
  refine lv_dup hx hb dL_law_3 rfl ?_
  refine cIv (b := xo) (As := []) (rest := [.ref xo]) S Y (c_X11_init (l := l) p_xo) cw_X11_init kmL_9 rfl ⟨Nat.le_of_ble_eq_true rfl, Nat.le_of_ble_eq_true rfl⟩ hl.1 rfl (Nat.le_of_ble_eq_true rfl) ⟨Nat.le_of_ble_eq_true rfl, Nat.le_of_ble_eq_true rfl⟩ dL_law_4 (fun Lx fx H locs hpost Y => ?_)
  refine ob_X11 hpost (fun w ta ag sc nw pa fe cl wo si we oa aa c1 c2 c3 c4 c5 s0 dg nu lf lt cs sf pf k k_ta k_ag k_sc k_nw k_pa k_fe k_cl k_wo k_si k_we k_oa k_aa k_c1 k_c2 k_c3 k_c4 k_c5 k_s0 k_dg k_nu k_lf k_lt k_cs k_sf k_pf sl slo sla rd tp ki pl va jd jst rg dd mo fo su ch pr kn LT hkp p_xo p_w p_ta p_ag p_sc p_nw p_oa p_aa p_pa p_fe p_cl p_wo p_si p_we p_c1 p_c2 p_c3 p_c4 p_c5 p_s0 p_lf p_lt p_k p_k_ta p_k_ag p_k_sc p_k_nw p_k_oa p_k_aa p_k_pa p_k_fe p_k_cl p_k_wo p_k_si p_k_we p_k_c1 p_k_c2 p_k_c3 p_k_c4 p_k_c5 p_k_s0 p_k_lf p_k_lt p_sl p_slo p_sla p_rd p_tp p_ki p_pl p_va p_jd p_rg p_dd p_fo p_ch n1 n4 hsf hpf hpk n5 n6 n7 n8 hinT hnwT hknT n9 => ?_)
  refine lv_astore_n (lv' := [(1, .ref xo), (0, .ref b)]) hx hb dL_law_7 rfl hl (by decide) rfl (fun ls hl => ?_)
  have Y := DY.lift (f0 := f00) Y
  refine pg_new S Y ok_X12 kcL_10 kn12 ki12 (fs := [.null, .null, .null, .null, .int 0, .int 0, .int 0, .int 0, .int 0, .int 0, .int 0, .long 0, .int 0, .int 0, .int 0, .null, .null, .int 0, .int 0, .int 0, .int 0, .int 0, .null, .null, .null, .int 0, .null, .null, .null, .null, .int 0, .null]) (by decide) (by decide) (by decide) dL_law_8 (fun xm f_1534 H nxm ef_1534 Y => ?_)
  have p_xm := pt.new (L := []) ef_1534
  refine lv_dup hx hb dL_law_11 rfl ?_
  refine cIv (b := xm) (As := []) (rest := [.ref xm]) S Y (c_X12_init (l := l) p_xm) cw_X12_init kmL_12 rfl ⟨Nat.le_of_ble_eq_true rfl, Nat.le_of_ble_eq_true rfl⟩ hl.1 rfl (Nat.le_of_ble_eq_true rfl) ⟨Nat.le_of_ble_eq_true rfl, Nat.le_of_ble_eq_true rfl⟩ dL_law_12 (fun Lm fm H locs hpost Y => ?_)
  refine ob_X12 hpost (fun m_a m_im m_te m_tp m_pi m_co m_na m_vl m_tr m_ac m_as_ m_su m_wi_ m_se m_gi hkp p_xm p_m_a p_m_im p_m_te p_m_tp p_m_ac p_m_as_ p_m_se m_n1 m_hgi => ?_)
  refine lv_astore_n (lv' := [(2, .ref xm), (1, .ref xo), (0, .ref b)]) hx hb dL_law_15 rfl hl (by decide) rfl (fun ls hl => ?_)
  refine W.widen (k := 1000) (n := 60000) (by decide) (by decide) ?_
  refine lv_iconst (v := 0) hx hb dL_law_16 (by decide) ?_
  refine lv_istore_n (lv' := [(3, .int 0), (2, .ref xm), (1, .ref xo), (0, .ref b)]) hx hb dL_law_17 rfl hl (by decide) rfl (fun ls hl => ?_)
  by_cases h6 : L = 6
  · subst h6
    exact law_six l C0 hAe S p_xo p_w p_ta p_ag p_sc p_nw p_oa p_aa p_pa p_fe p_cl p_wo p_si p_we p_c1 p_c2 p_c3 p_c4 p_c5 p_s0 p_lf p_lt p_k p_k_ta p_k_ag p_k_nw p_k_oa p_k_aa p_k_pa p_k_fe p_k_cl p_k_wo p_k_si p_k_we p_k_c1 p_k_c2 p_k_c3 p_k_c4 p_k_c5 p_sl p_slo p_sla p_rd p_tp p_ki p_pl p_va p_rg p_dd p_fo p_ch p_xm p_m_a p_m_im p_m_te p_m_tp p_m_as_ p_m_se n1 n4 hsf hpf hpk n5 n6 n7 n8 hinT hnwT hknT n9 m_n1 m_hgi Y hl
  · exact law_low l C0 hAe S Y hl hL h6
