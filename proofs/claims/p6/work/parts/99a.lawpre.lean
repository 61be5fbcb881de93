theorem kn11 : inW (Cond.instantiable RX11 9) := ⟨List.mem_of_getElem? (i := 146) (by decide +kernel), by decide +kernel⟩
theorem kn12 : inW (Cond.instantiable RX12 32) := ⟨List.mem_of_getElem? (i := 1490) (by decide +kernel), by decide +kernel⟩
/-! THE CLAIM OUT OF ONE WALK OF THE LAW'S BODY. Your part is whole_start (and what it stands on); all else here is the same for every law, but numbers. -/
def R_law : String := "KneeOathsLaw"
def lw_P (b : Addr) (xs : List Int32) (args : Array Value) (s : State) : Prop := args = #[.ref b] ∧ s.IntsAt b xs ∧ xs.length ≤ 3072 ∧ (Jvm.Cond.and given_1 narrow_1).before args s = true
def lw_Q (_ : Array Value) (s : State) (o : Outcome) (t : State) : Prop := o = .returned (some (.int 1)) ∧ Framed s o t [] 600000 7302250
def lw_Z (below : List Frame) (a : Array Value) (s : State) : State → Prop := fun t => ∃ o, t.status = .running ∧ Ended t below o ∧ lw_Q a s o t
/-- the law's own end, with 1 on the stack, nothing written that was there before, its room as the claim has it -/
theorem lw_ret {p : Program} {l : Launch} {e : Env} {s : State} {m : MethodId} {below : List Frame} {meth : Method} {c : Code} {b : Nat} (hx : p.tables.exec = Jvm.exec) (hb : c.code = code) (hr : meth.sig.returnType = ret) (hlocks : meth.locks = false) {pc : Nat} {H : Heap} {ls : Array Slot} (hdg : decode code pc = .ok (.ireturn, 1)) : W p l e room_1 s m #[Value.ref b] below meth c H [] 600000 7302250 (lw_Z below #[Value.ref b] s) (F0 m pc ls [.int 1]) := by
  intro T hT X
  obtain ⟨fs, hret, hrun, hended, hW, hframe⟩ := X.leave (v := some (.int 1)) (hlocks := hlocks) (fun h => by rw [hr] at h; cases h)
  have hmeth' : T.vm.method? m = some meth := X.method'
  refine ⟨T.setFrames fs, ?_, .returned (some (.int 1)), hrun, hended, rfl, ⟨_, rfl⟩, hW, hframe⟩
  jvm_step X.here [X.here.top, hx, hb, hdg, hmeth', hr, ret, narrow_b1]
  (try refine ⟨rfl, ?_⟩); (try refine ⟨rfl, ?_⟩)
  first | (intro acts; rw [hret _ acts rfl rfl rfl]) | rw [hret _ _ rfl rfl rfl]
  exact Steps.refl _
/-- what holds at the law's entry: the machine, the code, the tables' words (any of lw_tbl by 'hts w (by decide +kernel)'), the script of L ints xs at the cell b, what the Statement gives of the start (any of its parts by flat_of_before) -/
def lw_At (p : Program) (s : State) (m : MethodId) (meth : Method) (c : Code) (b L : Nat) (xs : Nat → Int32) : Prop :=
  p.tables.exec = Jvm.exec ∧ c.code = code ∧ meth.sig.returnType = ret ∧ c.maxLocals = 4 ∧ s.vm.findClass R_law = some m.cls ∧ (∀ w ∈ lw_tbl, w.before #[Value.ref b] s = true) ∧ va_X b L xs s s.heap ∧ b < s.heap.size ∧ meth.locks = false ∧ (Jvm.Cond.and given_1 narrow_1).before #[Value.ref b] s = true

abbrev cL_law : ByteArray := code
def RL : String := "KneeOathsLaw"
theorem aw_of {s : State} {args : Array Value} {w : Cond} (hg : gw w = true) (h : w.before args s = true) (a : Array Value) : w.before a s = true := by
  cases w <;> first | exact va_Nw.use rfl (va_Nw.of (w := Cond.fieldLinkNest _ _ _ _ _ _) rfl h) | exact va_Nw.use rfl (va_Nw.of (w := Cond.methodLinkNest _ _ _ _) rfl h) | exact word_at (State.WarmedH.refl s) (good_of_word hg) h
theorem DY.lift {G : GG} {A : Nat → Prop} {s : State} {L : List Nat} {f f0 : HF} {H : Heap} {locs : List Loc} (Y : DY G A s [] L f H locs) : DY G A s (va_pl L f) [] f0 H locs := by
  obtain ⟨h1, h2, h3⟩ := Y
  refine ⟨?_, ?_, h3⟩
  · show va_P G.1 CL (va_pl L f ++ []) H
    rw [List.append_nil]; exact h1
  · show va_D A (va_pl L f ++ [])
    rw [List.append_nil]; exact h2
/-- the classes and the rows' classes as the tables have them -/
theorem known_all {s : State} {args : Array Value} (hts : ∀ w ∈ lw_tbl, w.before args s = true) : ∃ G : GG, va_K G.1 CL (tyk G) s ∧ AW s := by
  obtain ⟨c0, i0, k0⟩ := u_known (C := RX0) (T := TX0) (N := 3) (n := 3) hts (show ∀ w ∈ u_ws RX0 TX0 3, w ∈ lw_tbl from fun w h => (ok_X0.2.1 w h).1) (hts (.instantiable RX0 3) (kn0).1)
  obtain ⟨c1, i1, k1⟩ := u_known (C := RX1) (T := TX1) (N := 5) (n := 5) hts (show ∀ w ∈ u_ws RX1 TX1 5, w ∈ lw_tbl from fun w h => (ok_X1.2.1 w h).1) (hts (.instantiable RX1 5) (kn1).1)
  obtain ⟨c2, i2, k2⟩ := u_known (C := RX2) (T := TX2) (N := 4) (n := 4) hts (show ∀ w ∈ u_ws RX2 TX2 4, w ∈ lw_tbl from fun w h => (ok_X2.2.1 w h).1) (hts (.instantiable RX2 4) (kn2).1)
  obtain ⟨c3, i3, k3⟩ := u_known (C := RX3) (T := TX3) (N := 3) (n := 3) hts (show ∀ w ∈ u_ws RX3 TX3 3, w ∈ lw_tbl from fun w h => (ok_X3.2.1 w h).1) (hts (.instantiable RX3 3) (kn3).1)
  obtain ⟨c4, i4, k4⟩ := u_known (C := RX4) (T := TX4) (N := 7) (n := 7) hts (show ∀ w ∈ u_ws RX4 TX4 7, w ∈ lw_tbl from fun w h => (ok_X4.2.1 w h).1) (hts (.instantiable RX4 7) (kn4).1)
  obtain ⟨c5, i5, k5⟩ := u_known (C := RX5) (T := TX5) (N := 14) (n := 14) hts (show ∀ w ∈ u_ws RX5 TX5 14, w ∈ lw_tbl from fun w h => (ok_X5.2.1 w h).1) (hts (.instantiable RX5 14) (kn5).1)
  obtain ⟨c6, i6, k6⟩ := u_known (C := RX6) (T := TX6) (N := 2) (n := 2) hts (show ∀ w ∈ u_ws RX6 TX6 2, w ∈ lw_tbl from fun w h => (ok_X6.2.1 w h).1) (hts (.instantiable RX6 2) (kn6).1)
  obtain ⟨c7, i7, k7⟩ := u_known (C := RX7) (T := TX7) (N := 7) (n := 7) hts (show ∀ w ∈ u_ws RX7 TX7 7, w ∈ lw_tbl from fun w h => (ok_X7.2.1 w h).1) (hts (.instantiable RX7 7) (kn7).1)
  obtain ⟨c8, i8, k8⟩ := u_known (C := RX8) (T := TX8) (N := 10) (n := 10) hts (show ∀ w ∈ u_ws RX8 TX8 10, w ∈ lw_tbl from fun w h => (ok_X8.2.1 w h).1) (hts (.instantiable RX8 10) (kn8).1)
  obtain ⟨c9, i9, k9⟩ := u_known (C := RX9) (T := TX9) (N := 3) (n := 3) hts (show ∀ w ∈ u_ws RX9 TX9 3, w ∈ lw_tbl from fun w h => (ok_X9.2.1 w h).1) (hts (.instantiable RX9 3) (kn9).1)
  obtain ⟨c10, i10, k10⟩ := u_known (C := RX10) (T := TX10) (N := 15) (n := 15) hts (show ∀ w ∈ u_ws RX10 TX10 15, w ∈ lw_tbl from fun w h => (ok_X10.2.1 w h).1) (hts (.instantiable RX10 15) (kn10).1)
  obtain ⟨c11, i11, k11⟩ := u_known (C := RX11) (T := TX11) (N := 9) (n := 9) hts (show ∀ w ∈ u_ws RX11 TX11 9, w ∈ lw_tbl from fun w h => (ok_X11.2.1 w h).1) (hts (.instantiable RX11 9) (kn11).1)
  obtain ⟨c12, i12, k12⟩ := u_known (C := RX12) (T := TX12) (N := 32) (n := 32) hts (show ∀ w ∈ u_ws RX12 TX12 32, w ∈ lw_tbl from fun w h => (ok_X12.2.1 w h).1) (hts (.instantiable RX12 32) (kn12).1)
  obtain ⟨a0, ka0, m0, e0, f0, g0⟩ := Cond.arrayClass_spec (type := .int) (hts _ ka_int.1)
  obtain ⟨a1, ka1, m1, e1, f1, g1⟩ := Cond.arrayClass_spec (type := .long) (hts _ ka_long.1)
  obtain ⟨a2, ka2, m2, e2, f2, g2⟩ := Cond.arrayClass_spec (type := .boolean) (hts _ ka_boolean.1)
  have o3 : (Cond.arrayOver (.object "KneeOaths$Ledger")).before args s = true := hts _ (List.mem_of_getElem? (i := 208) (by decide +kernel))
  have o4 : (Cond.arrayOver (.object "KneeOaths$Script")).before args s = true := hts _ (List.mem_of_getElem? (i := 205) (by decide +kernel))
  obtain ⟨m3, a3, ka3, d3, x3, f3, g3, e3⟩ := Cond.arrayOver_spec o3
  obtain ⟨m4, a4, ka4, d4, x4, f4, g4, e4⟩ := Cond.arrayOver_spec o4
  refine ⟨((fun k => [c0, c1, c2, c3, c4, c5, c6, c7, c8, c9, c10, c11, c12].getD k c0, fun k => [i0, i1, i2, i3, i4, i5, i6, i7, i8, i9, i10, i11, i12].getD k i0), fun k => [a0, a1, a2, a3, a4].getD k a0), ⟨?_, ?_⟩, ?_⟩
  · intro k q hq
    match k, hq with
    | 0, hq => cases hq; exact k0
    | 1, hq => cases hq; exact k1
    | 2, hq => cases hq; exact k2
    | 3, hq => cases hq; exact k3
    | 4, hq => cases hq; exact k4
    | 5, hq => cases hq; exact k5
    | 6, hq => cases hq; exact k6
    | 7, hq => cases hq; exact k7
    | 8, hq => cases hq; exact k8
    | 9, hq => cases hq; exact k9
    | 10, hq => cases hq; exact k10
    | 11, hq => cases hq; exact k11
    | 12, hq => cases hq; exact k12
    | k + 13, hq => simp [CL] at hq
  · intro k q hq
    match k, hq with
    | 0, hq => cases hq; exact ⟨fun n z => ⟨fun k h => (by cases h), ka0, f0, m0, g0⟩, e0⟩
    | 1, hq => cases hq; exact ⟨fun n z => ⟨fun k h => (by cases h), ka1, f1, m1, g1⟩, e1⟩
    | 2, hq => cases hq; exact ⟨fun n z => ⟨fun k h => (by cases h), ka2, f2, m2, g2⟩, e2⟩
    | 3, hq => cases hq; exact ⟨fun n z => ⟨fun k h => (by cases h), ka3, f3, m3, g3⟩, ka3, m3, f3, g3, d3, e3⟩
    | 4, hq => cases hq; exact ⟨fun n z => ⟨fun k h => (by cases h), ka4, f4, m4, g4⟩, ka4, m4, f4, g4, d4, e4⟩
    | k + 5, hq => simp [tyk] at hq
  · exact ⟨fun a w hw => aw_of hw.2 (hts w hw.1) a, va_AO.of o3, va_AO.of o4⟩
