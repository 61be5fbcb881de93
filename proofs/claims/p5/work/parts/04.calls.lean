theorem va_P_right {D : va_G} {cl : List vw_C} {X W0 : va_W} {H : Heap} (h : va_P D cl (X ++ W0) H) : va_P D cl W0 H := fun k q hk => h (X.length + k) q (by rw [List.getElem?_append_right (by omega), Nat.add_sub_cancel_left]; exact hk)
theorem va_P_left {D : va_G} {cl : List vw_C} {X W0 : va_W} {H : Heap} (h : va_P D cl (X ++ W0) H) : va_P D cl X H := fun k q hk => h k q (by rw [List.getElem?_append_left (List.getElem?_eq_some_iff.mp hk).1]; exact hk)
theorem va_D_right {A : Nat → Prop} {X W0 : va_W} (h : va_D A (X ++ W0)) : va_D A W0 := by
  have key : ∀ (k : Nat) (q : Nat × va_E), W0[k]? = some q → (X ++ W0)[X.length + k]? = some q := fun k q hk => by rw [List.getElem?_append_right (by omega), Nat.add_sub_cancel_left]; exact hk
  refine ⟨fun i j x y hi hj hxy => ?_, fun k q hk => h.2 _ q (key k q hk)⟩
  have := h.1 _ _ x y (key i x hi) (key j y hj) hxy
  omega
theorem va_D_left {A : Nat → Prop} {X W0 : va_W} (h : va_D A (X ++ W0)) : va_D A X := by
  have key : ∀ (k : Nat) (q : Nat × va_E), X[k]? = some q → (X ++ W0)[k]? = some q := fun k q hk => by rw [List.getElem?_append_left (List.getElem?_eq_some_iff.mp hk).1]; exact hk
  exact ⟨fun i j x y hi hj hxy => h.1 _ _ x y (key i x hi) (key j y hj) hxy, fun k q hk => h.2 _ q (key k q hk)⟩
theorem joinX {A : Nat → Prop} {D : va_G} {cl : List vw_C} {X W0 W1 : va_W} {H H1 : Heap} (hP : va_P D cl (X ++ W0) H) (hD : va_D A (X ++ W0)) (hk : ∀ q : Nat, q < H.size → ¬ va_A W0 H.size q → H1[q]? = H[q]?) (hF : ∀ q, va_A W0 H.size q → A q) (hP1 : va_P D cl W1 H1) (hD1 : va_D (va_A W0 H.size) W1) : va_P D cl (X ++ W1) H1 ∧ va_D A (X ++ W1) := by
  have apart : ∀ (k : Nat) (q : Nat × va_E), X[k]? = some q → q.1 < H.size ∧ ¬ va_A W0 H.size q.1 := by
    intro k q hq
    have hkX := (List.getElem?_eq_some_iff.mp hq).1
    have hl := (va_P_left hP k q hq).lt
    refine ⟨hl, fun h => ?_⟩
    rcases h with ⟨k2, e, h⟩ | h
    · have h1 : (X ++ W0)[k]? = some q := by rw [List.getElem?_append_left hkX]; exact hq
      have h2 : (X ++ W0)[X.length + k2]? = some (q.1, e) := by rw [List.getElem?_append_right (by omega), Nat.add_sub_cancel_left]; exact h
      have := hD.1 _ _ _ _ h1 h2 rfl
      omega
    · omega
  refine ⟨va_P.app (fun k q hq => ?_) hP1, va_D.app (va_D_left hD) (hD1.weaken (fun k q _ h => hF q.1 h)) (fun i j x y hx hy hxy => ?_)⟩
  · obtain ⟨g1, g2⟩ := apart k q hq
    exact (va_P_left hP k q hq).kept (hk q.1 g1 g2)
  · exact (apart i x hx).2 (by rw [hxy]; exact hD1.2 j y hy)
def CW (y : MethodName) (bytes : ByteArray) (maxL : Nat) (ret : Option FieldType) (n : Nat) : Prop := inW (.initialized y.cls) ∧ inW (.code y bytes maxL ret) ∧ (y.cls ≠ "java/lang/invoke/MethodHandle" ∧ y.cls ≠ "java/lang/invoke/VarHandle" ∧ (parseMethodDescriptor y.desc).map (fun d => d.parameters.length) = some n)
def CWv (y : MethodName) (bytes : ByteArray) (maxL : Nat) (ret : Option FieldType) (n : Nat) : Prop := CW y bytes maxL ret n ∧ inW (.instanceMethod y) ∧ inW (.selects y.cls y y)
def CWs (y : MethodName) (bytes : ByteArray) (maxL : Nat) (ret : Option FieldType) (n : Nat) : Prop := CW y bytes maxL ret n ∧ inW (.static y)
def CWi (y : MethodName) (bytes : ByteArray) (maxL : Nat) (n : Nat) : Prop := CW y bytes maxL none n ∧ inW (.instanceMethod y) ∧ y.name = "<init>"
theorem blind (G : GG) (sz : Nat) (L : List Nat) (f : HF) (av : List Value) : FrameBlind (va_Pc av (pIn G sz L f)) := fun a U g mk q => by
  obtain ⟨q0, q1, qP, qK, qD, qW⟩ := q
  exact ⟨q0, q1, qP, va_K.moved (u := U) (U := U.calling g mk a) (Vm.Alike.refl U.vm) qK, qD, AW.moved (s := U) (U := U.calling g mk a) qW (State.WarmedH.refl U)⟩
section RUN
variable {p : Program} {l : Launch} {e : Env} {R : Room} {s : State} {m : MethodId} {args : Array Value} {below : List Frame} {meth : Method} {c : Code} {H : Heap} {locs : List Loc} {cells slots : Nat} {Q : State → Prop}
variable {G : GG} {A : Nat → Prop} {own : String} {cc : ByteArray} {nL : Nat} {rt : Option FieldType} {X : va_W} {L : List Nat} {f : HF} {pc : Nat} {ls : Array Slot} {rest st0 As : List Value} {b index : Nat}
variable {y : MethodName} {bytes : ByteArray} {maxL n d mc ms : Nat} {ret : Option FieldType} {Qc : Nat → Array Value → State → Outcome → State → Prop}
theorem pre_of (S : SX G A p s m meth c own cc nL rt) (Y : DY G A s X L f H locs) (av : List Value) : ∀ U : State, U.heap = H → s.WarmedH U.vm → va_Pc av (pIn G H.size L f) av.toArray U := by
  intro U hU hW
  obtain ⟨hx, hb, hml, hown, hr, hlo, hw, hK, hA⟩ := S
  obtain ⟨hP, hD, hS⟩ := Y
  exact ⟨rfl, by rw [hU], by rw [hU]; exact va_P_right hP, va_K.moved hW.alike hK, (va_D_right hD).weaken (fun _ _ _ _ => trivial), hw.moved hW⟩
theorem good1 : GoodIn [Cond.code y bytes maxL ret] [Cond.code y bytes maxL ret] := fun w h => ⟨h, by rw [List.mem_singleton.mp h]; exact good_of_word rfl⟩
theorem hts1 (S : SX G A p s m meth c own cc nL rt) (h : inW (.code y bytes maxL ret)) : ∀ w ∈ [Cond.code y bytes maxL ret], w.before args s = true := fun w hw => by rw [List.mem_singleton.mp hw]; exact S.w h
theorem rnV (S : SX G A p s m meth c own cc nL rt) (Y : DY G A s X L f H locs) (hM : ∀ sz : Nat, Met l y [.code y bytes maxL ret] (rmD d mc ms) (va_Pc (.ref b :: As) (pIn G sz L f)) (Qc sz) mc ms (va_A (va_pl L f) sz)) (cw : CWv y bytes maxL ret n) (hl : inW (.methodLink own index y)) {ci : Nat} {fs : List Value} {q : vw_C} (hb : pt L f b (.inr (ci, fs))) (hcl : CL[ci]? = some q) (hq : q.1 = y.cls) (hn : As.length = n) (hR : d + 1 ≤ R.frames ∧ 8 + (maxL + 11) + 64 * d ≤ R.locals) (hls : ls.size = nL) (hst : st0 = As.reverse ++ .ref b :: rest) (hrest : (rest.map fun v => v.category).sum ≤ 8) (hf : cells + mc ≤ R.cells ∧ slots + ms ≤ R.slots) (hdg : decode cc pc = .ok (.invokevirtual index, 3)) :
    va_Run p l e R s m args below meth c H locs cells slots mc ms (F0 m pc ls st0) rest (Qc H.size (Value.ref b :: As).toArray) (va_A (va_pl L f) H.size) := by
  obtain ⟨⟨w1, w2, w3⟩, w4, w5⟩ := cw
  have hrecv : ∃ cell : Cell, H[b]? = some cell ∧ cell.vm.isStatics = false ∧ s.vm.findClass y.cls = some cell.cls := by
    obtain ⟨k, hk⟩ := va_pl_get (X := X) (f := f) hb.1
    rw [hb.2] at hk
    rw [← hq]
    exact va_recv S.2.2.2.2.2.2.2.1 Y.1 hcl hk
  exact va_runV (own := own) ⟨S.hx, S.hb, S.ml, S.ow, hts1 S w2⟩ (hM H.size) ⟨callB_of n (hts1 S w2) good1 rfl rfl rfl (S.w w1) (S.w hl) w3 hR, S.w w4, S.w w5⟩ ⟨blind G _ L f _, hrecv, pre_of S Y _⟩ rfl hn hls hst (lv_room (m := m) (pc := pc) (ls := ls) (rest := st0) hrest) hdg hf
theorem rnS (S : SX G A p s m meth c own cc nL rt) (Y : DY G A s X L f H locs) (hM : ∀ sz : Nat, Met l y [.code y bytes maxL ret] (rmD d mc ms) (va_Pc As (pIn G sz L f)) (Qc sz) mc ms (va_A (va_pl L f) sz)) (cw : CWs y bytes maxL ret n) (hl : inW (.methodLink own index y)) (hn : As.length = n) (hR : d + 1 ≤ R.frames ∧ 8 + (maxL + 11) + 64 * d ≤ R.locals) (hls : ls.size = nL) (hst : st0 = As.reverse ++ rest) (hrest : (rest.map fun v => v.category).sum ≤ 8) (hf : cells + mc ≤ R.cells ∧ slots + ms ≤ R.slots) (hdg : decode cc pc = .ok (.invokestatic index, 3)) :
    va_Run p l e R s m args below meth c H locs cells slots mc ms (F0 m pc ls st0) rest (Qc H.size As.toArray) (va_A (va_pl L f) H.size) := by
  obtain ⟨⟨w1, w2, w3⟩, w4⟩ := cw
  exact va_runS (own := own) ⟨S.hx, S.hb, S.ml, S.ow, hts1 S w2⟩ (hM H.size) ⟨callB_of n (hts1 S w2) good1 rfl rfl rfl (S.w w1) (S.w hl) w3 hR, S.w w4⟩ ⟨blind G _ L f _, pre_of S Y _⟩ rfl hn hls hst (lv_room (m := m) (pc := pc) (ls := ls) (rest := st0) hrest) hdg hf
theorem rnSN (S : SX G A p s m meth c own cc nL rt) (Y : DY G A s X L f H locs) (hM : ∀ sz : Nat, Met l y [.code y bytes maxL ret] (rmD d mc ms) (va_Pc As (pIn G sz L f)) (Qc sz) mc ms (va_A (va_pl L f) sz)) (cw : CWs y bytes maxL ret n) {host : String} (hl : inW (.methodLinkNest own index y host)) (hn : As.length = n) (hR : d + 1 ≤ R.frames ∧ 8 + (maxL + 11) + 64 * d ≤ R.locals) (hls : ls.size = nL) (hst : st0 = As.reverse ++ rest) (hrest : (rest.map fun v => v.category).sum ≤ 8) (hf : cells + mc ≤ R.cells ∧ slots + ms ≤ R.slots) (hdg : decode cc pc = .ok (.invokestatic index, 3)) :
    va_Run p l e R s m args below meth c H locs cells slots mc ms (F0 m pc ls st0) rest (Qc H.size As.toArray) (va_A (va_pl L f) H.size) := by
  obtain ⟨⟨w1, w2, w3⟩, w4⟩ := cw
  exact va_runSN (own := own) ⟨S.hx, S.hb, S.ml, S.ow, hts1 S w2⟩ (hM H.size) ⟨va_cnB n (hts1 (args := args) S w2) good1 rfl rfl rfl (S.w hl) (S.w w1) w3 hR, S.w w4, trivial⟩ ⟨blind G _ L f _, pre_of S Y _⟩ rfl hn hls hst (lv_room (m := m) (pc := pc) (ls := ls) (rest := st0) hrest) hdg hf
theorem rnI (S : SX G A p s m meth c own cc nL rt) (Y : DY G A s X L f H locs) (hM : ∀ sz : Nat, Met l y [.code y bytes maxL none] (rmD d mc ms) (va_Pc (.ref b :: As) (pIn G sz L f)) (Qc sz) mc ms (va_A (va_pl L f) sz)) (cw : CWi y bytes maxL n) (hl : inW (.methodLink own index y)) (hn : As.length = n) (hR : d + 1 ≤ R.frames ∧ 8 + (maxL + 11) + 64 * d ≤ R.locals) (hls : ls.size = nL) (hst : st0 = As.reverse ++ .ref b :: rest) (hrest : (rest.map fun v => v.category).sum ≤ 8) (hf : cells + mc ≤ R.cells ∧ slots + ms ≤ R.slots) (hdg : decode cc pc = .ok (.invokespecial index, 3)) :
    va_Run p l e R s m args below meth c H locs cells slots mc ms (F0 m pc ls st0) rest (Qc H.size (Value.ref b :: As).toArray) (va_A (va_pl L f) H.size) := by
  obtain ⟨⟨w1, w2, w3⟩, w4, w5⟩ := cw
  exact va_runI (own := own) ⟨S.hx, S.hb, S.ml, S.ow, hts1 S w2⟩ (hM H.size) ⟨callB_of n (hts1 S w2) good1 rfl rfl rfl (S.w w1) (S.w hl) w3 hR, w5, S.w w4⟩ ⟨blind G _ L f _, pre_of S Y _⟩ rfl hn hls hst (lv_room (m := m) (pc := pc) (ls := ls) (rest := st0) hrest) hdg hf
theorem rnIN (S : SX G A p s m meth c own cc nL rt) (Y : DY G A s X L f H locs) (hM : ∀ sz : Nat, Met l y [.code y bytes maxL none] (rmD d mc ms) (va_Pc (.ref b :: As) (pIn G sz L f)) (Qc sz) mc ms (va_A (va_pl L f) sz)) (cw : CWi y bytes maxL n) {host : String} (hl : inW (.methodLinkNest own index y host)) (hn : As.length = n) (hR : d + 1 ≤ R.frames ∧ 8 + (maxL + 11) + 64 * d ≤ R.locals) (hls : ls.size = nL) (hst : st0 = As.reverse ++ .ref b :: rest) (hrest : (rest.map fun v => v.category).sum ≤ 8) (hf : cells + mc ≤ R.cells ∧ slots + ms ≤ R.slots) (hdg : decode cc pc = .ok (.invokespecial index, 3)) :
    va_Run p l e R s m args below meth c H locs cells slots mc ms (F0 m pc ls st0) rest (Qc H.size (Value.ref b :: As).toArray) (va_A (va_pl L f) H.size) := by
  obtain ⟨⟨w1, w2, w3⟩, w4, w5⟩ := cw
  exact va_runIN (own := own) ⟨S.hx, S.hb, S.ml, S.ow, hts1 S w2⟩ (hM H.size) ⟨va_cnB n (hts1 (args := args) S w2) good1 rfl rfl rfl (S.w hl) (S.w w1) w3 hR, w5, S.w w4⟩ ⟨blind G _ L f _, pre_of S Y _⟩ rfl hn hls hst (lv_room (m := m) (pc := pc) (ls := ls) (rest := st0) hrest) hdg hf
theorem free_of (S : SX G A p s m meth c own cc nL rt) (Y : DY G A s X L f H locs) : ∀ q, va_A (va_pl L f) H.size q → A q := by
  intro q h
  rcases h with ⟨k, e, h⟩ | h
  · exact (va_D_right Y.2.1).2 k (q, e) h
  · exact S.2.2.2.2.2.2.2.2 q (Nat.le_trans Y.2.2.1 h)
theorem DY.after (S : SX G A p s m meth c own cc nL rt) (Y : DY G A s X L f H locs) {L1 : List Nat} {f1 : HF} {t : State} {H1 : Heap} {locs1 : List Loc} (ht : t.heap = H1) (hB : pOut G (va_A (va_pl L f) H.size) L1 f1 t) (hk : ∀ q : Nat, q < H.size → ¬ va_A (va_pl L f) H.size q → H1[q]? = H[q]?) (hS1 : va_S A s.heap H1 locs1) : DY G A s X L1 f1 H1 locs1 := by
  obtain ⟨h1, h2⟩ := hB
  rw [ht] at h1
  obtain ⟨j1, j2⟩ := joinX Y.1 Y.2.1 hk (free_of S Y) h1 h2
  exact ⟨j1, j2, hS1⟩
theorem pci {post : Int32 → List Nat → HF → Prop} {av : Array Value} (hr : va_Run p l e R s m args below meth c H locs cells slots mc ms (F0 m pc ls st0) rest (va_Qi (fun r (u : List Nat × HF) => post r u.1 u.2) (fun u t => pOut G (va_A (va_pl L f) H.size) u.1 u.2 t) (va_A (va_pl L f) H.size) av) (va_A (va_pl L f) H.size)) (S : SX G A p s m meth c own cc nL rt) (Y : DY G A s X L f H locs)
    (kk : ∀ (r : Int32) (L1 : List Nat) (f1 : HF) (H1 : Heap) (locs1 : List Loc), post r L1 f1 → DY G A s X L1 f1 H1 locs1 → W p l e R s m args below meth c H1 locs1 (cells + mc) (slots + ms) Q (F0 m (pc + 3) ls (.int r :: rest))) : W p l e R s m args below meth c H locs cells slots Q (F0 m pc ls st0) :=
  va_calli hr Y.2.2 (fun q _ h => free_of S Y q h) (free_of S Y) (fun r u t H1 locs1 ht _ hp hB _ hk hS1 => kk r u.1 u.2 H1 locs1 hp (Y.after S ht hB hk hS1))
theorem pciP {φ : Int32 → Prop} {av : Array Value} (hr : va_Run p l e R s m args below meth c H locs cells slots mc ms (F0 m pc ls st0) rest (va_Qi (fun r (u : List Nat × HF) => φ r ∧ u.1 = L ∧ u.2 = f) (fun u t => pOut G (va_A (va_pl L f) H.size) u.1 u.2 t) (va_A (va_pl L f) H.size) av) (va_A (va_pl L f) H.size)) (S : SX G A p s m meth c own cc nL rt) (Y : DY G A s X L f H locs)
    (kk : ∀ (r : Int32) (H1 : Heap) (locs1 : List Loc), φ r → DY G A s X L f H1 locs1 → W p l e R s m args below meth c H1 locs1 (cells + mc) (slots + ms) Q (F0 m (pc + 3) ls (.int r :: rest))) : W p l e R s m args below meth c H locs cells slots Q (F0 m pc ls st0) :=
  va_calli hr Y.2.2 (fun q _ h => free_of S Y q h) (free_of S Y) (fun r u t H1 locs1 ht _ hp hB _ hk hS1 => kk r H1 locs1 hp.1 (by
    have h := Y.after S ht hB hk hS1
    rw [hp.2.1, hp.2.2] at h
    exact h))
theorem pcl {post : Int64 → List Nat → HF → Prop} {av : Array Value} (hr : va_Run p l e R s m args below meth c H locs cells slots mc ms (F0 m pc ls st0) rest (va_Ql (fun r (u : List Nat × HF) => post r u.1 u.2) (fun u t => pOut G (va_A (va_pl L f) H.size) u.1 u.2 t) (va_A (va_pl L f) H.size) av) (va_A (va_pl L f) H.size)) (S : SX G A p s m meth c own cc nL rt) (Y : DY G A s X L f H locs)
    (kk : ∀ (r : Int64) (L1 : List Nat) (f1 : HF) (H1 : Heap) (locs1 : List Loc), post r L1 f1 → DY G A s X L1 f1 H1 locs1 → W p l e R s m args below meth c H1 locs1 (cells + mc) (slots + ms) Q (F0 m (pc + 3) ls (.long r :: rest))) : W p l e R s m args below meth c H locs cells slots Q (F0 m pc ls st0) :=
  va_calll hr Y.2.2 (fun q _ h => free_of S Y q h) (free_of S Y) (fun r u t H1 locs1 ht _ hp hB _ hk hS1 => kk r u.1 u.2 H1 locs1 hp (Y.after S ht hB hk hS1))
theorem pcv {post : List Nat → HF → Prop} {av : Array Value} (hr : va_Run p l e R s m args below meth c H locs cells slots mc ms (F0 m pc ls st0) rest (va_Qv (fun (u : List Nat × HF) => post u.1 u.2) (fun u t => pOut G (va_A (va_pl L f) H.size) u.1 u.2 t) (va_A (va_pl L f) H.size) av) (va_A (va_pl L f) H.size)) (S : SX G A p s m meth c own cc nL rt) (Y : DY G A s X L f H locs)
    (kk : ∀ (L1 : List Nat) (f1 : HF) (H1 : Heap) (locs1 : List Loc), post L1 f1 → DY G A s X L1 f1 H1 locs1 → W p l e R s m args below meth c H1 locs1 (cells + mc) (slots + ms) Q (F0 m (pc + 3) ls rest)) : W p l e R s m args below meth c H locs cells slots Q (F0 m pc ls st0) :=
  va_callv hr Y.2.2 (fun q _ h => free_of S Y q h) (free_of S Y) (fun u t H1 locs1 ht _ hp hB _ hk hS1 => kk u.1 u.2 H1 locs1 hp (Y.after S ht hB hk hS1))
theorem pcq {post : Option Nat → List Nat → HF → Prop} {av : Array Value} (hr : va_Run p l e R s m args below meth c H locs cells slots mc ms (F0 m pc ls st0) rest (va_Qq (fun r (u : List Nat × HF) => post r u.1 u.2) (fun u t => pOut G (va_A (va_pl L f) H.size) u.1 u.2 t) (va_A (va_pl L f) H.size) av) (va_A (va_pl L f) H.size)) (S : SX G A p s m meth c own cc nL rt) (Y : DY G A s X L f H locs)
    (kk : ∀ (r : Option Nat) (L1 : List Nat) (f1 : HF) (H1 : Heap) (locs1 : List Loc), post r L1 f1 → DY G A s X L1 f1 H1 locs1 → W p l e R s m args below meth c H1 locs1 (cells + mc) (slots + ms) Q (F0 m (pc + 3) ls (va_rf r :: rest))) : W p l e R s m args below meth c H locs cells slots Q (F0 m pc ls st0) :=
  va_callq hr Y.2.2 (fun q _ h => free_of S Y q h) (free_of S Y) (fun r u t H1 locs1 ht _ hp hB _ hk hS1 => kk r u.1 u.2 H1 locs1 hp (Y.after S ht hB hk hS1))
theorem pcqP {φ : Option Nat → Prop} {av : Array Value} (hr : va_Run p l e R s m args below meth c H locs cells slots mc ms (F0 m pc ls st0) rest (va_Qq (fun r (u : List Nat × HF) => φ r ∧ u.1 = L ∧ u.2 = f) (fun u t => pOut G (va_A (va_pl L f) H.size) u.1 u.2 t) (va_A (va_pl L f) H.size) av) (va_A (va_pl L f) H.size)) (S : SX G A p s m meth c own cc nL rt) (Y : DY G A s X L f H locs)
    (kk : ∀ (r : Option Nat) (H1 : Heap) (locs1 : List Loc), φ r → DY G A s X L f H1 locs1 → W p l e R s m args below meth c H1 locs1 (cells + mc) (slots + ms) Q (F0 m (pc + 3) ls (va_rf r :: rest))) : W p l e R s m args below meth c H locs cells slots Q (F0 m pc ls st0) :=
  va_callq hr Y.2.2 (fun q _ h => free_of S Y q h) (free_of S Y) (fun r u t H1 locs1 ht _ hp hB _ hk hS1 => kk r H1 locs1 hp.1 (by
    have h := Y.after S ht hB hk hS1
    rw [hp.2.1, hp.2.2] at h
    exact h))
theorem prI {post : Int32 → List Nat → HF → Prop} {rt : FieldType} {v : Int32} {A1 : Nat → Prop} (S : SX G A p s m meth c own cc nL (some rt)) (Y : DY G A s [] L f H locs) (hn : narrow rt (.int v) = .int v) (hc : cells ≤ mc) (hs : slots ≤ ms) (hA1 : A = A1) (hp : post v L f) (hdg : decode cc pc = .ok (.ireturn, 1)) :
    W p l e R s m args below meth c H locs cells slots (MQ below (va_Qi (fun r (u : List Nat × HF) => post r u.1 u.2) (fun u t => pOut G A1 u.1 u.2 t) A1) args s mc ms A) (F0 m pc ls [.int v]) := by
  subst hA1
  obtain ⟨hx, hb, hml, hown, hr, hlo, hw, hK, hA⟩ := S
  obtain ⟨hP, hD, hS⟩ := Y
  exact W.widen hc hs (W.zret hx hb hr hn (fun t ht hW => ⟨⟨v, (L, f), rfl, hp, by rw [ht]; exact hP, hD⟩, hS.F ht⟩) hS.2.2 hdg hlo)
theorem prL {post : Int64 → List Nat → HF → Prop} {v : Int64} {A1 : Nat → Prop} (S : SX G A p s m meth c own cc nL (some .long)) (Y : DY G A s [] L f H locs) (hc : cells ≤ mc) (hs : slots ≤ ms) (hA1 : A = A1) (hp : post v L f) (hdg : decode cc pc = .ok (.lreturn, 1)) :
    W p l e R s m args below meth c H locs cells slots (MQ below (va_Ql (fun r (u : List Nat × HF) => post r u.1 u.2) (fun u t => pOut G A1 u.1 u.2 t) A1) args s mc ms A) (F0 m pc ls [.long v]) := by
  subst hA1
  obtain ⟨hx, hb, hml, hown, hr, hlo, hw, hK, hA⟩ := S
  obtain ⟨hP, hD, hS⟩ := Y
  exact W.widen hc hs (W.lret hx hb hr (fun t ht hW => ⟨⟨v, (L, f), rfl, hp, by rw [ht]; exact hP, hD⟩, hS.F ht⟩) hS.2.2 hdg hlo)
theorem prV {post : List Nat → HF → Prop} {A1 : Nat → Prop} (S : SX G A p s m meth c own cc nL none) (Y : DY G A s [] L f H locs) (hc : cells ≤ mc) (hs : slots ≤ ms) (hA1 : A = A1) (hp : post L f) (hdg : decode cc pc = .ok (.return_, 1)) :
    W p l e R s m args below meth c H locs cells slots (MQ below (va_Qv (fun (u : List Nat × HF) => post u.1 u.2) (fun u t => pOut G A1 u.1 u.2 t) A1) args s mc ms A) (F0 m pc ls []) := by
  subst hA1
  obtain ⟨hx, hb, hml, hown, hr, hlo, hw, hK, hA⟩ := S
  obtain ⟨hP, hD, hS⟩ := Y
  exact W.widen hc hs (W.vret hx hb hr (fun t ht hW => ⟨⟨(L, f), rfl, hp, by rw [ht]; exact hP, hD⟩, hS.F ht⟩) hS.2.2 hdg hlo)
theorem prQ {post : Option Nat → List Nat → HF → Prop} {C : String} {r : Option Nat} {v : Value} {A1 : Nat → Prop} (S : SX G A p s m meth c own cc nL (some (.object C))) (Y : DY G A s [] L f H locs) (hv : va_rf r = v) (hc : cells ≤ mc) (hs : slots ≤ ms) (hA1 : A = A1) (hp : post r L f) (hdg : decode cc pc = .ok (.areturn, 1)) :
    W p l e R s m args below meth c H locs cells slots (MQ below (va_Qq (fun r (u : List Nat × HF) => post r u.1 u.2) (fun u t => pOut G A1 u.1 u.2 t) A1) args s mc ms A) (F0 m pc ls [v]) := by
  subst hA1
  subst hv
  obtain ⟨hx, hb, hml, hown, hr, hlo, hw, hK, hA⟩ := S
  obtain ⟨hP, hD, hS⟩ := Y
  exact W.widen hc hs (W.aret hx hb hr (Or.inl ⟨C, rfl⟩) (va_rf_or r) (fun t ht hW => ⟨⟨r, (L, f), rfl, hp, by rw [ht]; exact hP, hD⟩, hS.F ht⟩) hS.2.2 hdg hlo)
theorem DY.swap {L2 : List Nat} {f2 : HF} (Y : DY G A s (va_pl L2 f2) L f H locs) : DY G A s (va_pl L f) L2 f2 H locs := by
  obtain ⟨hP, hD, hS⟩ := Y
  have h1 : va_P G.1 CL (([] ++ va_pl L2 f2) ++ va_pl L f) H := hP
  have h2 : va_D A (([] ++ va_pl L2 f2) ++ va_pl L f) := hD
  exact ⟨h1.swap, h2.swap, hS⟩
theorem pObj (S : SX G A p s m meth c own cc nL rt) (hl : inW (.methodLink own index objectInit)) (h2 : inW (.instanceMethod objectInit)) (h3 : inW (.code objectInit ⟨#[0xb1]⟩ 1 none)) (hls : ls.size = nL) {a : Nat} (hrest : 2 * (F0 m pc ls (.ref a :: rest)).monitorRoom + (rest.map fun v => v.category).sum + 12 ≤ R.locals) (hframes : 1 ≤ R.frames) (hdg : decode cc pc = .ok (.invokespecial index, 3))
    (kk : W p l e R s m args below meth c H locs cells slots Q (F0 m (pc + 3) ls rest)) : W p l e R s m args below meth c H locs cells slots Q (F0 m pc ls (.ref a :: rest)) :=
  W.objInit S.hx S.hb S.ow (S.w hl) (S.w h2) (S.w h3) rfl (by rw [S.ml]; exact hls) rfl hdg hframes hrest kk
end RUN
