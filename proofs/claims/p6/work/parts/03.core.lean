/-! The pooled world: all cells of one object graph are one list of addresses L and one function f of what each holds.
    A contract (PMi, PMv, PMq) takes the pool whole and gives it back; SX: what stays in a method, DY: what moves. -/
abbrev HF : Type := Nat → va_E
abbrev GG : Type := va_G × (Nat → ClassId)
def tyk (G : GG) : List (ClassId × FieldType) := [(G.2 0, .int), (G.2 1, .long), (G.2 2, .boolean), (G.2 3, .object "KneeOaths$Ledger"), (G.2 4, .object "KneeOaths$Script")]
def gw (w : Cond) : Bool := match w with
  | .fieldLinkNest _ _ _ _ _ _ => true
  | .methodLinkNest _ _ _ _ => true
  | w => goodWord w
theorem gw_moved {s U : State} (hW : s.WarmedH U.vm) {w : Cond} (hg : gw w = true) (h : ∀ a : Array Value, w.before a s = true) (a : Array Value) : w.before a U = true := by
  cases w <;> first | exact va_Nw.use rfl (va_Nw.warmF hW (h #[])) | exact va_Nw.use rfl (va_Nw.warmM hW (h #[])) | exact word_at hW (good_of_word hg) (h #[])
def inW (w : Cond) : Prop := w ∈ lw_tbl ∧ gw w = true
def AW (U : State) : Prop := (∀ (a : Array Value) (w : Cond), inW w → w.before a U = true) ∧ va_AO "KneeOaths$Ledger" U ∧ va_AO "KneeOaths$Script" U
theorem AW.moved {s U : State} (h : AW s) (hW : s.WarmedH U.vm) : AW U := ⟨fun a w hw => gw_moved hW hw.2 (fun a => h.1 a w hw) a, h.2.1.moved hW.alike, h.2.2.moved hW.alike⟩
def pt (L : List Nat) (f : HF) (a : Nat) (e : va_E) : Prop := a ∈ L ∧ f a = e
theorem pt.me {L : List Nat} {f f1 : HF} {a : Nat} {e0 e : va_E} (h : pt L f a e0) (hf : f1 = va_up f a e) : pt L f1 a e := ⟨h.1, by rw [hf]; exact va_up_self f a e⟩
theorem pt.up {L : List Nat} {f f1 : HF} {a b : Nat} {e eb : va_E} (h : pt L f b eb) (hf : f1 = va_up f a e) (hne : b ≠ a) : pt L f1 b eb := ⟨h.1, by rw [hf, va_up_ne f e hne]; exact h.2⟩
theorem pt.ne {L : List Nat} {f : HF} {a b : Nat} {ea eb : va_E} (ha : pt L f a ea) (hb : pt L f b eb) (hne : ea ≠ eb) : a ≠ b := fun q => hne (by rw [← ha.2, ← hb.2, q])
theorem pt.neK {L : List Nat} {f : HF} {a b i j : Nat} {x y : List Value} (ha : pt L f a (.inr (i, x))) (hb : pt L f b (.inr (j, y))) (hne : i ≠ j) : a ≠ b := ha.ne hb (fun q => hne (by cases q; rfl))
theorem pt.neA {L : List Nat} {f : HF} {a b i : Nat} {x : List Value} {y : ClassId × vp_A} (ha : pt L f a (.inr (i, x))) (hb : pt L f b (.inl y)) : a ≠ b := ha.ne hb (fun q => by cases q)
theorem pt.neB {L : List Nat} {f : HF} {a b i : Nat} {x : List Value} {y : ClassId × vp_A} (ha : pt L f a (.inl y)) (hb : pt L f b (.inr (i, x))) : a ≠ b := ha.ne hb (fun q => by cases q)
theorem pt.push {L : List Nat} {f f1 : HF} {q b : Nat} {e eb : va_E} (h : pt L f b eb) (hf : f1 = va_up f q e) (hq : q ∉ L) : pt (L ++ [q]) f1 b eb := ⟨List.mem_append_left _ h.1, by
  have hne : b ≠ q := fun z => hq (by rw [← z]; exact h.1)
  rw [hf, va_up_ne f e hne]; exact h.2⟩
theorem pt.new {L : List Nat} {f f1 : HF} {q : Nat} {e : va_E} (hf : f1 = va_up f q e) : pt (L ++ [q]) f1 q e := ⟨List.mem_append_right _ (List.mem_singleton.mpr rfl), by rw [hf]; exact va_up_self f q e⟩
def rmD (d mc ms : Nat) : Room := { frames := d, cells := mc, slots := ms, locals := 64 * d }
def pIn (G : GG) (sz : Nat) (L : List Nat) (f : HF) (U : State) : Prop := U.heap.size = sz ∧ va_P G.1 CL (va_pl L f) U.heap ∧ va_K G.1 CL (tyk G) U ∧ va_D (fun _ => True) (va_pl L f) ∧ AW U
def pOut (G : GG) (A : Nat → Prop) (L : List Nat) (f : HF) (t : State) : Prop := va_P G.1 CL (va_pl L f) t.heap ∧ va_D A (va_pl L f)
def SX (G : GG) (A : Nat → Prop) (p : Program) (s : State) (m : MethodId) (meth : Method) (c : Code) (own : String) (cc : ByteArray) (nL : Nat) (rt : Option FieldType) : Prop :=
  p.tables.exec = Jvm.exec ∧ c.code = cc ∧ c.maxLocals = nL ∧ s.vm.findClass own = some m.cls ∧ meth.sig.returnType = rt ∧ meth.locks = false ∧ AW s ∧ va_K G.1 CL (tyk G) s ∧ ∀ q, s.heap.size ≤ q → A q
def DY (G : GG) (A : Nat → Prop) (s : State) (X : va_W) (L : List Nat) (f : HF) (H : Heap) (locs : List Loc) : Prop := va_P G.1 CL (X ++ va_pl L f) H ∧ va_D A (X ++ va_pl L f) ∧ va_S A s.heap H locs
def clOK (ci : Nat) (C : String) (T : u_T) (N : Nat) (ty : Nat → FieldType) : Prop := CL[ci]? = some (C, T, N) ∧ (∀ w ∈ u_ws C T N, inW w) ∧ (∀ k, k < N → parseFieldDescriptor (T k).2.2.1 = some (ty k)) ∧ (∀ a, a < N → ∀ b, b < N → a ≠ b → (T a).2.1 ≠ (T b).2.1)
def PMi (l : Launch) (y : MethodName) (bytes : ByteArray) (maxL : Nat) (rt : FieldType) (d mc ms : Nat) (G : GG) (av : List Value) (L : List Nat) (f : HF) (post : Int32 → List Nat → HF → Prop) : Prop :=
  ∀ sz : Nat, Met l y [.code y bytes maxL (some rt)] (rmD d mc ms) (va_Pc av (pIn G sz L f)) (va_Qi (fun r (u : List Nat × HF) => post r u.1 u.2) (fun u t => pOut G (va_A (va_pl L f) sz) u.1 u.2 t) (va_A (va_pl L f) sz)) mc ms (va_A (va_pl L f) sz)
def PMl (l : Launch) (y : MethodName) (bytes : ByteArray) (maxL : Nat) (d mc ms : Nat) (G : GG) (av : List Value) (L : List Nat) (f : HF) (post : Int64 → List Nat → HF → Prop) : Prop :=
  ∀ sz : Nat, Met l y [.code y bytes maxL (some .long)] (rmD d mc ms) (va_Pc av (pIn G sz L f)) (va_Ql (fun r (u : List Nat × HF) => post r u.1 u.2) (fun u t => pOut G (va_A (va_pl L f) sz) u.1 u.2 t) (va_A (va_pl L f) sz)) mc ms (va_A (va_pl L f) sz)
def PMv (l : Launch) (y : MethodName) (bytes : ByteArray) (maxL : Nat) (d mc ms : Nat) (G : GG) (av : List Value) (L : List Nat) (f : HF) (post : List Nat → HF → Prop) : Prop :=
  ∀ sz : Nat, Met l y [.code y bytes maxL none] (rmD d mc ms) (va_Pc av (pIn G sz L f)) (va_Qv (fun (u : List Nat × HF) => post u.1 u.2) (fun u t => pOut G (va_A (va_pl L f) sz) u.1 u.2 t) (va_A (va_pl L f) sz)) mc ms (va_A (va_pl L f) sz)
def PMq (l : Launch) (y : MethodName) (bytes : ByteArray) (maxL : Nat) (rt : FieldType) (d mc ms : Nat) (G : GG) (av : List Value) (L : List Nat) (f : HF) (post : Option Nat → List Nat → HF → Prop) : Prop :=
  ∀ sz : Nat, Met l y [.code y bytes maxL (some rt)] (rmD d mc ms) (va_Pc av (pIn G sz L f)) (va_Qq (fun r (u : List Nat × HF) => post r u.1 u.2) (fun u t => pOut G (va_A (va_pl L f) sz) u.1 u.2 t) (va_A (va_pl L f) sz)) mc ms (va_A (va_pl L f) sz)
theorem entry_of {l : Launch} {y : MethodName} {bytes : ByteArray} {maxL : Nat} {ret : Option FieldType} {d mc ms : Nat} {G : GG} {av : List Value} {L : List Nat} {f : HF} {own : String} {Qc : Nat → Array Value → State → Outcome → State → Prop} (sz : Nat) (hy : plainName y.cls = true) (hown : y.cls = own) (hav : (lg_sl av).length ≤ maxL)
    (body : ∀ (p : Program) (e : Env) (s : State) (m : MethodId) (args : Array Value) (below : List Frame) (meth : Method) (c : Code) (A : Nat → Prop) (ls : Array Slot), A = va_A (va_pl L f) s.heap.size → s.heap.size = sz → meth.name = y.name → SX G A p s m meth c own bytes maxL ret → DY G A s [] L f s.heap [] → lv_has ls maxL (lv_args 0 av) →
      W p l e (rmD d mc ms) s m args below meth c s.heap [] 0 0 (MQ below (Qc sz) args s mc ms A) (F0 m 0 ls [])) :
    Met l y [.code y bytes maxL ret] (rmD d mc ms) (va_Pc av (pIn G sz L f)) (Qc sz) mc ms (va_A (va_pl L f) sz) := by
  refine Met.ofW (cc := bytes) (maxL := maxL) (ret := ret) hy rfl ?_
  intro p e s m args below meth c s₁ B hml hv
  obtain ⟨rfl, hsz, hP, hK, hD0, hw⟩ := hv
  subst hown
  have hown : s.vm.findClass y.cls = some m.cls := findClass_of_methodNamed B.named
  have hl := lv_entry av (n := maxL) hav
  rw [lg_entry_eq]
  generalize (lg_sl av ++ List.replicate (maxL - (lg_sl av).length) Slot.unset).toArray = ls at hl ⊢
  have hA : ∀ q : Nat, s.heap.size ≤ q → va_A (va_pl L f) sz q := fun q h => Or.inr (hsz ▸ h)
  subst hsz
  exact body p e s m av.toArray below meth c _ ls rfl rfl (name_of_methodNamed B.named B.method).1 ⟨B.exec, B.bytes, hml, hown, B.returns, B.notSynchronized, hw, hK, hA⟩ ⟨hP, hD0.self, va_S.rf⟩ hl
section WALK
variable {p : Program} {l : Launch} {e : Env} {R : Room} {s : State} {m : MethodId} {args : Array Value} {below : List Frame} {meth : Method} {c : Code} {H : Heap} {locs : List Loc} {cells slots : Nat} {Q : State → Prop}
variable {G : GG} {A : Nat → Prop} {own : String} {cc : ByteArray} {nL : Nat} {rt : Option FieldType} {X : va_W} {L : List Nat} {f : HF} {pc : Nat} {ls : Array Slot} {rest : List Value} {a index : Nat}
theorem SX.hx (S : SX G A p s m meth c own cc nL rt) : p.tables.exec = Jvm.exec := S.1
theorem SX.hb (S : SX G A p s m meth c own cc nL rt) : c.code = cc := S.2.1
theorem SX.ml (S : SX G A p s m meth c own cc nL rt) : c.maxLocals = nL := S.2.2.1
theorem SX.ow (S : SX G A p s m meth c own cc nL rt) : s.vm.findClass own = some m.cls := S.2.2.2.1
theorem SX.w (S : SX G A p s m meth c own cc nL rt) {w : Cond} (h : inW w) : w.before args s = true := S.2.2.2.2.2.2.1.1 args w h
theorem pg_get (S : SX G A p s m meth c own cc nL rt) (Y : DY G A s X L f H locs) {ci : Nat} {C : String} {T : u_T} {N : Nat} {ty : Nat → FieldType} (ok : clOK ci C T N ty) (k : Nat) (hk : k < N) (hl : inW (.fieldLink own index (T k).1 (T k).2.1 (T k).2.2.1)) {fs : List Value} {v : Value} (h : pt L f a (.inr (ci, fs))) (hv : fs[k]? = some v) (hdg : decode cc pc = .ok (.getfield index, 3))
    (kk : W p l e R s m args below meth c H locs cells slots Q (F0 m (pc + 3) ls (v :: rest))) : W p l e R s m args below meth c H locs cells slots Q (F0 m pc ls (.ref a :: rest)) := by
  obtain ⟨hx, hb, hml, hown, hr, hlo, hw, hK, hA⟩ := S
  obtain ⟨hP, hD, hS⟩ := Y
  obtain ⟨hc, hin, hty, hnm⟩ := ok
  obtain ⟨ha, he⟩ := h
  obtain ⟨i, hi⟩ := va_pl_get (X := X) (f := f) ha
  rw [he] at hi
  exact va_get (Ts := u_ws C T N) hx hb (fun w q => hw.1 _ w (hin w q)) (fun _ q => q) hown hK hP i hi hc k hk (hw.1 _ _ hl) (fun _ q => q) hv hdg kk
theorem pg_getN (S : SX G A p s m meth c own cc nL rt) (Y : DY G A s X L f H locs) {ci : Nat} {C host : String} {T : u_T} {N : Nat} {ty : Nat → FieldType} (ok : clOK ci C T N ty) (k : Nat) (hk : k < N) (hl : inW (.fieldLinkNest own index (T k).1 (T k).2.1 (T k).2.2.1 host)) {fs : List Value} {v : Value} (h : pt L f a (.inr (ci, fs))) (hv : fs[k]? = some v) (hdg : decode cc pc = .ok (.getfield index, 3))
    (kk : W p l e R s m args below meth c H locs cells slots Q (F0 m (pc + 3) ls (v :: rest))) : W p l e R s m args below meth c H locs cells slots Q (F0 m pc ls (.ref a :: rest)) := by
  obtain ⟨hx, hb, hml, hown, hr, hlo, hw, hK, hA⟩ := S
  obtain ⟨hP, hD, hS⟩ := Y
  obtain ⟨hc, hin, hty, hnm⟩ := ok
  obtain ⟨ha, he⟩ := h
  obtain ⟨i, hi⟩ := va_pl_get (X := X) (f := f) ha
  rw [he] at hi
  exact va_getN (Ts := u_ws C T N) hx hb (fun w q => hw.1 _ w (hin w q)) (fun _ q => q) hown hK hP i hi hc k hk (hw.1 _ _ hl) (fun _ q => q) hv hdg kk
theorem pg_put (S : SX G A p s m meth c own cc nL rt) (Y : DY G A s X L f H locs) {ci : Nat} {C : String} {T : u_T} {N : Nat} {ty : Nat → FieldType} (ok : clOK ci C T N ty) (k : Nat) (hk : k < N) (hl : inW (.fieldLink own index (T k).1 (T k).2.1 (T k).2.2.1)) (hfin : (T k).2.2.2 = false) {fs fs' : List Value} {v : Value} (h : pt L f a (.inr (ci, fs))) (hset : fs.set k v = fs') (hn : narrow (ty k) v = v) (hfit : fits (ty k) v = true) (hlen : k < fs.length) (hdg : decode cc pc = .ok (.putfield index, 3))
    (kk : ∀ (f1 : HF) (H1 : Heap) (locs1 : List Loc), f1 = va_up f a (.inr (ci, fs')) → DY G A s X L f1 H1 locs1 → W p l e R s m args below meth c H1 locs1 cells slots Q (F0 m (pc + 3) ls rest)) : W p l e R s m args below meth c H locs cells slots Q (F0 m pc ls (v :: .ref a :: rest)) := by
  obtain ⟨hx, hb, hml, hown, hr, hlo, hw, hK, hA⟩ := S
  obtain ⟨hP, hD, hS⟩ := Y
  obtain ⟨hc, hin, hty, hnm⟩ := ok
  obtain ⟨ha, he⟩ := h
  obtain ⟨i, hi⟩ := va_pl_get (X := X) (f := f) ha
  have hi2 := hi
  rw [he] at hi2
  subst hset
  refine va_put (Ts := u_ws C T N) hx hb (fun w q => hw.1 _ w (hin w q)) (fun _ q => q) ty hty hnm hown hK hP hD hS i hi2 hc k hk (hw.1 _ _ hl) (fun _ q => q) hfin (hty k hk) hn hfit hlen hdg (fun H1 locs1 hP1 hD1 hS1 => ?_)
  rw [va_pl_set hD ha hi] at hP1 hD1
  exact kk _ H1 locs1 rfl ⟨hP1, hD1, hS1⟩
theorem pg_putN (S : SX G A p s m meth c own cc nL rt) (Y : DY G A s X L f H locs) {ci : Nat} {C host : String} {T : u_T} {N : Nat} {ty : Nat → FieldType} (ok : clOK ci C T N ty) (k : Nat) (hk : k < N) (hl : inW (.fieldLinkNest own index (T k).1 (T k).2.1 (T k).2.2.1 host)) (hfin : (T k).2.2.2 = false) {fs fs' : List Value} {v : Value} (h : pt L f a (.inr (ci, fs))) (hset : fs.set k v = fs') (hn : narrow (ty k) v = v) (hfit : fits (ty k) v = true) (hlen : k < fs.length) (hdg : decode cc pc = .ok (.putfield index, 3))
    (kk : ∀ (f1 : HF) (H1 : Heap) (locs1 : List Loc), f1 = va_up f a (.inr (ci, fs')) → DY G A s X L f1 H1 locs1 → W p l e R s m args below meth c H1 locs1 cells slots Q (F0 m (pc + 3) ls rest)) : W p l e R s m args below meth c H locs cells slots Q (F0 m pc ls (v :: .ref a :: rest)) := by
  obtain ⟨hx, hb, hml, hown, hr, hlo, hw, hK, hA⟩ := S
  obtain ⟨hP, hD, hS⟩ := Y
  obtain ⟨hc, hin, hty, hnm⟩ := ok
  obtain ⟨ha, he⟩ := h
  obtain ⟨i, hi⟩ := va_pl_get (X := X) (f := f) ha
  have hi2 := hi
  rw [he] at hi2
  subst hset
  refine va_putN (Ts := u_ws C T N) hx hb (fun w q => hw.1 _ w (hin w q)) (fun _ q => q) ty hty hnm hown hK hP hD hS i hi2 hc k hk (hw.1 _ _ hl) (fun _ q => q) hfin (hty k hk) hn hfit hlen hdg (fun H1 locs1 hP1 hD1 hS1 => ?_)
  rw [va_pl_set hD ha hi] at hP1 hD1
  exact kk _ H1 locs1 rfl ⟨hP1, hD1, hS1⟩
theorem pg_putF (S : SX G A p s m meth c own cc nL rt) (Y : DY G A s X L f H locs) (hin2 : meth.name = "<init>") {ci : Nat} {C : String} {T : u_T} {N : Nat} {ty : Nat → FieldType} (ok : clOK ci C T N ty) (k : Nat) (hk : k < N) (hl : inW (.fieldLink own index (T k).1 (T k).2.1 (T k).2.2.1)) (hfin : (T k).2.2.2 = true) (hdecl : (T k).1 = own) {fs fs' : List Value} {v : Value} (h : pt L f a (.inr (ci, fs))) (hset : fs.set k v = fs') (hn : narrow (ty k) v = v) (hfit : fits (ty k) v = true) (hlen : k < fs.length) (hdg : decode cc pc = .ok (.putfield index, 3))
    (kk : ∀ (f1 : HF) (H1 : Heap) (locs1 : List Loc), f1 = va_up f a (.inr (ci, fs')) → DY G A s X L f1 H1 locs1 → W p l e R s m args below meth c H1 locs1 cells slots Q (F0 m (pc + 3) ls rest)) : W p l e R s m args below meth c H locs cells slots Q (F0 m pc ls (v :: .ref a :: rest)) := by
  obtain ⟨hx, hb, hml, hown, hr, hlo, hw, hK, hA⟩ := S
  obtain ⟨hP, hD, hS⟩ := Y
  obtain ⟨hc, hin, hty, hnm⟩ := ok
  obtain ⟨ha, he⟩ := h
  obtain ⟨i, hi⟩ := va_pl_get (X := X) (f := f) ha
  have hi2 := hi
  rw [he] at hi2
  subst hset
  refine va_putF (Ts := u_ws C T N) hx hb (fun w q => hw.1 _ w (hin w q)) (fun _ q => q) ty hty hnm hown hK hP hD hS i hi2 hc k hk (hw.1 _ _ hl) (fun _ q => q) hfin hin2 hdecl (hty k hk) hn hfit hlen hdg (fun H1 locs1 hP1 hD1 hS1 => ?_)
  rw [va_pl_set hD ha hi] at hP1 hD1
  exact kk _ H1 locs1 rfl ⟨hP1, hD1, hS1⟩
theorem pg_iald (S : SX G A p s m meth c own cc nL rt) (Y : DY G A s X L f H locs) {n : Nat} {g : Nat → Int32} {i v : Int32} (h : pt L f a (.inl (G.2 0, n, .inl g))) (hin : vp_in i n) (hv : g i.toNatClampNeg = v) (hdg : decode cc pc = .ok (.iaload, 1))
    (kk : W p l e R s m args below meth c H locs cells slots Q (F0 m (pc + 1) ls (.int v :: rest))) : W p l e R s m args below meth c H locs cells slots Q (F0 m pc ls (.int i :: .ref a :: rest)) := by
  obtain ⟨hx, hb, hml, hown, hr, hlo, hw, hK, hA⟩ := S
  obtain ⟨hP, hD, hS⟩ := Y
  obtain ⟨ha, he⟩ := h
  obtain ⟨j, hj⟩ := va_pl_get (X := X) (f := f) ha
  rw [he] at hj
  subst hv
  exact va_iald hx hb hK hP j 0 hj rfl hin hdg kk
theorem pg_iast (S : SX G A p s m meth c own cc nL rt) (Y : DY G A s X L f H locs) {n : Nat} {g : Nat → Int32} {i x : Int32} (h : pt L f a (.inl (G.2 0, n, .inl g))) (hin : vp_in i n) (hdg : decode cc pc = .ok (.iastore, 1))
    (kk : ∀ (f1 : HF) (H1 : Heap) (locs1 : List Loc), f1 = va_up f a (.inl (G.2 0, n, .inl (upd g i.toNatClampNeg x))) → DY G A s X L f1 H1 locs1 → W p l e R s m args below meth c H1 locs1 cells slots Q (F0 m (pc + 1) ls rest)) : W p l e R s m args below meth c H locs cells slots Q (F0 m pc ls (.int x :: .int i :: .ref a :: rest)) := by
  obtain ⟨hx, hb, hml, hown, hr, hlo, hw, hK, hA⟩ := S
  obtain ⟨hP, hD, hS⟩ := Y
  obtain ⟨ha, he⟩ := h
  obtain ⟨j, hj⟩ := va_pl_get (X := X) (f := f) ha
  have hj2 := hj
  rw [he] at hj2
  refine va_iast hx hb hK hP hD hS j 0 hj2 rfl hin hdg (fun H1 locs1 hP1 hD1 hS1 => ?_)
  rw [va_pl_set hD ha hj] at hP1 hD1
  exact kk _ H1 locs1 rfl ⟨hP1, hD1, hS1⟩
theorem pg_alen (S : SX G A p s m meth c own cc nL rt) (Y : DY G A s X L f H locs) {k : Nat} {x : vp_A} {ty : FieldType} (h : pt L f a (.inl (G.2 k, x))) (ht : (tyk G)[k]? = some (G.2 k, ty)) {v : Int32} (hv : Int32.ofNat x.1 = v) (hdg : decode cc pc = .ok (.arraylength, 1))
    (kk : W p l e R s m args below meth c H locs cells slots Q (F0 m (pc + 1) ls (.int v :: rest))) : W p l e R s m args below meth c H locs cells slots Q (F0 m pc ls (.ref a :: rest)) := by
  obtain ⟨hx, hb, hml, hown, hr, hlo, hw, hK, hA⟩ := S
  obtain ⟨hP, hD, hS⟩ := Y
  obtain ⟨ha, he⟩ := h
  obtain ⟨j, hj⟩ := va_pl_get (X := X) (f := f) ha
  rw [he] at hj
  exact va_alen hx hb hK hP j k hj ht hv hdg kk
theorem pg_aald (S : SX G A p s m meth c own cc nL rt) (Y : DY G A s X L f H locs) {k n o : Nat} {C : String} {g : Nat → Option Nat} {i : Int32} (h : pt L f a (.inl (G.2 k, n, .inr (.inr (.inr (.inr g)))))) (ht : (tyk G)[k]? = some (G.2 k, .object C)) (hin : vp_in i n) (hv : g i.toNatClampNeg = some o) (hdg : decode cc pc = .ok (.aaload, 1))
    (kk : W p l e R s m args below meth c H locs cells slots Q (F0 m (pc + 1) ls (.ref o :: rest))) : W p l e R s m args below meth c H locs cells slots Q (F0 m pc ls (.int i :: .ref a :: rest)) := by
  obtain ⟨hx, hb, hml, hown, hr, hlo, hw, hK, hA⟩ := S
  obtain ⟨hP, hD, hS⟩ := Y
  obtain ⟨ha, he⟩ := h
  obtain ⟨j, hj⟩ := va_pl_get (X := X) (f := f) ha
  rw [he] at hj
  exact va_aldq hx hb hK hP j k hj ht hin hdg (by rw [hv]; exact kk)
theorem pg_aast (S : SX G A p s m meth c own cc nL rt) (Y : DY G A s X L f H locs) {k n v ci : Nat} {r : vw_C} {vs : List Value} {g : Nat → Option Nat} {i : Int32} (h : pt L f a (.inl (G.2 k, n, .inr (.inr (.inr (.inr g)))))) (ht : (tyk G)[k]? = some (G.2 k, .object r.1)) (hv : pt L f v (.inr (ci, vs))) (hc : CL[ci]? = some r) (hin : vp_in i n) (hdg : decode cc pc = .ok (.aastore, 1))
    (kk : ∀ (f1 : HF) (H1 : Heap) (locs1 : List Loc), f1 = va_up f a (.inl (G.2 k, n, .inr (.inr (.inr (.inr (va_up g i.toNatClampNeg (some v))))))) → DY G A s X L f1 H1 locs1 → W p l e R s m args below meth c H1 locs1 cells slots Q (F0 m (pc + 1) ls rest)) : W p l e R s m args below meth c H locs cells slots Q (F0 m pc ls (.ref v :: .int i :: .ref a :: rest)) := by
  obtain ⟨hx, hb, hml, hown, hr, hlo, hw, hK, hA⟩ := S
  obtain ⟨hP, hD, hS⟩ := Y
  obtain ⟨ha, he⟩ := h
  obtain ⟨j, hj⟩ := va_pl_get (X := X) (f := f) ha
  obtain ⟨jv, hjv⟩ := va_pl_get (X := X) (f := f) hv.1
  rw [hv.2] at hjv
  have hj2 := hj
  rw [he] at hj2
  refine va_astq hx hb hK hP hD hS j k jv ci hj2 ht hjv hc hin hdg (fun H1 locs1 hP1 hD1 hS1 => ?_)
  rw [va_pl_set hD ha hj] at hP1 hD1
  exact kk _ H1 locs1 rfl ⟨hP1, hD1, hS1⟩
theorem DY.pushed {q : Nat} {e0 : va_E} {H1 : Heap} {locs1 : List Loc} (Y : DY G A s X L f H locs) (hP1 : va_P G.1 CL ((X ++ va_pl L f) ++ [(q, e0)]) H1) (hD1 : va_D A ((X ++ va_pl L f) ++ [(q, e0)])) (hS1 : va_S A s.heap H1 locs1) : q ∉ L ∧ DY G A s X (L ++ [q]) (va_up f q e0) H1 locs1 := by
  have hq : q ∉ L := by
    intro hm
    obtain ⟨j, hj⟩ := va_pl_get (X := X) (f := f) hm
    have hlt := (List.getElem?_eq_some_iff.mp hj).1
    have h1 : ((X ++ va_pl L f) ++ [(q, e0)])[j]? = some (q, f q) := by rw [List.getElem?_append_left hlt]; exact hj
    have h2 : ((X ++ va_pl L f) ++ [(q, e0)])[(X ++ va_pl L f).length]? = some (q, e0) := by rw [List.getElem?_append_right (Nat.le_refl _), Nat.sub_self]; rfl
    have := hD1.1 _ _ _ _ h1 h2 rfl
    omega
  rw [List.append_assoc, va_pl_push hq] at hP1 hD1
  exact ⟨hq, hP1, hD1, hS1⟩
theorem pg_new (S : SX G A p s m meth c own cc nL rt) (Y : DY G A s X L f H locs) {ci : Nat} {C : String} {T : u_T} {N : Nat} {ty : Nat → FieldType} (ok : clOK ci C T N ty) (h1 : inW (.classLink own index C)) (h2 : inW (.instantiable C N)) (h3 : inW (.initialized C)) {fs : List Value} (hfs : ∀ j, j < N → defaultValue (ty j) = vp_V fs j) (hcells : cells + 1 ≤ R.cells) (hslots : slots + N ≤ R.slots) (hdg : decode cc pc = .ok (.new index, 3))
    (kk : ∀ (q : Nat) (f1 : HF) (H1 : Heap), q ∉ L → f1 = va_up f q (.inr (ci, fs)) → DY G A s X (L ++ [q]) f1 H1 locs → W p l e R s m args below meth c H1 locs (cells + 1) (slots + N) Q (F0 m (pc + 3) ls (.ref q :: rest))) : W p l e R s m args below meth c H locs cells slots Q (F0 m pc ls rest) := by
  have Y0 := Y
  obtain ⟨hx, hb, hml, hown, hr, hlo, hw, hK, hA⟩ := S
  obtain ⟨hP, hD, hS⟩ := Y
  obtain ⟨hc, hin, hty, hnm⟩ := ok
  refine va_new (Ts := u_ws C T N) hx hb (fun w q => hw.1 _ w (hin w q)) (fun _ q => q) ty hty hown (hw.1 _ _ h1) (hw.1 _ _ h2) (hw.1 _ _ h3) hK hP hD hS hA hc hfs hcells hslots hdg (fun q H1 hP1 hD1 hS1 => ?_)
  obtain ⟨hq, Y1⟩ := Y0.pushed hP1 hD1 hS1
  exact kk q _ H1 hq rfl Y1
theorem va_K_arr {D : va_G} {cl : List vw_C} {tys : List (ClassId × FieldType)} {k : Nat} {cA cB : ClassId} {ty : FieldType} {n : Nat} (hK : va_K D cl (tys ++ [(cA, ty)]) s) (h : tys[k]? = some (cB, ty)) : cA = cB := by
  have h1 := (hK.2 tys.length (cA, ty) (by rw [List.getElem?_append_right (Nat.le_refl _), Nat.sub_self]; rfl)).2
  have hlt := (List.getElem?_eq_some_iff.mp h).1
  have h2 := (hK.2 k (cB, ty) (by rw [List.getElem?_append_left hlt]; exact h)).2
  cases ty with
  | object C =>
    obtain ⟨_, _, _, _, _, e1⟩ := h1
    obtain ⟨_, _, _, _, _, e2⟩ := h2
    exact Option.some.inj (e1.symm.trans e2)
  | _ => exact Option.some.inj (Eq.trans (Eq.symm h1) h2)
theorem pg_newa (S : SX G A p s m meth c own cc nL rt) (Y : DY G A s X L f H locs) {atype : ArrayType} {ty : FieldType} (hty : newarray.typeOf atype = ty) (k : Nat) (ht : (tyk G)[k]? = some (G.2 k, ty)) (hw : inW (.arrayClass ty)) {n : Int32} {N' : Nat} (a0 : vp_A) (ha : ∀ cA : ClassId, vp_cell cA a0 = arrV cA N' (fun _ => defaultValue ty)) (hn : ¬ n < 0) (hN : n.toNatClampNeg = N') (hbytes : N' * componentBytes ty ≤ 536870912) (hcells : cells + 1 ≤ R.cells) (hslots : slots + N' ≤ R.slots) (hdg : decode cc pc = .ok (.newarray atype, 2))
    (kk : ∀ (q : Nat) (f1 : HF) (H1 : Heap), q ∉ L → f1 = va_up f q (.inl (G.2 k, a0)) → DY G A s X (L ++ [q]) f1 H1 locs → W p l e R s m args below meth c H1 locs (cells + 1) (slots + N') Q (F0 m (pc + 2) ls (.ref q :: rest))) : W p l e R s m args below meth c H locs cells slots Q (F0 m pc ls (.int n :: rest)) := by
  have Y0 := Y
  obtain ⟨hx, hb, hml, hown, hr, hlo, hw0, hK, hA⟩ := S
  obtain ⟨hP, hD, hS⟩ := Y
  subst hty
  refine va_newa hx hb (hw0.1 _ _ hw) rfl hK hP hD hS hA ha hn hN hbytes hcells hslots hdg (fun q cA H1 hK1 hP1 hD1 hS1 => ?_)
  have hc := va_K_arr (n := 0) hK1 ht
  subst hc
  obtain ⟨hq, Y1⟩ := Y0.pushed hP1 hD1 hS1
  exact kk q _ H1 hq rfl Y1
theorem pg_newq (S : SX G A p s m meth c own cc nL rt) (Y : DY G A s X L f H locs) {C : String} (h1 : inW (.classLink own index C)) (h2 : AW s → va_AO C s) (k : Nat) (ht : (tyk G)[k]? = some (G.2 k, .object C)) {n : Int32} {N' : Nat} (hn : ¬ n < 0) (hN : n.toNatClampNeg = N') (hbytes : N' * 4 ≤ 536870912) (hcells : cells + 1 ≤ R.cells) (hslots : slots + N' ≤ R.slots) (hdg : decode cc pc = .ok (.anewarray index, 3))
    (kk : ∀ (q : Nat) (f1 : HF) (H1 : Heap), q ∉ L → f1 = va_up f q (.inl (G.2 k, N', .inr (.inr (.inr (.inr (fun _ => none)))))) → DY G A s X (L ++ [q]) f1 H1 locs → W p l e R s m args below meth c H1 locs (cells + 1) (slots + N') Q (F0 m (pc + 3) ls (.ref q :: rest))) : W p l e R s m args below meth c H locs cells slots Q (F0 m pc ls (.int n :: rest)) := by
  have Y0 := Y
  obtain ⟨hx, hb, hml, hown, hr, hlo, hw0, hK, hA⟩ := S
  obtain ⟨hP, hD, hS⟩ := Y
  refine va_newq hx hb hown (hw0.1 _ _ h1) (h2 hw0) hK hP hD hS hA hn hN hbytes hcells hslots hdg (fun q cA H1 hK1 hP1 hD1 hS1 => ?_)
  have hc := va_K_arr (n := 0) hK1 ht
  subst hc
  obtain ⟨hq, Y1⟩ := Y0.pushed hP1 hD1 hS1
  exact kk q _ H1 hq rfl Y1
theorem pg_copyi (S : SX G A p s m meth c own cc nL rt) (Y : DY G A s X L f H locs) (hls : ls.size = nL) (h1 : inW (.methodLink own index arraycopyName)) (h2 : inW (.native arraycopyName)) (h3 : inW (.static arraycopyName)) (h4 : inW (.initialized "java/lang/System")) {a0 n0 n1 : Nat} {g0 g1 : Nat → Int32} (ha0 : pt L f a0 (.inl (G.2 0, n0, .inl g0))) (ha1 : pt L f a (.inl (G.2 0, n1, .inl g1))) {sp dp n : Int32} (q1 : ¬ sp < 0) (q2 : ¬ dp < 0) (q3 : ¬ n < 0) (q4 : sp.toNatClampNeg + n.toNatClampNeg ≤ n0) (q5 : dp.toNatClampNeg + n.toNatClampNeg ≤ n1)
    (hframes : 1 ≤ R.frames) (hlocals : (rest.map fun v => v.category).sum + (nativeFrameWords "java/lang/System" "arraycopy" 5 + 11) ≤ R.locals) (hdg : decode cc pc = .ok (.invokestatic index, 3))
    (kk : ∀ (f1 : HF) (H1 : Heap) (locs1 : List Loc), f1 = va_up f a (.inl (G.2 0, n1, .inl (va_cpy g0 g1 sp.toNatClampNeg dp.toNatClampNeg n.toNatClampNeg))) → DY G A s X L f1 H1 locs1 → W p l e R s m args below meth c H1 locs1 cells slots Q (F0 m (pc + 3) ls rest)) : W p l e R s m args below meth c H locs cells slots Q (F0 m pc ls (.int n :: .int dp :: .ref a :: .int sp :: .ref a0 :: rest)) := by
  obtain ⟨hx, hb, hml, hown, hr, hlo, hw0, hK, hA⟩ := S
  obtain ⟨hP, hD, hS⟩ := Y
  obtain ⟨j0, hj0⟩ := va_pl_get (X := X) (f := f) ha0.1
  obtain ⟨j1, hj1⟩ := va_pl_get (X := X) (f := f) ha1.1
  have hk1 := hj1
  rw [ha0.2] at hj0
  rw [ha1.2] at hj1
  refine va_copyi hx hb (by rw [hml, hls]) hown (hw0.1 _ _ h1) (hw0.1 _ _ h2) (hw0.1 _ _ h3) (hw0.1 _ _ h4) hK hP hD hS j0 j1 0 0 hj0 hj1 rfl rfl rfl q1 q2 q3 q4 q5 (fun _ _ => rfl) hframes hlocals hdg (fun H1 locs1 hP1 hD1 hS1 => ?_)
  rw [va_pl_set hD ha1.1 hk1] at hP1 hD1
  exact kk _ H1 locs1 rfl ⟨hP1, hD1, hS1⟩
end WALK
