def tmJ (i : Nat) : Term := if i = 0 then .string "KneeOaths$Reader" 93 else .string "KneeOaths$Reader" 113
theorem i01 {i : Nat} (h : i < 2) : i = 0 ∨ i = 1 := by omega
def elJ (i j : Nat) : Cond := Cond.eq (.elem (.field (tmJ i) "java/lang/String" "value" "[B") (.int (Int32.ofNat j))) (.int ((bytJ.getD i []).getD j 0))
theorem el0 : ((flatC (Jvm.Cond.and given_1 narrow_1)).drop 39).take 153 = (List.range 153).map (elJ 0) := by decide +kernel
theorem el1 : ((flatC (Jvm.Cond.and given_1 narrow_1)).drop 196).take 12 = (List.range 12).map (elJ 1) := by decide +kernel
theorem el_in {c n i j : Nat} {l : List Cond} (e : (l.drop c).take n = (List.range n).map (elJ i)) (h : j < n) : elJ i j ∈ l := by
  have h1 : elJ i j ∈ (List.range n).map (elJ i) := List.mem_map.mpr ⟨j, List.mem_range.mpr h, rfl⟩
  rw [← e] at h1
  exact List.mem_of_mem_drop (List.mem_of_mem_take h1)
theorem zs_all {s : State} {b : Nat} {A : Nat → Prop} (hgv : (Jvm.Cond.and given_1 narrow_1).before #[Value.ref b] s = true) (hts : ∀ w ∈ lw_tbl, w.before #[Value.ref b] s = true) (hA : ∀ a : Nat, a < s.heap.size → ¬ A a) : ∃ (aK aV : Nat → Nat) (z0 : Option Nat), ZS aK aV z0 A s s.heap := by
  have hs := flat_of_before _ hgv
  obtain ⟨aK, aV, h1, h2⟩ := vk_Sof (args := #[Value.ref b]) (s := s) (N := 2) (tm := tmJ) (len := lenJ) (byt := bytJ) (A := A)
    (fun i hi => by rcases i01 hi with rfl | rfl <;> decide)
    (fun i hi => by rcases i01 hi with rfl | rfl <;> exact hs _ (by decide +kernel))
    (fun i hi => by rcases i01 hi with rfl | rfl <;> exact hs _ (by decide +kernel))
    (fun i hi => by rcases i01 hi with rfl | rfl <;> exact hs _ (by decide +kernel))
    (fun i hi => by rcases i01 hi with rfl | rfl <;> exact hs _ (by decide +kernel))
    (fun i hi j hj => by
      rcases i01 hi with rfl | rfl
      · exact hs _ (el_in el0 hj)
      · exact hs _ (el_in el1 hj))
    (fun i j hi hj hij => by
      rcases i01 hi with rfl | rfl <;> rcases i01 hj with rfl | rfl
      · exact absurd rfl hij
      · first | exact Or.inl (hs _ (by decide +kernel)) | exact Or.inr (hs _ (by decide +kernel))
      · first | exact Or.inr (hs _ (by decide +kernel)) | exact Or.inl (hs _ (by decide +kernel))
      · exact absurd rfl hij) hA
  have hc := va_Zof (C := "java/lang/String") (n := "COMPACT_STRINGS") (d := "Z") (v := .int 1) (A := A) (hts _ (List.mem_of_getElem? (i := 613) (by decide +kernel))) (hts _ (List.mem_of_getElem? (i := 138) (by decide +kernel))) (va_eqi (z := 1) (hs _ (by decide +kernel))) hA
  have hr := va_Zqof (C := "jdk/internal/util/Preconditions") (n := "SIOOBE_FORMATTER") (d := "Ljava/util/function/BiFunction;") (A := A) (hts _ (List.mem_of_getElem? (i := 629) (by decide +kernel))) (hts _ (List.mem_of_getElem? (i := 140) (by decide +kernel))) (hs (Cond.isRef (.static "jdk/internal/util/Preconditions" "SIOOBE_FORMATTER" "Ljava/util/function/BiFunction;")) (by decide +kernel)) hA
  have k0 : vk_R RX5 93 _ (aK 0) s := vk_R.of (tx := "wears aches risk one swear break release kneel skate day rain tough age who size knee wear since by to left right marks if then else end or and not just ") (hts _ (List.mem_of_getElem? (i := 603) (by decide +kernel))) (h2 0 (by decide))
  have k1 : vk_R RX5 113 _ (aK 1) s := vk_R.of (tx := "<>=#+-*/(),;") (hts _ (List.mem_of_getElem? (i := 672) (by decide +kernel))) (h2 1 (by decide))
  rcases hr with hr | ⟨t, hr⟩
  · exact ⟨aK, aV, none, h1, hc, hr, k0, k1⟩
  · exact ⟨aK, aV, some t, h1, hc, hr, k0, k1⟩
