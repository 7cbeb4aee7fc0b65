/-- what was written in the new part alone is nothing written -/
theorem zforget {s U : State} {L : List Loc} {k n : Nat} (h : s.sameButNew U L k n) (hL : ∀ q ∈ L, s.heap.size ≤ q.base) : s.sameButNew U [] k n := by
  obtain ⟨h1, h2, h3, h4, h5, h6⟩ := h
  refine ⟨h1, h2, h3, h4, h5, fun q c hq => ?_⟩
  obtain ⟨c9, e1, e2, e3, e4⟩ := h6 q c hq
  refine ⟨c9, e1, e2, e3, fun i hi => e4 i fun hm => ?_⟩
  have hlt : q < s.heap.size := (Array.getElem?_eq_some_iff.mp hq).1
  exact absurd (hL _ hm) (Nat.not_le.mpr hlt)

/-- the law's start, as a context of Z -/
def zFlat : List Cond := []
def zgiven : List Cond := flatC (Jvm.Cond.and given_1 narrow_1)
theorem zg_str : ∀ q ∈ zstr, Cond.stringRef q.1 q.2.1 q.2.2 ∈ lw_tbl ∧ Cond.exactly (Term.string q.1 q.2.1) "java/lang/String" ∈ zgiven := by decide +kernel
theorem zg_nc : ∀ q ∈ znc, Cond.not (.castable q.1 q.2) ∈ zgiven := by decide +kernel
theorem zg_K : ∀ q ∈ zcl, (∀ w ∈ u_ws q.1 q.2.1 q.2.2, w ∈ lw_tbl) ∧ Cond.instantiable q.1 q.2.2 ∈ lw_tbl := by decide +kernel
theorem zg_A : ∀ ty ∈ ([.int] : List FieldType), Cond.arrayClass ty ∈ lw_tbl := by decide +kernel
theorem zg_U : Cond.isRef (.static Bundle.tN "UNASSIGNED_STACK" Bundle.steD) ∈ zgiven ∧ Cond.isRef (.static Bundle.tN "SUPPRESSED_SENTINEL" Bundle.listD) ∈ zgiven ∧ Cond.laysStatic Bundle.tN "UNASSIGNED_STACK" Bundle.steD ∈ lw_tbl ∧ Cond.laysStatic Bundle.tN "SUPPRESSED_SENTINEL" Bundle.listD ∈ lw_tbl ∧ Cond.initialized Bundle.tN ∈ lw_tbl := by decide +kernel
theorem zstart_K {s : State} {args : Array Value} (hts : ∀ w ∈ lw_tbl, w.before args s = true) : ∃ (D : va_G) (tI : Nat → ClassId), ∀ G : zG, G.D = D → G.tI = tI → va_K G.D zcl (ztys G) s := by
  have hk : ∀ q ∈ zcl, ∃ (cC : ClassId) (iS : Nat → Nat), u_Kn s q.1 q.2.1 q.2.2 cC iS := fun q hq => u_known hts (zg_K q hq).1 (hts _ (zg_K q hq).2)
  have ha : ∀ ty ∈ ([.int] : List FieldType), ∃ cA : ClassId, ArrOfT s cA ty ∧ s.vm.findClass ("[" ++ ty.toString) = some cA := fun ty hty => by
    obtain ⟨cA, kA, comp, h1, h2, h3⟩ := Cond.arrayClass_spec (hts _ (zg_A ty hty))
    exact ⟨cA, fun n z => ⟨fun k h => (by cases h), kA, h2, comp, h3⟩, h1⟩
  obtain ⟨c0, i0, k0⟩ := hk _ (List.mem_of_getElem? (i := 0) rfl)
  obtain ⟨c1, i1, k1⟩ := hk _ (List.mem_of_getElem? (i := 1) rfl)
  obtain ⟨c2, i2, k2⟩ := hk _ (List.mem_of_getElem? (i := 2) rfl)
  obtain ⟨c3, i3, k3⟩ := hk _ (List.mem_of_getElem? (i := 3) rfl)
  obtain ⟨c4, i4, k4⟩ := hk _ (List.mem_of_getElem? (i := 4) rfl)
  obtain ⟨c5, i5, k5⟩ := hk _ (List.mem_of_getElem? (i := 5) rfl)
  obtain ⟨c6, i6, k6⟩ := hk _ (List.mem_of_getElem? (i := 6) rfl)
  obtain ⟨c7, i7, k7⟩ := hk _ (List.mem_of_getElem? (i := 7) rfl)
  obtain ⟨c8, i8, k8⟩ := hk _ (List.mem_of_getElem? (i := 8) rfl)
  obtain ⟨t0, a0, f0⟩ := ha .int (by decide)
  refine ⟨(fun c => [c0, c1, c2, c3, c4, c5, c6, c7, c8 ].getD c 0, fun c => [i0, i1, i2, i3, i4, i5, i6, i7, i8 ].getD c (fun _ => 0)), fun t => [t0].getD t 0, fun G e1 e2 => ⟨fun c q hq => ?_, fun k q hq => ?_⟩⟩
  · have hc : c < 9 := (List.getElem?_eq_some_iff.mp hq).1
    rw [e1]
    rcases (show c = 0 ∨ c = 1 ∨ c = 2 ∨ c = 3 ∨ c = 4 ∨ c = 5 ∨ c = 6 ∨ c = 7 ∨ c = 8 by omega) with rfl | rfl | rfl | rfl | rfl | rfl | rfl | rfl | rfl <;> cases hq
    · exact k0
    · exact k1
    · exact k2
    · exact k3
    · exact k4
    · exact k5
    · exact k6
    · exact k7
    · exact k8
  · have hc : k < 1 := (List.getElem?_eq_some_iff.mp hq).1
    rcases (show k = 0 by omega) with rfl
    cases hq
    rw [e2]
    exact ⟨a0, f0⟩
