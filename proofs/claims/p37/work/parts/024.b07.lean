def R_law : String := "SlideLayoutLaw"
def lw_Q (_ : Array Value) (s : State) (o : Outcome) (t : State) : Prop := o = .returned (some (.int 1)) ∧ Framed s o t [] room_1.cells room_1.slots
def lw_Z (below : List Frame) (a : Array Value) (s : State) : State → Prop := fun t => ∃ o, t.status = .running ∧ Ended t below o ∧ lw_Q a s o t
/-- the law's body out of Z: for every script of L ints -/
theorem z_law {p : Program} {e : Env} {s : State} {m : MethodId} {below : List Frame} {meth : Method} {c : Code} (l : Launch) (hflags : l.flags = flags0) {b L : Nat} {xs : Nat → Int32}
    (hx : p.tables.exec = Jvm.exec) (hcode : c.code = code) (hret : meth.sig.returnType = ret) (hml : c.maxLocals = 12) (hown : s.vm.findClass R_law = some m.cls) (hname : meth.name = "law") (hts : ∀ w ∈ lw_tbl, w.before #[Value.ref b] s = true) (hX : va_X b L xs s s.heap) (hbl : b < s.heap.size) (hlocks : meth.locks = false) (hgv : (Jvm.Cond.and given_1 narrow_1).before #[Value.ref b] s = true)
    (htab : c.exceptionTable.toList = []) (hZ : ∀ G : zG, G.L = L → G.xs = xs → Z G mL_law room_1 0 0 0 (zent [.ref zSI] 12) [] [] (fun r _ => r = .inl (some (.int 1)))) :
    W p l e room_1 s m #[Value.ref b] below meth c s.heap [] 0 0 (lw_Z below #[Value.ref b] s) (entryFrame m ([Value.ref b] : List Value).toArray 12) := by
  have hgs : ∀ w ∈ zgiven, w.before #[Value.ref b] s = true := flat_of_before _ hgv
  obtain ⟨D, tI, hK⟩ := zstart_K hts
  obtain ⟨G, hG⟩ : ∃ G : zG, G = (l, D, s.heap.size, tI, L, xs, b) := ⟨_, rfl⟩
  have hb0 : G.base = s.heap.size := by rw [hG]
  have hA : ∀ a : Nat, a < s.heap.size → ¬ zA G a := fun a h h2 => by
    have h3 : G.base ≤ a := h2
    rw [hb0] at h3; omega
  have hst : l.stackTraces = false := by
    simp only [Launch.stackTraces, hflags]
    decide
  have hS : zStat G s s.heap := by
    refine ⟨vx_Zqof (hts _ zg_U.2.2.1) (hts _ zg_U.2.2.2.2) (hgs _ zg_U.1) hA, vx_Zqof (hts _ zg_U.2.2.2.1) (hts _ zg_U.2.2.2.2) (hgs _ zg_U.2.1) hA, fun w hw => ?_, fun q hq => ?_, fun q hq => va_Nc.of (hgs _ (zg_nc q hq)), ?_, ?_, ?_⟩
    · have hf := (List.mem_filter.mp hw).2
      simp only [Bool.and_eq_true] at hf
      exact zfair_at (State.WarmedH.refl s) hf.2 (hts w (List.mem_filter.mp hw).1)
    · obtain ⟨h1, h2⟩ := zg_str q hq
      obtain ⟨a, c9, cell, k9, he, -⟩ := Cond.exactly_spec (hgs _ h2)
      have h3 := hts _ h1
      refine ⟨a, vk_R.of (A := #[]) ?_ ?_⟩
      · first
          | exact va_tabs rfl rfl h3
          | (simp only [Cond.before, Cond.holds, Cond.value] at h3 ⊢; exact h3)
      · rw [Term.string_eval_of_vm (args := #[Value.ref b]) (rfl : s.vm = s.vm)]
        first | exact he | simpa [Term.eval] using he
    · rw [hG]; exact hX
    · rw [hb0, hG]; exact hbl
    · rw [hG]; exact hst
  have hC : zCtx G mL_law p s m #[Value.ref b] meth c := ⟨hx, hcode, hml, hret, hlocks, hown, hname, fun w hw => hts w (List.mem_filter.mp hw).1, hK G (by rw [hG]) (by rw [hG]), hS, Nat.le_of_eq hb0, htab, by rw [hG]; exact hst⟩
  have hH : zHeap G s (fun _ => b) [] s.heap [] := ⟨(fun k q h => by simp [zW] at h), ⟨fun i j p q h => by simp [zW] at h, fun k q h => by simp [zW] at h⟩, va_S.rf, ⟨Nat.zero_le _, fun c h => by cases h⟩, by rw [hG]⟩
  rw [lg_entry_eq]
  have hgo := hZ G (by rw [hG]) (by rw [hG]) p e s m #[Value.ref b] below meth c s.heap [] (fun _ => b) (fun _ => b) 0 _ hC hH (zent_loc (av := [.ref zSI]) (nL := 12) (fun _ => b) (fun v hv => by rw [List.mem_singleton.mp hv]; rfl) (by decide)) (zent_ok (fun v hv => by rw [List.mem_singleton.mp hv]; exact Or.inr rfl)) (fun v hv => by cases hv) (Nat.le_refl _) (zExt.rf _ _)
  have hl : G.l = l := by rw [hG]
  rw [hl] at hgo
  intro T hT X
  obtain ⟨t, a1, o, b1, b2, b3⟩ := hgo T hT X
  refine ⟨t, a1, o, b1, b2, ?_⟩
  rcases b3 with ⟨⟨rv, w2, ad2, e1, e2, e3⟩, L9, ⟨f1, f2, f3⟩, f4⟩ | ⟨q9, e1, E, ce, L9, ⟨w2, ad2, e2, e3⟩, -⟩
  · cases e2
    have ho : o = .returned (some (.int 1)) := e1
    refine ⟨ho, f1, f2, zforget f3 fun q hq => ?_⟩
    have h9 : G.base ≤ q.base := f4 q hq
    rw [hb0] at h9
    exact h9
  · cases e2
