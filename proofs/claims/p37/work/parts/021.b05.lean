section ZO
variable {G : zG} {M : zM} {R : Room} {k n pc q : Nat} {zl : List (Option Value)} {st : List Value} {w : zWorld} {P : zRes → zWorld → Prop}
theorem zargs_mem : ∀ (vs : List Value) (j i : Nat) (v : Value), (∀ v ∈ vs, v.category = 1) → vs[i]? = some v → (j + i, v) ∈ lv_args j vs
  | [], _, _, _, _, h => by simp at h
  | a :: l, j, 0, v, _, h => by
    cases h
    exact List.mem_cons_self
  | a :: l, j, i + 1, v, hc, h => by
    have h1 := zargs_mem l (j + 1) i v (fun v hv => hc v (List.mem_cons_of_mem _ hv)) (by simpa using h)
    have h2 : a.category = 1 := hc a List.mem_cons_self
    refine List.mem_cons_of_mem _ ?_
    rw [h2, if_neg (by decide), show j + (i + 1) = j + 1 + i by omega]
    exact h1
theorem zargs_len : ∀ (vs : List Value), (∀ v ∈ vs, v.category = 1) → (lg_sl vs).length = vs.length
  | [], _ => rfl
  | a :: l, hc => by
    have h2 : a.category = 1 := hc a List.mem_cons_self
    have h1 := zargs_len l (fun v hv => hc v (List.mem_cons_of_mem _ hv))
    unfold lg_sl at h1 ⊢
    rw [List.flatMap_cons, List.length_append, h1, if_neg (by rw [h2]; decide)]
    simp [Nat.add_comm]
def zent (av : List Value) (nL : Nat) : List (Option Value) := av.map some ++ List.replicate (nL - av.length) none
theorem zent_loc {av : List Value} {nL : Nat} (ad : Nat → Nat) (hc : ∀ v ∈ av, v.category = 1) (hl : av.length ≤ nL) : zLoc ((lg_sl (av.map (zc ad)) ++ List.replicate (nL - (lg_sl (av.map (zc ad))).length) Slot.unset).toArray) nL ad (zent av nL) := by
  have hc2 : ∀ v ∈ av.map (zc ad), v.category = 1 := fun v hv => by
    obtain ⟨u, hu, e⟩ := List.mem_map.mp hv
    rw [← e, zc_cat]; exact hc u hu
  have h := lv_entry (av.map (zc ad)) (n := nL) (by rw [zargs_len _ hc2, List.length_map]; exact hl)
  refine ⟨h.1, h.2.1, fun q hq => h.2.2 q ?_⟩
  obtain ⟨v, hv, e⟩ := zlv_mem.mp hq
  have hv2 : av[q.1]? = some v := by
    unfold zent at hv
    by_cases hi : q.1 < (av.map some).length
    · rw [List.getElem?_append_left hi, List.getElem?_map] at hv
      cases h9 : av[q.1]? with
      | none => rw [h9] at hv; cases hv
      | some u => rw [h9] at hv; cases hv; rfl
    · rw [List.getElem?_append_right (by omega), List.getElem?_replicate] at hv
      split at hv <;> cases hv
  have h3 := zargs_mem (av.map (zc ad)) 0 q.1 (zc ad v) hc2 (by rw [List.getElem?_map, hv2]; rfl)
  rw [Nat.zero_add, ← e] at h3
  exact h3
theorem zent_ok {av : List Value} {nL n : Nat} (h : zoks n av) : zokl n (zent av nL) := fun v hv => by
  unfold zent at hv
  rcases List.mem_append.mp hv with h1 | h1
  · obtain ⟨u, hu, e⟩ := List.mem_map.mp h1
    cases e; exact h _ hu
  · cases (List.eq_of_mem_replicate h1)
theorem ZM.of {d mc ms : Nat} {av : List Value} (hy : plainName M.y.cls = true) (hh : M.hh = none) (hc : ∀ v ∈ av, v.category = 1) (hl : av.length ≤ M.maxL) (h : Z G M (zrm d mc ms) 0 0 0 (zent av M.maxL) [] w P) : ZM G M d mc ms av w P := by
  intro ad hav hw had
  have hcd : M.cond = .code M.y M.code M.maxL M.ret := by unfold zM.cond; rw [hh]
  refine vx_ofW (cc := M.code) (maxL := M.maxL) (ret := M.ret) (ws' := zt) hy (by unfold zM.ws; rw [hcd]) ?_
  intro p e s m args below meth c s₁ B hml ht hv
  obtain ⟨rfl, hbs, hP, hD, hK, hS⟩ := hv
  have hts : ∀ w ∈ zt, w.before (av.map (zc ad)).toArray s = true := fun x hx => atoms_spec (ws := M.ws) B.pre x (List.mem_cons_of_mem _ hx)
  have hC : zCtx G M p s m (av.map (zc ad)).toArray meth c := ⟨B.exec, B.bytes, hml, B.returns, B.notSynchronized, findClass_of_methodNamed B.named, (name_of_methodNamed B.named B.method).1, hts, hK, hS, hbs, by
    unfold zM.table; rw [hh]
    exact List.eq_nil_iff_forall_not_mem.mpr fun x hx => ht x hx, hS.2.2.2.2.2.2.2⟩
  rw [lg_entry_eq]
  exact h p e s m _ below meth c s.heap [] ad ad w.length _ hC ⟨hP, hD, va_S.rf, hw, had⟩ (zent_loc ad hc hl) (zent_ok hav) (fun v hv => by cases hv) (Nat.le_refl _) (zExt.rf _ _)
theorem ZM.ofH {d mc ms : Nat} {av : List Value} {hs : List (Nat × Nat × Nat × Nat)} (hy : plainName M.y.cls = true) (hh : M.hh = some hs) (hc : ∀ v ∈ av, v.category = 1) (hl : av.length ≤ M.maxL) (h : Z G M (zrm d mc ms) 0 0 0 (zent av M.maxL) [] w P) : ZM G M d mc ms av w P := by
  intro ad hav hw had
  have hcd : M.cond = .codeWith M.y M.code M.maxL M.ret hs := by unfold zM.cond; rw [hh]
  refine vx_ofWH (cc := M.code) (maxL := M.maxL) (ret := M.ret) (ws' := zt) hy (by unfold zM.ws; rw [hcd]) ?_
  intro p e s m args below meth c s₁ B hml hv
  obtain ⟨rfl, hbs, hP, hD, hK, hS⟩ := hv
  have hts : ∀ w ∈ zt, w.before (av.map (zc ad)).toArray s = true := fun x hx => atoms_spec (ws := M.ws) B.pre x (List.mem_cons_of_mem _ hx)
  have hC : zCtx G M p s m (av.map (zc ad)).toArray meth c := ⟨B.exec, B.bytes, hml, B.returns, B.notSynchronized, findClass_of_methodNamed B.named, (name_of_methodNamed B.named B.method).1, hts, hK, hS, hbs, by
    unfold zM.table; rw [hh]
    exact vx_table (x := M.y) B (atoms_spec (ws := M.ws) B.pre _ (by unfold zM.ws; rw [hcd]; exact List.mem_cons_self)), hS.2.2.2.2.2.2.2⟩
  rw [lg_entry_eq]
  exact h p e s m _ below meth c s.heap [] ad ad w.length _ hC ⟨hP, hD, va_S.rf, hw, had⟩ (zent_loc ad hc hl) (zent_ok hav) (fun v hv => by cases hv) (Nat.le_refl _) (zExt.rf _ _)
/-- a call of a p. constructor of a nest mate -/
def zCalIN (own : String) (ix : Nat) (M2 : zM) (nargs : Nat) (host : String) : Prop :=
  Cond.methodLinkNest own ix M2.y host ∈ zbad ∧ Cond.initialized M2.y.cls ∈ zt ∧ M2.cond ∈ zt ∧ (M2.y.cls ≠ "java/lang/invoke/MethodHandle" ∧ M2.y.cls ≠ "java/lang/invoke/VarHandle") ∧ (parseMethodDescriptor M2.y.desc).map (fun d => d.parameters.length) = some nargs ∧
  Cond.instanceMethod M2.y ∈ zt ∧ M2.y.name = "<init>" ∧ M2.hh = none
theorem z_callIN {ix b d mc ms : Nat} {M2 : zM} {As st0 : List Value} {P2 : zRes → zWorld → Prop} {host : String} (hd : decode M.code pc = .ok (.invokespecial ix, 3)) (hs : zCalIN M.y.cls ix M2 As.length host) (hM : ZM G M2 d mc ms (.ref b :: As) w P2) (hret : M2.ret = none)
    (hst0 : st0 = As.reverse ++ .ref b :: st) (hW : (st.map fun v => v.category).sum ≤ 8) (hR : d + 11 ≤ R.frames ∧ M2.maxL + (60 * d + 319) ≤ R.locals) (hf : k + mc ≤ R.cells ∧ n + ms ≤ R.slots) (hq : pc + 3 = q)
    (kk : ∀ rv w2, P2 (.inl rv) w2 → Z G M R (k + mc) (n + ms) q zl (rv.toList ++ st) w2 P) (kx : ∀ E w2, P2 (.inr E) w2 → ZX G M R (k + mc) (n + ms) pc zl st w2 E P) : Z G M R k n pc zl st0 w P := by
  intro p e s m args below meth c H locs ad ad0 n0 cls C HH hl hlo hst hn he
  subst hst0
  have hst1 : zoks w.length st := fun v hv => hst v (by simp [hv])
  have hav : zoks w.length (.ref b :: As) := fun v hv => hst v (by
    rcases List.mem_cons.mp hv with h | h
    · simp [h]
    · simp [h])
  obtain ⟨s1, s2, s3, s4, s5, s6, s7, s8⟩ := hs
  have hts := C.2.2.2.2.2.2.2.1
  have hcd : M2.cond = .code M2.y M2.code M2.maxL none := by unfold zM.cond; rw [s8, hret]
  have hB : va_CN R s args M.y.cls ix M2.y host M2.code M2.maxL none M2.ws (zrm d mc ms) mc ms As.length := by
    refine ⟨⟨rfl, rfl, hR.1, ?_, zpay hts s3, by rw [← hcd]; exact List.mem_cons_self⟩, by rw [← hcd]; exact hts _ s3, hts _ s2, s4, fun sig hs => ?_, zat C (L := [_]) (fun w hw => by rw [List.mem_singleton.mp hw]; exact Or.inr s1) _ List.mem_cons_self⟩
    · show 8 + (M2.maxL + 11) + (60 * d + 300) ≤ R.locals
      omega
    · rw [hs] at s5
      exact (Option.some.inj s5).symm
  have hrun := vx_runIN (g := F0 m pc cls ((As.reverse ++ .ref b :: st).map (zc ad))) (rest := st.map (zc ad)) (b := ad b) (As := As.map (zc ad)) (n := As.length) (index := ix) (e := e) (below := below) (meth := meth) (locs := locs) (cells := k) (slots := n) (mc := mc) (ms := ms)
    ⟨C.1, C.2.1, C.2.2.1, C.2.2.2.2.2.1, C.2.2.2.2.2.2.2.1⟩ (hM ad hav HH.2.2.2.1 HH.2.2.2.2) ⟨hB, s7, hts _ s6⟩
    ⟨zPre_blind, fun U hU hWd => ⟨rfl, zPre_at C HH hU hWd⟩⟩ rfl (by rw [List.length_map]) hl.1 (by simp [zc]) (by rw [zcats]; show 2 * 0 + _ ≤ 8; omega) hd hf
  exact z_run hrun C HH hl hlo hst1 hn he hq kk kx
theorem z_callSW {ix d mc ms : Nat} {M2 : zM} {As st0 : List Value} {P2 : zRes → zWorld → Prop} {hh : List (Nat × Nat × Nat × Nat)} (hd : decode M.code pc = .ok (.invokestatic ix, 3)) (hs : zCalSW M.y.cls ix M2 As.length hh) (hM : ZM G M2 d mc ms As w P2)
    (hst0 : st0 = As.reverse ++ st) (hW : (st.map fun v => v.category).sum ≤ 8) (hR : d + 11 ≤ R.frames ∧ M2.maxL + (60 * d + 319) ≤ R.locals) (hf : k + mc ≤ R.cells ∧ n + ms ≤ R.slots) (hq : pc + 3 = q)
    (kk : ∀ rv w2, P2 (.inl rv) w2 → Z G M R (k + mc) (n + ms) q zl (rv.toList ++ st) w2 P) (kx : ∀ E w2, P2 (.inr E) w2 → ZX G M R (k + mc) (n + ms) pc zl st w2 E P) : Z G M R k n pc zl st0 w P := by
  intro p e s m args below meth c H locs ad ad0 n0 cls C HH hl hlo hst hn he
  subst hst0
  have hst1 : zoks w.length st := fun v hv => hst v (by simp [hv])
  have hav : zoks w.length As := fun v hv => hst v (by simp [hv])
  obtain ⟨⟨s1, s2, s3, s4, s5⟩, s6, s7⟩ := hs
  have hts := C.2.2.2.2.2.2.2.1
  have hcd : M2.cond = .codeWith M2.y M2.code M2.maxL M2.ret hh := by unfold zM.cond; rw [s7]
  have hB : vx_CSW R s args M.y.cls ix M2.y M2.code M2.maxL M2.ret hh M2.ws (zrm d mc ms) mc ms As.length := by
    refine ⟨⟨rfl, rfl, hR.1, ?_, zpay hts s3, by rw [← hcd]; exact List.mem_cons_self⟩, by rw [← hcd]; exact hts _ s3, hts _ s2, s4, fun sig hs => ?_, hts _ s1, hts _ s6⟩
    · show 8 + (M2.maxL + 11) + (60 * d + 300) ≤ R.locals
      omega
    · rw [hs] at s5
      exact (Option.some.inj s5).symm
  have hrun := vx_runSX (g := F0 m pc cls ((As.reverse ++ st).map (zc ad))) (rest := st.map (zc ad)) (As := As.map (zc ad)) (n := As.length) (index := ix) (e := e) (below := below) (meth := meth) (locs := locs) (cells := k) (slots := n) (mc := mc) (ms := ms)
    ⟨C.1, C.2.1, C.2.2.1, C.2.2.2.2.2.1, C.2.2.2.2.2.2.2.1⟩ (hM ad hav HH.2.2.2.1 HH.2.2.2.2) hB
    ⟨zPre_blind, fun U hU hWd => ⟨rfl, zPre_at C HH hU hWd⟩⟩ rfl (by rw [List.length_map]) hl.1 (by simp) (by rw [zcats]; show 2 * 0 + _ ≤ 8; omega) hd hf
  exact z_run hrun C HH hl hlo hst1 hn he hq kk kx
/-- caught, and answered with a small number: astore, iconst, ireturn -/
theorem zx_catch {E name : String} {pre suf : List ExceptionTableEntry} {x : ExceptionTableEntry} {v : Int32} {i p2 p3 : Nat} {c1 : Int} {ty : FieldType} (hsplit : M.table = pre ++ x :: suf)
    (hpass : ∀ z ∈ pre, covers z pc = false ∨ (z.catchType ≠ 0 ∧ ∃ nm : String, Cond.classLink M.y.cls z.catchType nm ∈ zt ∧ (E, nm) ∈ znc)) (hx : covers x pc = true) (h0 : x.catchType ≠ 0) (hlink : Cond.classLink M.y.cls x.catchType name ∈ zt) (hcast : Cond.castable E name ∈ zbad ∨ Cond.castable E name ∈ zt)
    (hi : i < M.maxL) (d1 : (∃ j : Fin 4, (j : Nat) = i ∧ decode M.code x.handlerPc = .ok (.astore_n j, 1) ∧ x.handlerPc + 1 = p2) ∨ (decode M.code x.handlerPc = .ok (.astore i, 2) ∧ x.handlerPc + 2 = p2)) (d2 : decode M.code p2 = .ok (.iconst c1, 1)) (hp3 : p2 + 1 = p3) (d3 : decode M.code p3 = .ok (.ireturn, 1)) (hv : Int32.ofInt c1 = v)
    (hr : M.ret = some .int) (hk : k ≤ R.cells ∧ n ≤ R.slots) (hP : P (.inl (some (.int v))) w) : ZX G M R k n pc zl st w E P := by
  intro p e s m args below meth c H locs ad ad0 n0 cls q9 ce C HH hl hlo hst hn he h1 h2 h3
  have hts := C.2.2.2.2.2.2.2.1
  have hcs : (Cond.castable E name).before args s = true := zat C (L := [_]) (fun w hw => by rw [List.mem_singleton.mp hw]; exact hcast.symm) _ List.mem_cons_self
  refine vx_catch (name := name) C.2.2.2.2.2.1 pre x suf (C.2.2.2.2.2.2.2.2.2.2.2.1.trans hsplit) (fun z hz => ?_) hx h0 (hts _ hlink) hcs h1 h2 h3 ?_
  · rcases hpass z hz with h | ⟨h4, nm, h5, h6⟩
    · exact Or.inl h
    · exact Or.inr ⟨h4, nm, hts _ h5, C.2.2.2.2.2.2.2.2.2.1.2.2.2.2.1 _ h6⟩
  · have hlast : ∀ ls' : Array Slot, W p G.l e R s m args below meth c H locs k n (vx_MQ below (zQc G ad0 n0 P) (zXc G ad0 n0 P) args s R.cells R.slots (zA G)) (F0 m p2 ls' []) := fun ls' => by
      refine lv_iconst C.1 C.2.1 d2 hv ?_
      rw [hp3]
      refine vx_ret (W.widen hk.1 hk.2 ?_)
      exact W.iret C.1 C.2.1 (C.2.2.2.1.trans hr) (fun t ht hW => ⟨some (.int v), w, ad, rfl, hP, ⟨hn, he, HH.2.2.2.1, by rw [ht]; exact HH.1, HH.2.1, HH.2.2.1.F ht⟩, fun v2 h2 => by cases h2; trivial⟩) HH.2.2.1.2.2 d3 C.2.2.2.2.1
    rcases d1 with ⟨j, hj, d1, e1⟩ | ⟨d1, e1⟩
    · exact lv_astore_n C.1 C.2.1 d1 hj hl hi rfl (fun ls' _ => by rw [e1]; exact hlast ls')
    · exact lv_astore C.1 C.2.1 d1 hl hi rfl (fun ls' _ => by rw [e1]; exact hlast ls')
end ZO
