/-- a callee, as the tables have it, from the pool entry ix of the c. own -/
def zCal (own : String) (ix : Nat) (M2 : zM) (nargs : Nat) : Prop :=
  Cond.methodLink own ix M2.y ∈ zt ∧ Cond.initialized M2.y.cls ∈ zt ∧ M2.cond ∈ zt ∧ (M2.y.cls ≠ "java/lang/invoke/MethodHandle" ∧ M2.y.cls ≠ "java/lang/invoke/VarHandle") ∧ (parseMethodDescriptor M2.y.desc).map (fun d => d.parameters.length) = some nargs
def zCalV (own : String) (ix : Nat) (M2 : zM) (nargs : Nat) : Prop := zCal own ix M2 nargs ∧ Cond.instanceMethod M2.y ∈ zt ∧ Cond.selects M2.y.cls M2.y M2.y ∈ zt ∧ M2.hh = none
def zCalS (own : String) (ix : Nat) (M2 : zM) (nargs : Nat) : Prop := zCal own ix M2 nargs ∧ Cond.static M2.y ∈ zt ∧ M2.hh = none
def zCalSW (own : String) (ix : Nat) (M2 : zM) (nargs : Nat) (hh : List (Nat × Nat × Nat × Nat)) : Prop := zCal own ix M2 nargs ∧ Cond.static M2.y ∈ zt ∧ M2.hh = some hh
def zCalI (own : String) (ix : Nat) (M2 : zM) (nargs : Nat) : Prop := zCal own ix M2 nargs ∧ Cond.instanceMethod M2.y ∈ zt ∧ M2.y.name = "<init>" ∧ M2.hh = none
section ZK
variable {G : zG} {M : zM} {R : Room} {k n pc q : Nat} {zl : List (Option Value)} {st : List Value} {w : zWorld} {P : zRes → zWorld → Prop}
/-- thrown over the frame -/
def ZX (G : zG) (M : zM) (R : Room) (k n pc : Nat) (zl : List (Option Value)) (st : List Value) (w : zWorld) (E : String) (P : zRes → zWorld → Prop) : Prop :=
  ∀ (p : Program) (e : Env) (s : State) (m : MethodId) (args : Array Value) (below : List Frame) (meth : Method) (c : Code) (H : Heap) (locs : List Loc) (ad ad0 : Nat → Nat) (n0 : Nat) (cls : Array Slot) (q9 : Addr) (ce : Cell),
    zCtx G M p s m args meth c → zHeap G s ad w H locs → zLoc cls M.maxL ad zl → zokl w.length zl → zoks w.length st → n0 ≤ w.length → zExt n0 ad0 ad → H[q9]? = some ce → ce.vm = .none → s.vm.findClass E = some ce.cls →
    vx_W p G.l e R s m args below meth c H locs k n (vx_MQ below (zQc G ad0 n0 P) (zXc G ad0 n0 P) args s R.cells R.slots (zA G)) (F0 m pc cls (st.map (zc ad))) q9
theorem zx_out {E : String} (hh : M.hh = none) (hk : k ≤ R.cells ∧ n ≤ R.slots) (hP : P (.inr E) w) : ZX G M R k n pc zl st w E P := by
  intro p e s m args below meth c H locs ad ad0 n0 cls q9 ce C HH hl hlo hst hn he h1 h2 h3
  have ht : c.exceptionTable.toList = [] := by
    rw [C.2.2.2.2.2.2.2.2.2.2.2.1]; unfold zM.table; rw [hh]
  exact vx_out (fun x hx => by rw [ht] at hx; cases hx) C.2.2.2.2.1 h1 h2 h3 (fun t hth hal => ⟨w, ad, hP, ⟨hn, he, HH.2.2.2.1, by rw [hth]; exact HH.1, HH.2.1, HH.2.2.1.F hth⟩⟩) HH.2.2.1.2.2 hk.1 hk.2
theorem zPre_blind {av : List Value} {ad : Nat → Nat} : FrameBlind (va_Pc (av.map (zc ad)) (zPre G ad w)) := fun a U g mk h => by
  obtain ⟨q0, q1, qP, qD, qK, qS⟩ := h
  refine ⟨q0, q1, qP, qD, va_K.moved (u := U) (U := U.calling g mk a) (Vm.Alike.refl U.vm) qK, ?_⟩
  have hW : U.WarmedH (U.calling g mk a).vm := State.WarmedH.refl U
  exact zStat.go (locs := []) qS q1 hW va_S.rf
theorem zPre_at {p : Program} {s : State} {m : MethodId} {args : Array Value} {meth : Method} {c : Code} {H : Heap} {locs : List Loc} {ad : Nat → Nat} (C : zCtx G M p s m args meth c) (HH : zHeap G s ad w H locs) {U : State} (hU : U.heap = H) (hW : s.WarmedH U.vm) : zPre G ad w U := by
  refine ⟨?_, by rw [hU]; exact HH.1, HH.2.1, va_K.moved hW.alike C.2.2.2.2.2.2.2.2.1, ?_⟩
  · rw [hU]; exact Nat.le_trans C.2.2.2.2.2.2.2.2.2.2.1 HH.2.2.1.1
  · rw [hU]; exact zStat.go C.2.2.2.2.2.2.2.2.2.1 C.2.2.2.2.2.2.2.2.2.2.1 hW HH.2.2.1
theorem z_run {p : Program} {e : Env} {s : State} {m : MethodId} {args a : Array Value} {below : List Frame} {meth : Method} {c : Code} {H : Heap} {locs : List Loc} {ad ad0 : Nat → Nat} {n0 mc ms : Nat} {cls : Array Slot} {st0 : List Value} {P2 : zRes → zWorld → Prop}
    (hr : vx_Run p G.l e R s m args below meth c H locs k n mc ms (F0 m pc cls st0) (st.map (zc ad)) (zQc G ad w.length P2 a) (zXc G ad w.length P2) (zA G))
    (C : zCtx G M p s m args meth c) (HH : zHeap G s ad w H locs) (hl : zLoc cls M.maxL ad zl) (hlo : zokl w.length zl) (hst : zoks w.length st) (hn : n0 ≤ w.length) (he : zExt n0 ad0 ad) (hq : pc + 3 = q)
    (kk : ∀ rv w2, P2 (.inl rv) w2 → Z G M R (k + mc) (n + ms) q zl (rv.toList ++ st) w2 P) (kx : ∀ E w2, P2 (.inr E) w2 → ZX G M R (k + mc) (n + ms) pc zl st w2 E P) :
    W p G.l e R s m args below meth c H locs k n (vx_MQ below (zQc G ad0 n0 P) (zXc G ad0 n0 P) args s R.cells R.slots (zA G)) (F0 m pc cls st0) := by
  subst hq
  intro T hT X
  rcases hr T hT X with ⟨v, st₀, t, T', L, h0, X', hL, e1, e2, ⟨rv, w2, ad2, hv, hp, ⟨b1, b2, b3, b4, b5, b6⟩, hrv⟩, stp⟩ | ⟨q9, st₀, t, T', L, E, ce, h0, X', hL, e1, e2, ⟨w2, ad2, hp, ⟨b1, b2, b3, b4, b5, b6⟩⟩, hce, hcv, hcl, stp⟩
  · cases hv
    obtain ⟨k1, k2, k3⟩ := vx_keep h0 e1 HH.2.2.1 (fun q _ h => h) (fun q h => h) hL b6
    obtain ⟨t2, a1, a2⟩ := kk rv w2 hp p e s m args below meth c T'.heap (locs ++ L) ad2 ad0 n0 cls C ⟨by rw [e1]; exact b4, b5, k3, b3, b2.2.trans HH.2.2.2.2⟩ (hl.ext b2 hlo) (hlo.mono b1)
      (fun x hx => by
        rcases List.mem_append.mp hx with h | h
        · exact hrv x (by cases rv with
            | none => cases h
            | some y => rw [List.mem_singleton.mp h])
        · exact (hst x h).mono b1) (Nat.le_trans hn b1) (he.trans hn b2) T' rfl X'
    refine ⟨t2, stp t2 ?_, a2⟩
    have hs : ((rv.map (zc ad2)).toList ++ st.map (zc ad)) = (rv.toList ++ st).map (zc ad2) := by
      rw [List.map_append, zcs_ext b2 hst]
      cases rv <;> rfl
    rw [hs]; exact a1
  · obtain ⟨k1, k2, k3⟩ := vx_keep h0 e1 HH.2.2.1 (fun q _ h => h) (fun q h => h) hL b6
    obtain ⟨t2, a1, a2⟩ := kx E w2 hp p e s m args below meth c T'.heap (locs ++ L) ad2 ad0 n0 cls q9 ce C ⟨by rw [e1]; exact b4, b5, k3, b3, b2.2.trans HH.2.2.2.2⟩ (hl.ext b2 hlo) (hlo.mono b1) (hst.mono b1) (Nat.le_trans hn b1) (he.trans hn b2)
      (by rw [e1]; exact hce) hcv hcl T' rfl X'
    refine ⟨t2, stp.trans ?_, a2⟩
    rw [zcs_ext b2 hst] at a1
    exact a1
theorem zpay {s : State} {args : Array Value} (hts : ∀ w ∈ zt, w.before args s = true) {M2 : zM} (hc : M2.cond ∈ zt) : ∀ w ∈ M2.ws, ∀ (a' : Array Value) (U : State), s.WarmedH U.vm → w.before a' U = true := by
  refine pay_in hts fun w hw => ?_
  rcases List.mem_cons.mp hw with h | h
  · rw [h]; exact zt_good _ hc
  · exact zt_good _ h
theorem zCal.B {own : String} {ix nargs mc ms d : Nat} {M2 : zM} {s : State} {args : Array Value} (h : zCal own ix M2 nargs) (hh : M2.hh = none) (hts : ∀ w ∈ zt, w.before args s = true) (hR : d + 11 ≤ R.frames ∧ M2.maxL + (60 * d + 319) ≤ R.locals) :
    CallB R s args own ix M2.y M2.code M2.maxL M2.ret M2.ws (zrm d mc ms) mc ms nargs := by
  obtain ⟨h1, h2, h3, h4, h5⟩ := h
  have hcd : M2.cond = .code M2.y M2.code M2.maxL M2.ret := by unfold zM.cond; rw [hh]
  refine ⟨rfl, rfl, hR.1, ?_, zpay hts h3, ?_, ?_, hts _ h2, h4, fun sig hs => ?_, hts _ h1⟩
  · show 8 + (M2.maxL + 11) + (60 * d + 300) ≤ R.locals
    omega
  · rw [← hcd]; exact List.mem_cons_self
  · rw [← hcd]; exact hts _ h3
  · rw [hs] at h5
    exact (Option.some.inj h5).symm
theorem zrecv {b ci : Nat} {fs : List Value} {C1 : String} {s : State} {ad : Nat → Nat} {H : Heap} {locs : List Loc} (HH : zHeap G s ad w H locs) (hK : va_K G.D zcl (ztys G) s) (hc : w[b]? = some (.inr (ci, fs))) (hci : (zcl[ci]?).map (fun r => r.1) = some C1) : ∃ cellB : Cell, H[ad b]? = some cellB ∧ cellB.vm.isStatics = false ∧ s.vm.findClass C1 = some cellB.cls := by
  obtain ⟨r, h1, cell, q1, q2, q3, q4⟩ := HH.1 b _ (zW_get G ad w b hc)
  rw [h1] at hci
  cases hci
  exact ⟨cell, q1, by rw [q3]; rfl, by rw [q2]; exact (hK.1 ci _ h1).2.1⟩
theorem z_callV {ix b ci d mc ms : Nat} {M2 : zM} {fs As st0 : List Value} {P2 : zRes → zWorld → Prop} (hd : decode M.code pc = .ok (.invokevirtual ix, 3)) (hs : zCalV M.y.cls ix M2 As.length) (hM : ZM G M2 d mc ms (.ref b :: As) w P2) (hc : w[b]? = some (.inr (ci, fs))) (hci : (zcl[ci]?).map (fun r => r.1) = some M2.y.cls)
    (hst0 : st0 = As.reverse ++ .ref b :: st) (hW : (st.map fun v => v.category).sum ≤ 8) (hR : d + 11 ≤ R.frames ∧ M2.maxL + (60 * d + 319) ≤ R.locals) (hf : k + mc ≤ R.cells ∧ n + ms ≤ R.slots) (hq : pc + 3 = q)
    (kk : ∀ rv w2, P2 (.inl rv) w2 → Z G M R (k + mc) (n + ms) q zl (rv.toList ++ st) w2 P) (kx : ∀ E w2, P2 (.inr E) w2 → ZX G M R (k + mc) (n + ms) pc zl st w2 E P) : Z G M R k n pc zl st0 w P := by
  intro p e s m args below meth c H locs ad ad0 n0 cls C HH hl hlo hst hn he
  subst hst0
  have hst1 : zoks w.length st := fun v hv => hst v (by simp [hv])
  have hav : zoks w.length (.ref b :: As) := fun v hv => hst v (by
    rcases List.mem_cons.mp hv with h | h
    · simp [h]
    · simp [h])
  have hrun := vx_runV (g := F0 m pc cls ((As.reverse ++ .ref b :: st).map (zc ad))) (rest := st.map (zc ad)) (b := ad b) (As := As.map (zc ad)) (n := As.length) (index := ix) (e := e) (below := below) (meth := meth) (locs := locs) (cells := k) (slots := n) (mc := mc) (ms := ms)
    ⟨C.1, C.2.1, C.2.2.1, C.2.2.2.2.2.1, C.2.2.2.2.2.2.2.1⟩ (hM ad hav HH.2.2.2.1 HH.2.2.2.2) ⟨zCal.B (R := R) (mc := mc) (ms := ms) hs.1 hs.2.2.2 C.2.2.2.2.2.2.2.1 hR, C.2.2.2.2.2.2.2.1 _ hs.2.1, C.2.2.2.2.2.2.2.1 _ hs.2.2.1⟩
    ⟨zPre_blind, zrecv HH C.2.2.2.2.2.2.2.2.1 hc hci, fun U hU hWd => ⟨rfl, zPre_at C HH hU hWd⟩⟩ rfl (by rw [List.length_map]) hl.1 (by simp [zc]) (by rw [zcats]; show 2 * 0 + _ ≤ 8; omega) hd hf
  exact z_run hrun C HH hl hlo hst1 hn he hq kk kx
theorem z_callS {ix d mc ms : Nat} {M2 : zM} {As st0 : List Value} {P2 : zRes → zWorld → Prop} (hd : decode M.code pc = .ok (.invokestatic ix, 3)) (hs : zCalS M.y.cls ix M2 As.length) (hM : ZM G M2 d mc ms As w P2)
    (hst0 : st0 = As.reverse ++ st) (hW : (st.map fun v => v.category).sum ≤ 8) (hR : d + 11 ≤ R.frames ∧ M2.maxL + (60 * d + 319) ≤ R.locals) (hf : k + mc ≤ R.cells ∧ n + ms ≤ R.slots) (hq : pc + 3 = q)
    (kk : ∀ rv w2, P2 (.inl rv) w2 → Z G M R (k + mc) (n + ms) q zl (rv.toList ++ st) w2 P) (kx : ∀ E w2, P2 (.inr E) w2 → ZX G M R (k + mc) (n + ms) pc zl st w2 E P) : Z G M R k n pc zl st0 w P := by
  intro p e s m args below meth c H locs ad ad0 n0 cls C HH hl hlo hst hn he
  subst hst0
  have hst1 : zoks w.length st := fun v hv => hst v (by simp [hv])
  have hav : zoks w.length As := fun v hv => hst v (by simp [hv])
  have hrun := vx_runS (g := F0 m pc cls ((As.reverse ++ st).map (zc ad))) (rest := st.map (zc ad)) (As := As.map (zc ad)) (n := As.length) (index := ix) (e := e) (below := below) (meth := meth) (locs := locs) (cells := k) (slots := n) (mc := mc) (ms := ms)
    ⟨C.1, C.2.1, C.2.2.1, C.2.2.2.2.2.1, C.2.2.2.2.2.2.2.1⟩ (hM ad hav HH.2.2.2.1 HH.2.2.2.2) ⟨zCal.B (R := R) (mc := mc) (ms := ms) hs.1 hs.2.2 C.2.2.2.2.2.2.2.1 hR, C.2.2.2.2.2.2.2.1 _ hs.2.1⟩
    ⟨zPre_blind, fun U hU hWd => ⟨rfl, zPre_at C HH hU hWd⟩⟩ rfl (by rw [List.length_map]) hl.1 (by simp) (by rw [zcats]; show 2 * 0 + _ ≤ 8; omega) hd hf
  exact z_run hrun C HH hl hlo hst1 hn he hq kk kx
theorem z_callI {ix b d mc ms : Nat} {M2 : zM} {As st0 : List Value} {P2 : zRes → zWorld → Prop} (hd : decode M.code pc = .ok (.invokespecial ix, 3)) (hs : zCalI M.y.cls ix M2 As.length) (hM : ZM G M2 d mc ms (.ref b :: As) w P2) (hret : M2.ret = none)
    (hst0 : st0 = As.reverse ++ .ref b :: st) (hW : (st.map fun v => v.category).sum ≤ 8) (hR : d + 11 ≤ R.frames ∧ M2.maxL + (60 * d + 319) ≤ R.locals) (hf : k + mc ≤ R.cells ∧ n + ms ≤ R.slots) (hq : pc + 3 = q)
    (kk : ∀ rv w2, P2 (.inl rv) w2 → Z G M R (k + mc) (n + ms) q zl (rv.toList ++ st) w2 P) (kx : ∀ E w2, P2 (.inr E) w2 → ZX G M R (k + mc) (n + ms) pc zl st w2 E P) : Z G M R k n pc zl st0 w P := by
  intro p e s m args below meth c H locs ad ad0 n0 cls C HH hl hlo hst hn he
  subst hst0
  have hst1 : zoks w.length st := fun v hv => hst v (by simp [hv])
  have hav : zoks w.length (.ref b :: As) := fun v hv => hst v (by
    rcases List.mem_cons.mp hv with h | h
    · simp [h]
    · simp [h])
  have hB := zCal.B (R := R) (mc := mc) (ms := ms) (d := d) hs.1 hs.2.2.2 C.2.2.2.2.2.2.2.1 hR
  rw [hret] at hB
  have hrun := vx_runI (g := F0 m pc cls ((As.reverse ++ .ref b :: st).map (zc ad))) (rest := st.map (zc ad)) (b := ad b) (As := As.map (zc ad)) (n := As.length) (index := ix) (e := e) (below := below) (meth := meth) (locs := locs) (cells := k) (slots := n) (mc := mc) (ms := ms)
    ⟨C.1, C.2.1, C.2.2.1, C.2.2.2.2.2.1, C.2.2.2.2.2.2.2.1⟩ (hM ad hav HH.2.2.2.1 HH.2.2.2.2) ⟨hB, hs.2.2.1, C.2.2.2.2.2.2.2.1 _ hs.2.1⟩
    ⟨zPre_blind, fun U hU hWd => ⟨rfl, zPre_at C HH hU hWd⟩⟩ rfl (by rw [List.length_map]) hl.1 (by simp [zc]) (by rw [zcats]; show 2 * 0 + _ ≤ 8; omega) hd hf
  exact z_run hrun C HH hl hlo hst1 hn he hq kk kx
/-- what a throw of a new cn with a text needs of the tables -/
def zThr (own : String) (ik is ic : Nat) (cn text : String) (names : List String) : Prop :=
  Bundle.fit cn = true ∧ (∀ n ∈ names, Bundle.fit n = true) ∧ Cond.classLink own ik cn ∈ zt ∧ Cond.initialized cn ∈ zt ∧ (own, is, text) ∈ zstr ∧ (∀ w ∈ vx_atS own ic cn names, w ∈ zt ∨ w ∈ zbad) ∧
  (∀ w ∈ Cond.classLink own ik cn :: Cond.initialized cn :: vx_atS own ic cn names, vx_ot w = true) ∧ names.length = 2
theorem zat {p : Program} {s : State} {m : MethodId} {args : Array Value} {meth : Method} {c : Code} (C : zCtx G M p s m args meth c) {L : List Cond} (h : ∀ w ∈ L, w ∈ zt ∨ w ∈ zbad) : ∀ w ∈ L, w.before args s = true := fun w hw => by
  rcases h w hw with h1 | h1
  · exact C.2.2.2.2.2.2.2.1 w h1
  · have hf := (List.mem_filter.mp h1).2
    simp only [Bool.and_eq_true] at hf
    exact zfair_at (State.WarmedH.refl s) hf.2 (C.2.2.2.2.2.2.2.2.2.1.2.2.1 w h1)
theorem z_throw {ik is ic : Nat} {cn text : String} {names : List String} (d0 : decode M.code pc = .ok (.new ik, 3)) (d3 : decode M.code (pc + 3) = .ok (.dup, 1)) (d4 : decode M.code (pc + 4) = .ok (.ldc is, 2)) (d6 : decode M.code (pc + 6) = .ok (.invokespecial ic, 3)) (d9 : decode M.code (pc + 9) = .ok (.athrow, 1))
    (hT : zThr M.y.cls ik is ic cn text names) (hh : M.hh = none) (hR : 6 ≤ R.frames ∧ (st.map fun v => v.category).sum + 82 ≤ R.locals ∧ k + 1 ≤ R.cells ∧ n + 6 ≤ R.slots) (hP : P (.inr cn) w) : Z G M R k n pc zl st w P := by
  intro p e s m args below meth c H locs ad ad0 n0 cls C HH hl hlo hst hn he
  obtain ⟨t1, t2, t3, t4, t5, t6, t7, t8⟩ := hT
  obtain ⟨sa, hsa⟩ := C.2.2.2.2.2.2.2.2.2.1.2.2.2.1 _ t5
  have ht : c.exceptionTable.toList = [] := by
    rw [C.2.2.2.2.2.2.2.2.2.2.2.1]; unfold zM.table; rw [hh]
  refine vx_throwS (names := names) (text := text) (sa := sa) (A := zA G) C.1 C.2.1 C.2.2.2.2.2.2.2.2.2.2.2.2 C.2.2.2.2.2.1 t1 t2 (C.2.2.2.2.2.2.2.1 _ t3) (C.2.2.2.2.2.2.2.1 _ t4) hsa (zat C t6) t7 C.2.2.2.2.2.2.2.2.2.1.1 C.2.2.2.2.2.2.2.2.2.1.2.1 HH.2.2.1 (hl.1.trans C.2.2.1.symm) d0 d3 d4 d6 d9 (fun x hx => by rw [ht] at hx; cases hx)
    (by omega) (by rw [zcats]; omega) hR.2.2.1 hR.2.2.2 C.2.2.2.2.1 (fun t hal hsz hkp => ?_) HH.2.2.1.2.2 hR.2.2.1 hR.2.2.2
  refine ⟨w, ad, hP, hn, he, HH.2.2.2.1, fun i x hx => (HH.1 i x hx).kept (hkp _ (HH.1 i x hx).lt), HH.2.1, Nat.le_trans HH.2.2.1.1 hsz, fun q hq hA => ?_⟩
  rw [hkp q (Nat.lt_of_lt_of_le hq HH.2.2.1.1)]
  exact HH.2.2.1.2.1 q hq hA
theorem z_throwW {ik is ic : Nat} {cn text : String} {names : List String} (d0 : decode M.code pc = .ok (.new ik, 3)) (d3 : decode M.code (pc + 3) = .ok (.dup, 1)) (d4 : decode M.code (pc + 4) = .ok (.ldc_w is, 3)) (d6 : decode M.code (pc + 7) = .ok (.invokespecial ic, 3)) (d9 : decode M.code (pc + 10) = .ok (.athrow, 1))
    (hT : zThr M.y.cls ik is ic cn text names) (hh : M.hh = none) (hR : 6 ≤ R.frames ∧ (st.map fun v => v.category).sum + 82 ≤ R.locals ∧ k + 1 ≤ R.cells ∧ n + 6 ≤ R.slots) (hP : P (.inr cn) w) : Z G M R k n pc zl st w P := by
  intro p e s m args below meth c H locs ad ad0 n0 cls C HH hl hlo hst hn he
  obtain ⟨t1, t2, t3, t4, t5, t6, t7, t8⟩ := hT
  obtain ⟨sa, hsa⟩ := C.2.2.2.2.2.2.2.2.2.1.2.2.2.1 _ t5
  have ht : c.exceptionTable.toList = [] := by
    rw [C.2.2.2.2.2.2.2.2.2.2.2.1]; unfold zM.table; rw [hh]
  refine vx_throwSW (names := names) (text := text) (sa := sa) (A := zA G) C.1 C.2.1 C.2.2.2.2.2.2.2.2.2.2.2.2 C.2.2.2.2.2.1 t1 t2 (C.2.2.2.2.2.2.2.1 _ t3) (C.2.2.2.2.2.2.2.1 _ t4) hsa (zat C t6) t7 C.2.2.2.2.2.2.2.2.2.1.1 C.2.2.2.2.2.2.2.2.2.1.2.1 HH.2.2.1 (hl.1.trans C.2.2.1.symm) d0 d3 d4 d6 d9 (fun x hx => by rw [ht] at hx; cases hx)
    (by omega) (by rw [zcats]; omega) hR.2.2.1 hR.2.2.2 C.2.2.2.2.1 (fun t hal hsz hkp => ?_) HH.2.2.1.2.2 hR.2.2.1 hR.2.2.2
  refine ⟨w, ad, hP, hn, he, HH.2.2.2.1, fun i x hx => (HH.1 i x hx).kept (hkp _ (HH.1 i x hx).lt), HH.2.1, Nat.le_trans HH.2.2.1.1 hsz, fun q hq hA => ?_⟩
  rw [hkp q (Nat.lt_of_lt_of_le hq HH.2.2.1.1)]
  exact HH.2.2.1.2.1 q hq hA
theorem z_objInit {ix b : Nat} (hd : decode M.code pc = .ok (.invokespecial ix, 3)) (hl1 : Cond.methodLink M.y.cls ix Lib.objectInit ∈ zt) (hl2 : Cond.instanceMethod Lib.objectInit ∈ zt) (hl3 : Cond.code Lib.objectInit ⟨#[0xb1]⟩ 1 none ∈ zt) (hW : (st.map fun v => v.category).sum ≤ 8) (hR : 1 ≤ R.frames ∧ 20 ≤ R.locals) (hq : pc + 3 = q) (kk : Z G M R k n q zl st w P) : Z G M R k n pc zl (.ref b :: st) w P := by
  subst hq
  intro p e s m args below meth c H locs ad ad0 n0 cls C HH hl hlo hst hn he
  have hts := C.2.2.2.2.2.2.2.1
  refine W.objInit C.1 C.2.1 C.2.2.2.2.2.1 (hts _ hl1) (hts _ hl2) (hts _ hl3) (a := ad b) (rest := st.map (zc ad)) rfl (hl.1.trans C.2.2.1.symm) rfl hd hR.1 (by rw [zcats]; show 2 * 0 + _ + 12 ≤ _; omega) ?_
  exact W.eq (g2 := F0 m (pc + 3) cls (st.map (zc ad))) rfl (kk p e s m args below meth c H locs ad ad0 n0 cls C HH hl hlo hst.tl hn he)
theorem zExt_up {n x : Nat} {ad : Nat → Nat} {v : Nat} (h : n ≤ x) (hx : x < zSI) : zExt n ad (va_up ad x v) := ⟨fun i hi => if_neg (by omega), if_neg (by omega)⟩
theorem z_new {ix ci N : Nat} {fs : List Value} (hd : decode M.code pc = .ok (.new ix, 3)) (hs : zNew M.y.cls ix ci N fs) (hlen : w.length < zSI) (hR : k + 1 ≤ R.cells ∧ n + N ≤ R.slots) (hq : pc + 3 = q) (kk : Z G M R (k + 1) (n + N) q zl (.ref w.length :: st) (w ++ [.inr (ci, fs)]) P) : Z G M R k n pc zl st w P := by
  subst hq
  intro p e s m args below meth c H locs ad ad0 n0 cls C HH hl hlo hst hn he
  obtain ⟨Cn, T, tyf, f1, f2, f3, f4, f5, f6, f7, f8, f9⟩ := hs
  have hts := C.2.2.2.2.2.2.2.1
  refine va_new (c0 := c) (fs := fs) C.1 C.2.1 hts f2 tyf f3 C.2.2.2.2.2.1 (hts _ f4) (hts _ f5) (hts _ f6) C.2.2.2.2.2.2.2.2.1 HH.1 HH.2.1 HH.2.2.1 (fun q h => Nat.le_trans C.2.2.2.2.2.2.2.2.2.2.1 h) f1 f7 hR.1 hR.2 hd (fun q5 H1 hP hD hS => ?_)
  have hx : zExt w.length ad (va_up ad w.length q5) := zExt_up (Nat.le_refl _) hlen
  have e1 : zW G ad w ++ [(q5, (Sum.inr (ci, fs) : va_E))] = zW G (va_up ad w.length q5) (w ++ [.inr (ci, fs)]) := by
    rw [zW_push, zW_ext G hx HH.2.2.2.1]
    show _ = _ ++ [(va_up ad w.length q5 w.length, Sum.inr (ci, fs.map (zc (va_up ad w.length q5))))]
    rw [f8, show va_up ad w.length q5 w.length = q5 from if_pos rfl]
  rw [e1] at hP hD
  have hl1 : (w ++ [(Sum.inr (ci, fs) : zCell)]).length = w.length + 1 := by simp
  have hle : w.length ≤ (w ++ [(Sum.inr (ci, fs) : zCell)]).length := by rw [hl1]; exact Nat.le_succ _
  have hgo := kk p e s m args below meth c H1 locs (va_up ad w.length q5) ad0 n0 cls C ⟨hP, hD, hS, HH.2.2.2.1.push hlen (f9 _), hx.2.trans HH.2.2.2.2⟩ (hl.ext hx hlo) (hlo.mono hle) (.cons (Or.inl (by rw [hl1]; exact Nat.lt_succ_self _)) (hst.mono hle)) (Nat.le_trans hn hle) (he.trans hn hx)
  rw [show ((Value.ref w.length :: st).map (zc (va_up ad w.length q5))) = .ref q5 :: st.map (zc ad) by
    rw [List.map_cons, zcs_ext hx hst]
    exact congrArg (· :: _) (congrArg Value.ref (if_pos rfl))] at hgo
  exact hgo
theorem z_newa {atype : ArrayType} {t N : Nat} {v : Int32} {a0 : vp_A} {ty : FieldType} (hd : decode M.code pc = .ok (.newarray atype, 2)) (harr : Cond.arrayClass (newarray.typeOf atype) ∈ zt) (hty : newarray.typeOf atype = ty) (htt : (ztys G)[t]? = some (G.tI t, ty)) (ha : ∀ cA : ClassId, vp_cell cA a0 = arrV cA N (fun _ => defaultValue ty)) (hprim : ∀ C : String, ty ≠ .object C) (hv : ¬ v < 0) (hN : v.toNatClampNeg = N) (hby : N * componentBytes ty ≤ 536870912) (hlen : w.length < zSI) (hR : k + 1 ≤ R.cells ∧ n + N ≤ R.slots) (hq : pc + 2 = q) (kk : Z G M R (k + 1) (n + N) q zl (.ref w.length :: st) (w ++ [.inl (t, a0)]) P) : Z G M R k n pc zl (.int v :: st) w P := by
  subst hq
  intro p e s m args below meth c H locs ad ad0 n0 cls C HH hl hlo hst hn he
  have hts := C.2.2.2.2.2.2.2.1
  refine va_newa (ty := ty) (a0 := a0) (N' := N) C.1 C.2.1 (hts _ harr) hty C.2.2.2.2.2.2.2.2.1 HH.1 HH.2.1 HH.2.2.1 (fun q h => Nat.le_trans C.2.2.2.2.2.2.2.2.2.2.1 h) ha hv hN hby hR.1 hR.2 hd (fun q5 cA H1 hK2 hP hD hS => ?_)
  have hcA : cA = G.tI t := by
    have h1 := (hK2.2 1 (cA, ty) rfl).2
    have h2 := (C.2.2.2.2.2.2.2.2.1.2 t (G.tI t, ty) htt).2
    cases ty with
    | object C => exact absurd rfl (hprim C)
    | _ => exact Option.some.inj (Eq.trans (Eq.symm h1) h2)
  subst hcA
  have hx : zExt w.length ad (va_up ad w.length q5) := zExt_up (Nat.le_refl _) hlen
  have e1 : zW G ad w ++ [(q5, (Sum.inl (G.tI t, a0) : va_E))] = zW G (va_up ad w.length q5) (w ++ [.inl (t, a0)]) := by
    rw [zW_push, zW_ext G hx HH.2.2.2.1]
    show _ = _ ++ [(va_up ad w.length q5 w.length, Sum.inl (G.tI t, a0))]
    rw [show va_up ad w.length q5 w.length = q5 from if_pos rfl]
  rw [e1] at hP hD
  have hl1 : (w ++ [(Sum.inl (t, a0) : zCell)]).length = w.length + 1 := by simp
  have hle : w.length ≤ (w ++ [(Sum.inl (t, a0) : zCell)]).length := by rw [hl1]; exact Nat.le_succ _
  have hgo := kk p e s m args below meth c H1 locs (va_up ad w.length q5) ad0 n0 cls C ⟨hP, hD, hS, HH.2.2.2.1.push hlen trivial, hx.2.trans HH.2.2.2.2⟩ (hl.ext hx hlo) (hlo.mono hle) (.cons (Or.inl (by rw [hl1]; exact Nat.lt_succ_self _)) (hst.tl.mono hle)) (Nat.le_trans hn hle) (he.trans hn hx)
  rw [show ((Value.ref w.length :: st).map (zc (va_up ad w.length q5))) = .ref q5 :: st.map (zc ad) by
    rw [List.map_cons, zcs_ext hx hst.tl]
    exact congrArg (· :: _) (congrArg Value.ref (if_pos rfl))] at hgo
  exact hgo
end ZK
