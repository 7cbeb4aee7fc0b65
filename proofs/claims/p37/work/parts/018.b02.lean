def zfair (w : Cond) : Bool := w.onTables && (w.keepsFace || w.keepsH)
def zbad : List Cond := lw_tbl.filter fun w => !goodWord w && zfair w
def zstrOf (w : Cond) : Option (String × Nat × String) := match w with
  | .stringRef a k t => some (a, k, t)
  | _ => none
def zstr : List (String × Nat × String) := lw_tbl.filterMap zstrOf
def znc : List (String × String) := [("java/lang/IllegalArgumentException", "java/lang/IndexOutOfBoundsException"), ("java/lang/IllegalStateException", "java/lang/IndexOutOfBoundsException"), ("java/lang/IllegalStateException", "java/lang/IllegalArgumentException"), ("java/lang/UnsupportedOperationException", "java/lang/IndexOutOfBoundsException"), ("java/lang/UnsupportedOperationException", "java/lang/IllegalArgumentException"), ("java/lang/UnsupportedOperationException", "java/lang/IllegalStateException"), ("java/util/NoSuchElementException", "java/lang/IndexOutOfBoundsException"), ("java/util/NoSuchElementException", "java/lang/IllegalArgumentException"), ("java/util/NoSuchElementException", "java/lang/IllegalStateException"), ("java/util/NoSuchElementException", "java/lang/UnsupportedOperationException")]
theorem zfair_at {args a' : Array Value} {s U : State} {w : Cond} (hW : s.WarmedH U.vm) (hg : zfair w = true) (h : w.before args s = true) : w.before a' U = true := by
  simp only [zfair, Bool.and_eq_true, Bool.or_eq_true] at hg
  rcases hg with ⟨h1, h2 | h2⟩
  · have h3 : w.before args (s.setVm U.vm) = true := Cond.before_shiftedFace (State.Shifted.of_warmed hW) w h2 h
    exact va_tabs (u := s.setVm U.vm) (A := args) h1 rfl h3
  · have h3 := Cond.onTables_warmH (T := U) (args' := a') hW h1 h2 h
    rwa [State.setVm_self] at h3
/-- what stands beside the world: statics of Throwable, words that are no good ones, texts, classes that don't cast, the script -/
def zStat (G : zG) (U : State) (H : Heap) : Prop :=
  vx_Zq Bundle.tN "UNASSIGNED_STACK" Bundle.steD (zA G) U H ∧ vx_Zq Bundle.tN "SUPPRESSED_SENTINEL" Bundle.listD (zA G) U H ∧ (∀ w ∈ zbad, w.before #[] U = true) ∧
  (∀ q ∈ zstr, ∃ a, vk_R q.1 q.2.1 q.2.2 a U) ∧ (∀ q ∈ znc, va_Nc q.1 q.2 U) ∧ va_X G.b G.L G.xs U H ∧ G.b < G.base ∧ G.l.stackTraces = false
theorem zStat.go {G : zG} {s U : State} {H0 H : Heap} {locs : List Loc} (h : zStat G s H0) (hb : G.base ≤ H0.size) (hW : s.WarmedH U.vm) (hS : va_S (zA G) H0 H locs) : zStat G U H := by
  obtain ⟨h1, h2, h3, h4, h5, h6, h7⟩ := h
  refine ⟨(vx_Zq.moved hW.alike h1).kept hS.2.1, (vx_Zq.moved hW.alike h2).kept hS.2.1, fun w hw => ?_, fun q hq => ?_, fun q hq => (h5 q hq).moved hW.alike, ?_, h7⟩
  · have hf := (List.mem_filter.mp hw).2
    simp only [Bool.and_eq_true] at hf
    exact zfair_at hW hf.2 (h3 w hw)
  · obtain ⟨a, ha⟩ := h4 q hq
    exact ⟨a, ha.warm hW⟩
  · exact (va_X.moved hW.alike h6).kept (hS.2.1 _ (Nat.lt_of_lt_of_le h7.1 hb) (Nat.not_le.mpr h7.1))
/-- a method: name, code, places, what it answers, its table -/
abbrev zM : Type := MethodName × ByteArray × Nat × Option FieldType × Option (List (Nat × Nat × Nat × Nat))
abbrev zM.y (M : zM) : MethodName := M.1
abbrev zM.code (M : zM) : ByteArray := M.2.1
abbrev zM.maxL (M : zM) : Nat := M.2.2.1
abbrev zM.ret (M : zM) : Option FieldType := M.2.2.2.1
abbrev zM.hh (M : zM) : Option (List (Nat × Nat × Nat × Nat)) := M.2.2.2.2
def zM.cond (M : zM) : Cond := match M.hh with
  | none => .code M.y M.code M.maxL M.ret
  | some hh => .codeWith M.y M.code M.maxL M.ret hh
def zM.ws (M : zM) : List Cond := M.cond :: zt
def zM.table (M : zM) : List ExceptionTableEntry := match M.hh with
  | none => []
  | some hh => tableOf hh
abbrev zRes : Type := Option Value ⊕ String
def zCtx (G : zG) (M : zM) (p : Program) (s : State) (m : MethodId) (args : Array Value) (meth : Method) (c : Code) : Prop :=
  p.tables.exec = Jvm.exec ∧ c.code = M.code ∧ c.maxLocals = M.maxL ∧ meth.sig.returnType = M.ret ∧ meth.locks = false ∧ s.vm.findClass M.y.cls = some m.cls ∧ meth.name = M.y.name ∧
  (∀ w ∈ zt, w.before args s = true) ∧ va_K G.D zcl (ztys G) s ∧ zStat G s s.heap ∧ G.base ≤ s.heap.size ∧ c.exceptionTable.toList = M.table ∧ G.l.stackTraces = false
def zHeap (G : zG) (s : State) (ad : Nat → Nat) (w : zWorld) (H : Heap) (locs : List Loc) : Prop :=
  va_P G.D zcl (zW G ad w) H ∧ va_D (zA G) (zW G ad w) ∧ va_S (zA G) s.heap H locs ∧ zokW w ∧ ad zSI = G.b
def zoks (n : Nat) (st : List Value) : Prop := ∀ v ∈ st, zok n v
def zokl (n : Nat) (zl : List (Option Value)) : Prop := ∀ v, some v ∈ zl → zok n v
def zPost (G : zG) (ad0 : Nat → Nat) (n0 : Nat) (ad : Nat → Nat) (w : zWorld) (st t : State) : Prop :=
  n0 ≤ w.length ∧ zExt n0 ad0 ad ∧ zokW w ∧ va_P G.D zcl (zW G ad w) t.heap ∧ va_D (zA G) (zW G ad w) ∧ va_F (zA G) st t
def zQc (G : zG) (ad0 : Nat → Nat) (n0 : Nat) (P : zRes → zWorld → Prop) : Array Value → State → Outcome → State → Prop := fun _ st o t =>
  ∃ (rv : Option Value) (w : zWorld) (ad : Nat → Nat), o = .returned (rv.map (zc ad)) ∧ P (.inl rv) w ∧ zPost G ad0 n0 ad w st t ∧ ∀ v, rv = some v → zok w.length v
def zXc (G : zG) (ad0 : Nat → Nat) (n0 : Nat) (P : zRes → zWorld → Prop) : String → State → State → Prop := fun E st t =>
  ∃ (w : zWorld) (ad : Nat → Nat), P (.inr E) w ∧ zPost G ad0 n0 ad w st t
def Z (G : zG) (M : zM) (R : Room) (k n pc : Nat) (zl : List (Option Value)) (st : List Value) (w : zWorld) (P : zRes → zWorld → Prop) : Prop :=
  ∀ (p : Program) (e : Env) (s : State) (m : MethodId) (args : Array Value) (below : List Frame) (meth : Method) (c : Code) (H : Heap) (locs : List Loc) (ad ad0 : Nat → Nat) (n0 : Nat) (cls : Array Slot),
    zCtx G M p s m args meth c → zHeap G s ad w H locs → zLoc cls M.maxL ad zl → zokl w.length zl → zoks w.length st → n0 ≤ w.length → zExt n0 ad0 ad →
    W p G.l e R s m args below meth c H locs k n (vx_MQ below (zQc G ad0 n0 P) (zXc G ad0 n0 P) args s R.cells R.slots (zA G)) (F0 m pc cls (st.map (zc ad)))
def zrm (d mc ms : Nat) : Room := { frames := d + 10, cells := mc, slots := ms, locals := 60 * d + 300 }
def zPre (G : zG) (ad : Nat → Nat) (w : zWorld) (U : State) : Prop :=
  G.base ≤ U.heap.size ∧ va_P G.D zcl (zW G ad w) U.heap ∧ va_D (zA G) (zW G ad w) ∧ va_K G.D zcl (ztys G) U ∧ zStat G U U.heap
/-- a contract: from the world w with these arguments, at most mc cells of ms slots come new, the end is P -/
def ZM (G : zG) (M : zM) (d mc ms : Nat) (av : List Value) (w : zWorld) (P : zRes → zWorld → Prop) : Prop :=
  ∀ ad : Nat → Nat, zoks w.length av → zokW w → ad zSI = G.b → vx_Met G.l M.y M.ws (zrm d mc ms) (va_Pc (av.map (zc ad)) (zPre G ad w)) (zQc G ad w.length P) (zXc G ad w.length P) mc ms (zA G)
theorem zoks.tl {n : Nat} {a : Value} {l : List Value} (h : zoks n (a :: l)) : zoks n l := fun v hv => h v (List.mem_cons_of_mem _ hv)
theorem zoks.hd {n : Nat} {a : Value} {l : List Value} (h : zoks n (a :: l)) : zok n a := h a List.mem_cons_self
theorem zoks.cons {n : Nat} {a : Value} {l : List Value} (ha : zok n a) (h : zoks n l) : zoks n (a :: l) := fun v hv => (List.mem_cons.mp hv).elim (fun e => by rw [e]; exact ha) (h v)
theorem zoks.mono {n k : Nat} (hk : n ≤ k) {l : List Value} (h : zoks n l) : zoks k l := fun v hv => (h v hv).mono hk
theorem zokl.mono {n k : Nat} (hk : n ≤ k) {l : List (Option Value)} (h : zokl n l) : zokl k l := fun v hv => (h v hv).mono hk
theorem zokl.set {n i : Nat} {x : Value} {l : List (Option Value)} (hx : zok n x) (h : zokl n l) : zokl n (l.set i (some x)) := fun v hv => by
  rcases List.mem_or_eq_of_mem_set hv with h1 | h1
  · exact h v h1
  · cases h1; exact hx
theorem zokl.set2 {n i : Nat} {x : Value} {l : List (Option Value)} (hx : zok n x) (h : zokl n l) : zokl n ((l.set i (some x)).set (i + 1) none) := fun v hv => by
  rcases List.mem_or_eq_of_mem_set hv with h1 | h1
  · exact h.set hx v h1
  · cases h1
theorem zokl.at {n i : Nat} {x : Value} {l : List (Option Value)} (h : zokl n l) (hi : l[i]? = some (some x)) : zok n x := h x (List.mem_of_getElem? hi)
theorem zcats (ad : Nat → Nat) (st : List Value) : ((st.map (zc ad)).map fun v => v.category).sum = (st.map fun v => v.category).sum := by
  rw [List.map_map]
  exact congrArg List.sum (List.map_congr_left fun v _ => zc_cat ad v)
section ZR
variable {G : zG} {M : zM} {R : Room} {k n pc q : Nat} {zl : List (Option Value)} {st : List Value} {w : zWorld} {P : zRes → zWorld → Prop}
theorem Z.mono {P2 : zRes → zWorld → Prop} (h : Z G M R k n pc zl st w P) (hP : ∀ r w, P r w → P2 r w) : Z G M R k n pc zl st w P2 := by
  intro p e s m args below meth c H locs ad ad0 n0 cls C HH hl hlo hst hn he T hT X
  obtain ⟨t, a1, o, b1, b2, b3⟩ := h p e s m args below meth c H locs ad ad0 n0 cls C HH hl hlo hst hn he T hT X
  refine ⟨t, a1, o, b1, b2, ?_⟩
  rcases b3 with ⟨⟨rv, w2, ad2, e1, e2, e3⟩, e4⟩ | ⟨q9, e1, E, ce, L, ⟨w2, ad2, e2, e3⟩, e4⟩
  · exact Or.inl ⟨⟨rv, w2, ad2, e1, hP _ _ e2, e3⟩, e4⟩
  · exact Or.inr ⟨q9, e1, E, ce, L, ⟨w2, ad2, hP _ _ e2, e3⟩, e4⟩
theorem Z.eqst {st2 : List Value} (e : st = st2) (h : Z G M R k n pc zl st2 w P) : Z G M R k n pc zl st w P := e ▸ h
theorem Z.eqw {w2 : zWorld} (e : w = w2) (h : Z G M R k n pc zl st w2 P) : Z G M R k n pc zl st w P := e ▸ h
theorem Z.eql {zl2 : List (Option Value)} (e : zl = zl2) (h : Z G M R k n pc zl2 st w P) : Z G M R k n pc zl st w P := e ▸ h
theorem z_iconst {v : Int32} {i : Int} (hd : decode M.code pc = .ok (.iconst i, 1)) (hv : Int32.ofInt i = v) (hq : pc + 1 = q) (kk : Z G M R k n q zl (.int v :: st) w P) : Z G M R k n pc zl (st) w P := by
  subst hq
  intro p e s m args below meth c H locs ad ad0 n0 cls C HH hl hlo hst hn he
  exact lv_iconst C.1 C.2.1 hd hv (kk p e s m args below meth c H locs ad ad0 n0 cls C HH hl hlo ((.cons trivial hst)) hn he)
theorem z_bipush {v : Int32} {i : Int} (hd : decode M.code pc = .ok (.bipush i, 2)) (hv : (Int8.ofInt i).toInt32 = v) (hq : pc + 2 = q) (kk : Z G M R k n q zl (.int v :: st) w P) : Z G M R k n pc zl (st) w P := by
  subst hq
  intro p e s m args below meth c H locs ad ad0 n0 cls C HH hl hlo hst hn he
  exact lv_bipush C.1 C.2.1 hd hv (kk p e s m args below meth c H locs ad ad0 n0 cls C HH hl hlo ((.cons trivial hst)) hn he)
theorem z_sipush {v : Int32} {i : Int} (hd : decode M.code pc = .ok (.sipush i, 3)) (hv : (Int16.ofInt i).toInt32 = v) (hq : pc + 3 = q) (kk : Z G M R k n q zl (.int v :: st) w P) : Z G M R k n pc zl (st) w P := by
  subst hq
  intro p e s m args below meth c H locs ad ad0 n0 cls C HH hl hlo hst hn he
  exact lv_sipush C.1 C.2.1 hd hv (kk p e s m args below meth c H locs ad ad0 n0 cls C HH hl hlo ((.cons trivial hst)) hn he)
theorem z_lconst {v : Int64} {i : Fin 2} (hd : decode M.code pc = .ok (.lconst i, 1)) (hv : Int64.ofNat (i : Nat) = v) (hq : pc + 1 = q) (kk : Z G M R k n q zl (.long v :: st) w P) : Z G M R k n pc zl (st) w P := by
  subst hq
  intro p e s m args below meth c H locs ad ad0 n0 cls C HH hl hlo hst hn he
  exact lv_lconst C.1 C.2.1 hd hv (kk p e s m args below meth c H locs ad ad0 n0 cls C HH hl hlo ((.cons trivial hst)) hn he)
theorem z_dconst0 (hd : decode M.code pc = .ok (.dconst 0, 1)) (hq : pc + 1 = q) (kk : Z G M R k n q zl (.double FP.dconst0 :: st) w P) : Z G M R k n pc zl (st) w P := by
  subst hq
  intro p e s m args below meth c H locs ad ad0 n0 cls C HH hl hlo hst hn he
  exact lv_dconst0 C.1 C.2.1 hd (kk p e s m args below meth c H locs ad ad0 n0 cls C HH hl hlo ((.cons trivial hst)) hn he)
theorem z_ldcf {v : UInt32} {i : Nat} (hd : decode M.code pc = .ok (.ldc i, 2)) (hw : Cond.constantFloat M.y.cls i v ∈ zt) (hq : pc + 2 = q) (kk : Z G M R k n q zl (.float v :: st) w P) : Z G M R k n pc zl (st) w P := by
  subst hq
  intro p e s m args below meth c H locs ad ad0 n0 cls C HH hl hlo hst hn he
  exact lv_ldcf C.1 C.2.1 C.2.2.2.2.2.1 (C.2.2.2.2.2.2.2.1 _ hw) hd (kk p e s m args below meth c H locs ad ad0 n0 cls C HH hl hlo ((.cons trivial hst)) hn he)
theorem z_iload {i : Nat} {x : Int32} (hd : decode M.code pc = .ok (.iload i, 2)) (hi : zl[i]? = some (some (.int x))) (hq : pc + 2 = q) (kk : Z G M R k n q zl (.int x :: st) w P) : Z G M R k n pc zl (st) w P := by
  subst hq
  intro p e s m args below meth c H locs ad ad0 n0 cls C HH hl hlo hst hn he
  exact lv_iload C.1 C.2.1 hd (hl.at hi) (kk p e s m args below meth c H locs ad ad0 n0 cls C HH hl hlo ((.cons trivial hst)) hn he)
theorem z_iload_n {j : Fin 4} {i : Nat} {x : Int32} (hd : decode M.code pc = .ok (.iload_n j, 1)) (hj : (j : Nat) = i) (hi : zl[i]? = some (some (.int x))) (hq : pc + 1 = q) (kk : Z G M R k n q zl (.int x :: st) w P) : Z G M R k n pc zl (st) w P := by
  subst hq
  intro p e s m args below meth c H locs ad ad0 n0 cls C HH hl hlo hst hn he
  exact lv_iload_n C.1 C.2.1 hd hj (hl.at hi) (kk p e s m args below meth c H locs ad ad0 n0 cls C HH hl hlo ((.cons trivial hst)) hn he)
theorem z_dload {i : Nat} {x : UInt64} (hd : decode M.code pc = .ok (.dload i, 2)) (hi : zl[i]? = some (some (.double x))) (hq : pc + 2 = q) (kk : Z G M R k n q zl (.double x :: st) w P) : Z G M R k n pc zl (st) w P := by
  subst hq
  intro p e s m args below meth c H locs ad ad0 n0 cls C HH hl hlo hst hn he
  exact lv_dload C.1 C.2.1 hd (hl.at hi) (kk p e s m args below meth c H locs ad ad0 n0 cls C HH hl hlo ((.cons trivial hst)) hn he)
theorem z_aload {i x : Nat} (hd : decode M.code pc = .ok (.aload i, 2)) (hi : zl[i]? = some (some (.ref x))) (hq : pc + 2 = q) (kk : Z G M R k n q zl (.ref x :: st) w P) : Z G M R k n pc zl (st) w P := by
  subst hq
  intro p e s m args below meth c H locs ad ad0 n0 cls C HH hl hlo hst hn he
  exact lv_aload C.1 C.2.1 hd (hl.at hi) (kk p e s m args below meth c H locs ad ad0 n0 cls C HH hl hlo ((.cons (hlo.at hi) hst)) hn he)
theorem z_aload_n {j : Fin 4} {i x : Nat} (hd : decode M.code pc = .ok (.aload_n j, 1)) (hj : (j : Nat) = i) (hi : zl[i]? = some (some (.ref x))) (hq : pc + 1 = q) (kk : Z G M R k n q zl (.ref x :: st) w P) : Z G M R k n pc zl (st) w P := by
  subst hq
  intro p e s m args below meth c H locs ad ad0 n0 cls C HH hl hlo hst hn he
  exact lv_aload_n C.1 C.2.1 hd hj (hl.at hi) (kk p e s m args below meth c H locs ad ad0 n0 cls C HH hl hlo ((.cons (hlo.at hi) hst)) hn he)
theorem z_istore {i : Nat} {x : Int32} (hd : decode M.code pc = .ok (.istore i, 2)) (hi : i < M.maxL) (hp : zpre zl i = true) (hq : pc + 2 = q) (kk : Z G M R k n q (zl.set i (some (.int x))) st w P) : Z G M R k n pc zl (.int x :: st) w P := by
  subst hq
  intro p e s m args below meth c H locs ad ad0 n0 cls C HH hl hlo hst hn he
  exact lv_istore C.1 C.2.1 hd hl hi rfl (fun ls' h => kk p e s m args below meth c H locs ad ad0 n0 ls' C HH (zLoc.set1 (x := .int x) hp h) (hlo.set trivial) hst.tl hn he)
theorem z_istore_n {j : Fin 4} {i : Nat} {x : Int32} (hd : decode M.code pc = .ok (.istore_n j, 1)) (hj : (j : Nat) = i) (hi : i < M.maxL) (hp : zpre zl i = true) (hq : pc + 1 = q) (kk : Z G M R k n q (zl.set i (some (.int x))) st w P) : Z G M R k n pc zl (.int x :: st) w P := by
  subst hq
  intro p e s m args below meth c H locs ad ad0 n0 cls C HH hl hlo hst hn he
  exact lv_istore_n C.1 C.2.1 hd hj hl hi rfl (fun ls' h => kk p e s m args below meth c H locs ad ad0 n0 ls' C HH (zLoc.set1 (x := .int x) hp h) (hlo.set trivial) hst.tl hn he)
theorem z_astore {i x : Nat} (hd : decode M.code pc = .ok (.astore i, 2)) (hi : i < M.maxL) (hp : zpre zl i = true) (hq : pc + 2 = q) (kk : Z G M R k n q (zl.set i (some (.ref x))) st w P) : Z G M R k n pc zl (.ref x :: st) w P := by
  subst hq
  intro p e s m args below meth c H locs ad ad0 n0 cls C HH hl hlo hst hn he
  exact lv_astore C.1 C.2.1 hd hl hi rfl (fun ls' h => kk p e s m args below meth c H locs ad ad0 n0 ls' C HH (zLoc.set1 (x := .ref x) hp h) (hlo.set hst.hd) hst.tl hn he)
theorem z_astore_n {j : Fin 4} {i x : Nat} (hd : decode M.code pc = .ok (.astore_n j, 1)) (hj : (j : Nat) = i) (hi : i < M.maxL) (hp : zpre zl i = true) (hq : pc + 1 = q) (kk : Z G M R k n q (zl.set i (some (.ref x))) st w P) : Z G M R k n pc zl (.ref x :: st) w P := by
  subst hq
  intro p e s m args below meth c H locs ad ad0 n0 cls C HH hl hlo hst hn he
  exact lv_astore_n C.1 C.2.1 hd hj hl hi rfl (fun ls' h => kk p e s m args below meth c H locs ad ad0 n0 ls' C HH (zLoc.set1 (x := .ref x) hp h) (hlo.set hst.hd) hst.tl hn he)
theorem z_dstore {i : Nat} {x : UInt64} (hd : decode M.code pc = .ok (.dstore i, 2)) (hi : i + 1 < M.maxL) (hp : zpre zl i = true) (hq : pc + 2 = q) (kk : Z G M R k n q ((zl.set i (some (.double x))).set (i + 1) none) st w P) : Z G M R k n pc zl (.double x :: st) w P := by
  subst hq
  intro p e s m args below meth c H locs ad ad0 n0 cls C HH hl hlo hst hn he
  exact lv_dstore C.1 C.2.1 hd hl hi rfl (fun ls' h => kk p e s m args below meth c H locs ad ad0 n0 ls' C HH (zLoc.set2 (x := .double x) hp h) (hlo.set2 trivial) hst.tl hn he)
theorem z_iinc {i : Nat} {d : Int} {x v : Int32} (hd : decode M.code pc = .ok (.iinc i d, 3)) (hx : zl[i]? = some (some (.int x))) (hv : x + Int32.ofInt d = v) (hi : i < M.maxL) (hp : zpre zl i = true) (hq : pc + 3 = q) (kk : Z G M R k n q (zl.set i (some (.int v))) st w P) : Z G M R k n pc zl st w P := by
  subst hq
  intro p e s m args below meth c H locs ad ad0 n0 cls C HH hl hlo hst hn he
  obtain ⟨j, hj⟩ := List.getElem?_of_mem (zlv_mem (ad := ad).mpr ⟨_, hx, rfl⟩ : (i, zc ad (.int x)) ∈ zlv ad zl)
  exact lv_iinc C.1 C.2.1 hd hl hj hv hi rfl (fun ls' h => kk p e s m args below meth c H locs ad ad0 n0 ls' C HH (zLoc.set1 (x := .int v) hp h) (hlo.set trivial) hst hn he)
theorem z_iadd {x y : Int32} (hd : decode M.code pc = .ok (.iadd, 1)) (hq : pc + 1 = q) (kk : Z G M R k n q zl (.int (x + y) :: st) w P) : Z G M R k n pc zl (.int y :: .int x :: st) w P := by
  subst hq
  intro p e s m args below meth c H locs ad ad0 n0 cls C HH hl hlo hst hn he
  exact lv_iadd C.1 C.2.1 hd (kk p e s m args below meth c H locs ad ad0 n0 cls C HH hl hlo ((.cons trivial hst.tl.tl)) hn he)
theorem z_isub {x y : Int32} (hd : decode M.code pc = .ok (.isub, 1)) (hq : pc + 1 = q) (kk : Z G M R k n q zl (.int (x - y) :: st) w P) : Z G M R k n pc zl (.int y :: .int x :: st) w P := by
  subst hq
  intro p e s m args below meth c H locs ad ad0 n0 cls C HH hl hlo hst hn he
  exact lv_isub C.1 C.2.1 hd (kk p e s m args below meth c H locs ad ad0 n0 cls C HH hl hlo ((.cons trivial hst.tl.tl)) hn he)
theorem z_imul {x y : Int32} (hd : decode M.code pc = .ok (.imul, 1)) (hq : pc + 1 = q) (kk : Z G M R k n q zl (.int (x * y) :: st) w P) : Z G M R k n pc zl (.int y :: .int x :: st) w P := by
  subst hq
  intro p e s m args below meth c H locs ad ad0 n0 cls C HH hl hlo hst hn he
  exact lv_imul C.1 C.2.1 hd (kk p e s m args below meth c H locs ad ad0 n0 cls C HH hl hlo ((.cons trivial hst.tl.tl)) hn he)
theorem z_iand {x y : Int32} (hd : decode M.code pc = .ok (.iand, 1)) (hq : pc + 1 = q) (kk : Z G M R k n q zl (.int (x &&& y) :: st) w P) : Z G M R k n pc zl (.int y :: .int x :: st) w P := by
  subst hq
  intro p e s m args below meth c H locs ad ad0 n0 cls C HH hl hlo hst hn he
  exact lv_iand C.1 C.2.1 hd (kk p e s m args below meth c H locs ad ad0 n0 cls C HH hl hlo ((.cons trivial hst.tl.tl)) hn he)
theorem z_ior {x y : Int32} (hd : decode M.code pc = .ok (.ior, 1)) (hq : pc + 1 = q) (kk : Z G M R k n q zl (.int (x ||| y) :: st) w P) : Z G M R k n pc zl (.int y :: .int x :: st) w P := by
  subst hq
  intro p e s m args below meth c H locs ad ad0 n0 cls C HH hl hlo hst hn he
  exact lv_ior C.1 C.2.1 hd (kk p e s m args below meth c H locs ad ad0 n0 cls C HH hl hlo ((.cons trivial hst.tl.tl)) hn he)
theorem z_ishl {x y : Int32} (hd : decode M.code pc = .ok (.ishl, 1)) (hq : pc + 1 = q) (kk : Z G M R k n q zl (.int (x <<< (y &&& 31)) :: st) w P) : Z G M R k n pc zl (.int y :: .int x :: st) w P := by
  subst hq
  intro p e s m args below meth c H locs ad ad0 n0 cls C HH hl hlo hst hn he
  exact lv_ishl C.1 C.2.1 hd (kk p e s m args below meth c H locs ad ad0 n0 cls C HH hl hlo ((.cons trivial hst.tl.tl)) hn he)
theorem z_ishr {x y : Int32} (hd : decode M.code pc = .ok (.ishr, 1)) (hq : pc + 1 = q) (kk : Z G M R k n q zl (.int (x >>> (y &&& 31)) :: st) w P) : Z G M R k n pc zl (.int y :: .int x :: st) w P := by
  subst hq
  intro p e s m args below meth c H locs ad ad0 n0 cls C HH hl hlo hst hn he
  exact lv_ishr C.1 C.2.1 hd (kk p e s m args below meth c H locs ad ad0 n0 cls C HH hl hlo ((.cons trivial hst.tl.tl)) hn he)
theorem z_idiv {x y : Int32} (hd : decode M.code pc = .ok (.idiv, 1)) (hne : ¬ y = 0) (hq : pc + 1 = q) (kk : Z G M R k n q zl (.int (x / y) :: st) w P) : Z G M R k n pc zl (.int y :: .int x :: st) w P := by
  subst hq
  intro p e s m args below meth c H locs ad ad0 n0 cls C HH hl hlo hst hn he
  exact lv_idiv C.1 C.2.1 hd hne (kk p e s m args below meth c H locs ad ad0 n0 cls C HH hl hlo ((.cons trivial hst.tl.tl)) hn he)
theorem z_irem {x y : Int32} (hd : decode M.code pc = .ok (.irem, 1)) (hne : ¬ y = 0) (hq : pc + 1 = q) (kk : Z G M R k n q zl (.int (x - x / y * y) :: st) w P) : Z G M R k n pc zl (.int y :: .int x :: st) w P := by
  subst hq
  intro p e s m args below meth c H locs ad ad0 n0 cls C HH hl hlo hst hn he
  exact lv_irem C.1 C.2.1 hd hne (kk p e s m args below meth c H locs ad ad0 n0 cls C HH hl hlo ((.cons trivial hst.tl.tl)) hn he)
theorem z_ineg {x : Int32} (hd : decode M.code pc = .ok (.ineg, 1)) (hq : pc + 1 = q) (kk : Z G M R k n q zl (.int (-x) :: st) w P) : Z G M R k n pc zl (.int x :: st) w P := by
  subst hq
  intro p e s m args below meth c H locs ad ad0 n0 cls C HH hl hlo hst hn he
  exact lv_ineg C.1 C.2.1 hd (kk p e s m args below meth c H locs ad ad0 n0 cls C HH hl hlo ((.cons trivial hst.tl)) hn he)
theorem z_ladd {x y : Int64} (hd : decode M.code pc = .ok (.ladd, 1)) (hq : pc + 1 = q) (kk : Z G M R k n q zl (.long (x + y) :: st) w P) : Z G M R k n pc zl (.long y :: .long x :: st) w P := by
  subst hq
  intro p e s m args below meth c H locs ad ad0 n0 cls C HH hl hlo hst hn he
  exact lv_ladd C.1 C.2.1 hd (kk p e s m args below meth c H locs ad ad0 n0 cls C HH hl hlo ((.cons trivial hst.tl.tl)) hn he)
theorem z_i2l {x : Int32} (hd : decode M.code pc = .ok (.i2l, 1)) (hq : pc + 1 = q) (kk : Z G M R k n q zl (.long x.toInt64 :: st) w P) : Z G M R k n pc zl (.int x :: st) w P := by
  subst hq
  intro p e s m args below meth c H locs ad ad0 n0 cls C HH hl hlo hst hn he
  exact lv_i2l C.1 C.2.1 hd rfl (kk p e s m args below meth c H locs ad ad0 n0 cls C HH hl hlo ((.cons trivial hst.tl)) hn he)
theorem z_i2c {x : Int32} (hd : decode M.code pc = .ok (.i2c, 1)) (hq : pc + 1 = q) (kk : Z G M R k n q zl (.int (x.toUInt32 % 65536).toInt32 :: st) w P) : Z G M R k n pc zl (.int x :: st) w P := by
  subst hq
  intro p e s m args below meth c H locs ad ad0 n0 cls C HH hl hlo hst hn he
  exact lv_i2c C.1 C.2.1 hd rfl (kk p e s m args below meth c H locs ad ad0 n0 cls C HH hl hlo ((.cons trivial hst.tl)) hn he)
theorem z_i2d {x : Int32} (hd : decode M.code pc = .ok (.i2d, 1)) (hq : pc + 1 = q) (kk : Z G M R k n q zl (.double (FP.i2d x) :: st) w P) : Z G M R k n pc zl (.int x :: st) w P := by
  subst hq
  intro p e s m args below meth c H locs ad ad0 n0 cls C HH hl hlo hst hn he
  exact lv_i2d C.1 C.2.1 hd (kk p e s m args below meth c H locs ad ad0 n0 cls C HH hl hlo ((.cons trivial hst.tl)) hn he)
theorem z_i2f {x : Int32} (hd : decode M.code pc = .ok (.i2f, 1)) (hq : pc + 1 = q) (kk : Z G M R k n q zl (.float (FP.i2f x) :: st) w P) : Z G M R k n pc zl (.int x :: st) w P := by
  subst hq
  intro p e s m args below meth c H locs ad ad0 n0 cls C HH hl hlo hst hn he
  exact lv_i2f C.1 C.2.1 hd (kk p e s m args below meth c H locs ad ad0 n0 cls C HH hl hlo ((.cons trivial hst.tl)) hn he)
theorem z_f2d {x : UInt32} (hd : decode M.code pc = .ok (.f2d, 1)) (hne : vf_n64 (FP.f2d x)) (hq : pc + 1 = q) (kk : Z G M R k n q zl (.double (FP.f2d x) :: st) w P) : Z G M R k n pc zl (.float x :: st) w P := by
  subst hq
  intro p e s m args below meth c H locs ad ad0 n0 cls C HH hl hlo hst hn he
  exact lv_f2d C.1 C.2.1 hd hne (kk p e s m args below meth c H locs ad ad0 n0 cls C HH hl hlo ((.cons trivial hst.tl)) hn he)
theorem z_fdiv {x y : UInt32} (hd : decode M.code pc = .ok (.fdiv, 1)) (hne : vf_n32 (FP.fdiv x y)) (hq : pc + 1 = q) (kk : Z G M R k n q zl (.float (FP.fdiv x y) :: st) w P) : Z G M R k n pc zl (.float y :: .float x :: st) w P := by
  subst hq
  intro p e s m args below meth c H locs ad ad0 n0 cls C HH hl hlo hst hn he
  exact lv_fdiv C.1 C.2.1 hd hne (kk p e s m args below meth c H locs ad ad0 n0 cls C HH hl hlo ((.cons trivial hst.tl.tl)) hn he)
theorem z_ddiv {x y : UInt64} (hd : decode M.code pc = .ok (.ddiv, 1)) (hne : vf_n64 (FP.ddiv x y)) (hq : pc + 1 = q) (kk : Z G M R k n q zl (.double (FP.ddiv x y) :: st) w P) : Z G M R k n pc zl (.double y :: .double x :: st) w P := by
  subst hq
  intro p e s m args below meth c H locs ad ad0 n0 cls C HH hl hlo hst hn he
  exact lv_ddiv C.1 C.2.1 hd hne (kk p e s m args below meth c H locs ad ad0 n0 cls C HH hl hlo ((.cons trivial hst.tl.tl)) hn he)
theorem z_dcmp {x y : UInt64} {op : CmpOp} (hd : decode M.code pc = .ok (.dcmp op, 1)) (hq : pc + 1 = q) (kk : Z G M R k n q zl (.int (Op.cmpValue (FP.dcmp x y) op) :: st) w P) : Z G M R k n pc zl (.double y :: .double x :: st) w P := by
  subst hq
  intro p e s m args below meth c H locs ad ad0 n0 cls C HH hl hlo hst hn he
  exact lv_dcmp C.1 C.2.1 hd (kk p e s m args below meth c H locs ad ad0 n0 cls C HH hl hlo ((.cons trivial hst.tl.tl)) hn he)
theorem z_lcmp {x y : Int64} (hd : decode M.code pc = .ok (.lcmp, 1)) (hq : pc + 1 = q) (kk : Z G M R k n q zl (.int (lg_cmp x y) :: st) w P) : Z G M R k n pc zl (.long y :: .long x :: st) w P := by
  subst hq
  intro p e s m args below meth c H locs ad ad0 n0 cls C HH hl hlo hst hn he
  exact W.lcmp C.1 C.2.1 hd (kk p e s m args below meth c H locs ad ad0 n0 cls C HH hl hlo ((.cons trivial hst.tl.tl)) hn he)
theorem z_dup {v : Value} (hd : decode M.code pc = .ok (.dup, 1)) (hv : v.category = 1) (hq : pc + 1 = q) (kk : Z G M R k n q zl (v :: v :: st) w P) : Z G M R k n pc zl (v :: st) w P := by
  subst hq
  intro p e s m args below meth c H locs ad ad0 n0 cls C HH hl hlo hst hn he
  exact lv_dup C.1 C.2.1 hd ((zc_cat ad v).trans hv) (kk p e s m args below meth c H locs ad ad0 n0 cls C HH hl hlo ((.cons hst.hd hst)) hn he)
theorem z_pop {v : Value} (hd : decode M.code pc = .ok (.pop, 1)) (hv : v.category = 1) (hq : pc + 1 = q) (kk : Z G M R k n q zl (st) w P) : Z G M R k n pc zl (v :: st) w P := by
  subst hq
  intro p e s m args below meth c H locs ad ad0 n0 cls C HH hl hlo hst hn he
  exact lv_pop C.1 C.2.1 hd ((zc_cat ad v).trans hv) (kk p e s m args below meth c H locs ad ad0 n0 cls C HH hl hlo (hst.tl) hn he)
theorem z_dup2 {v u : Value} (hd : decode M.code pc = .ok (.dup2, 1)) (hv : v.category = 1) (hu : u.category = 1) (hq : pc + 1 = q) (kk : Z G M R k n q zl (v :: u :: v :: u :: st) w P) : Z G M R k n pc zl (v :: u :: st) w P := by
  subst hq
  intro p e s m args below meth c H locs ad ad0 n0 cls C HH hl hlo hst hn he
  exact lv_dup2_11 C.1 C.2.1 hd ((zc_cat ad v).trans hv) ((zc_cat ad u).trans hu) (kk p e s m args below meth c H locs ad ad0 n0 cls C HH hl hlo ((.cons hst.hd (.cons hst.tl.hd hst))) hn he)
theorem z_icmp_eq {x y : Int32} {off : Int} {tgt : Nat} (hd : decode M.code pc = .ok (.if_icmp .eq off, 3)) (ht : (pc : Int) + off = (tgt : Int)) (hq : pc + 3 = q) (kt : x = y → Z G M R k n tgt zl st w P) (kf : ¬ (x = y) → Z G M R k n q zl st w P) : Z G M R k n pc zl (.int y :: .int x :: st) w P := by
  subst hq
  intro p e s m args below meth c H locs ad ad0 n0 cls C HH hl hlo hst hn he
  exact lv_icmp_eq C.1 C.2.1 hd ht (fun h => kt h p e s m args below meth c H locs ad ad0 n0 cls C HH hl hlo hst.tl.tl hn he) (fun h => kf h p e s m args below meth c H locs ad ad0 n0 cls C HH hl hlo hst.tl.tl hn he)
theorem z_if_eq {x : Int32} {off : Int} {tgt : Nat} (hd : decode M.code pc = .ok (.ifCond .eq off, 3)) (ht : (pc : Int) + off = (tgt : Int)) (hq : pc + 3 = q) (kt : x = 0 → Z G M R k n tgt zl st w P) (kf : ¬ (x = 0) → Z G M R k n q zl st w P) : Z G M R k n pc zl (.int x :: st) w P := by
  subst hq
  intro p e s m args below meth c H locs ad ad0 n0 cls C HH hl hlo hst hn he
  exact lv_if_eq C.1 C.2.1 hd ht (fun h => kt h p e s m args below meth c H locs ad ad0 n0 cls C HH hl hlo hst.tl hn he) (fun h => kf h p e s m args below meth c H locs ad ad0 n0 cls C HH hl hlo hst.tl hn he)
theorem z_icmp_ne {x y : Int32} {off : Int} {tgt : Nat} (hd : decode M.code pc = .ok (.if_icmp .ne off, 3)) (ht : (pc : Int) + off = (tgt : Int)) (hq : pc + 3 = q) (kt : x ≠ y → Z G M R k n tgt zl st w P) (kf : x = y → Z G M R k n q zl st w P) : Z G M R k n pc zl (.int y :: .int x :: st) w P := by
  subst hq
  intro p e s m args below meth c H locs ad ad0 n0 cls C HH hl hlo hst hn he
  exact lv_icmp_ne C.1 C.2.1 hd ht (fun h => kt h p e s m args below meth c H locs ad ad0 n0 cls C HH hl hlo hst.tl.tl hn he) (fun h => kf h p e s m args below meth c H locs ad ad0 n0 cls C HH hl hlo hst.tl.tl hn he)
theorem z_if_ne {x : Int32} {off : Int} {tgt : Nat} (hd : decode M.code pc = .ok (.ifCond .ne off, 3)) (ht : (pc : Int) + off = (tgt : Int)) (hq : pc + 3 = q) (kt : x ≠ 0 → Z G M R k n tgt zl st w P) (kf : x = 0 → Z G M R k n q zl st w P) : Z G M R k n pc zl (.int x :: st) w P := by
  subst hq
  intro p e s m args below meth c H locs ad ad0 n0 cls C HH hl hlo hst hn he
  exact lv_if_ne C.1 C.2.1 hd ht (fun h => kt h p e s m args below meth c H locs ad ad0 n0 cls C HH hl hlo hst.tl hn he) (fun h => kf h p e s m args below meth c H locs ad ad0 n0 cls C HH hl hlo hst.tl hn he)
theorem z_icmp_lt {x y : Int32} {off : Int} {tgt : Nat} (hd : decode M.code pc = .ok (.if_icmp .lt off, 3)) (ht : (pc : Int) + off = (tgt : Int)) (hq : pc + 3 = q) (kt : x < y → Z G M R k n tgt zl st w P) (kf : ¬ (x < y) → Z G M R k n q zl st w P) : Z G M R k n pc zl (.int y :: .int x :: st) w P := by
  subst hq
  intro p e s m args below meth c H locs ad ad0 n0 cls C HH hl hlo hst hn he
  exact lv_icmp_lt C.1 C.2.1 hd ht (fun h => kt h p e s m args below meth c H locs ad ad0 n0 cls C HH hl hlo hst.tl.tl hn he) (fun h => kf h p e s m args below meth c H locs ad ad0 n0 cls C HH hl hlo hst.tl.tl hn he)
theorem z_if_lt {x : Int32} {off : Int} {tgt : Nat} (hd : decode M.code pc = .ok (.ifCond .lt off, 3)) (ht : (pc : Int) + off = (tgt : Int)) (hq : pc + 3 = q) (kt : x < 0 → Z G M R k n tgt zl st w P) (kf : ¬ (x < 0) → Z G M R k n q zl st w P) : Z G M R k n pc zl (.int x :: st) w P := by
  subst hq
  intro p e s m args below meth c H locs ad ad0 n0 cls C HH hl hlo hst hn he
  exact lv_if_lt C.1 C.2.1 hd ht (fun h => kt h p e s m args below meth c H locs ad ad0 n0 cls C HH hl hlo hst.tl hn he) (fun h => kf h p e s m args below meth c H locs ad ad0 n0 cls C HH hl hlo hst.tl hn he)
theorem z_icmp_ge {x y : Int32} {off : Int} {tgt : Nat} (hd : decode M.code pc = .ok (.if_icmp .ge off, 3)) (ht : (pc : Int) + off = (tgt : Int)) (hq : pc + 3 = q) (kt : y ≤ x → Z G M R k n tgt zl st w P) (kf : ¬ (y ≤ x) → Z G M R k n q zl st w P) : Z G M R k n pc zl (.int y :: .int x :: st) w P := by
  subst hq
  intro p e s m args below meth c H locs ad ad0 n0 cls C HH hl hlo hst hn he
  exact lv_icmp_ge C.1 C.2.1 hd ht (fun h => kt h p e s m args below meth c H locs ad ad0 n0 cls C HH hl hlo hst.tl.tl hn he) (fun h => kf h p e s m args below meth c H locs ad ad0 n0 cls C HH hl hlo hst.tl.tl hn he)
theorem z_if_ge {x : Int32} {off : Int} {tgt : Nat} (hd : decode M.code pc = .ok (.ifCond .ge off, 3)) (ht : (pc : Int) + off = (tgt : Int)) (hq : pc + 3 = q) (kt : 0 ≤ x → Z G M R k n tgt zl st w P) (kf : ¬ (0 ≤ x) → Z G M R k n q zl st w P) : Z G M R k n pc zl (.int x :: st) w P := by
  subst hq
  intro p e s m args below meth c H locs ad ad0 n0 cls C HH hl hlo hst hn he
  exact lv_if_ge C.1 C.2.1 hd ht (fun h => kt h p e s m args below meth c H locs ad ad0 n0 cls C HH hl hlo hst.tl hn he) (fun h => kf h p e s m args below meth c H locs ad ad0 n0 cls C HH hl hlo hst.tl hn he)
theorem z_icmp_gt {x y : Int32} {off : Int} {tgt : Nat} (hd : decode M.code pc = .ok (.if_icmp .gt off, 3)) (ht : (pc : Int) + off = (tgt : Int)) (hq : pc + 3 = q) (kt : y < x → Z G M R k n tgt zl st w P) (kf : ¬ (y < x) → Z G M R k n q zl st w P) : Z G M R k n pc zl (.int y :: .int x :: st) w P := by
  subst hq
  intro p e s m args below meth c H locs ad ad0 n0 cls C HH hl hlo hst hn he
  exact lv_icmp_gt C.1 C.2.1 hd ht (fun h => kt h p e s m args below meth c H locs ad ad0 n0 cls C HH hl hlo hst.tl.tl hn he) (fun h => kf h p e s m args below meth c H locs ad ad0 n0 cls C HH hl hlo hst.tl.tl hn he)
theorem z_if_gt {x : Int32} {off : Int} {tgt : Nat} (hd : decode M.code pc = .ok (.ifCond .gt off, 3)) (ht : (pc : Int) + off = (tgt : Int)) (hq : pc + 3 = q) (kt : 0 < x → Z G M R k n tgt zl st w P) (kf : ¬ (0 < x) → Z G M R k n q zl st w P) : Z G M R k n pc zl (.int x :: st) w P := by
  subst hq
  intro p e s m args below meth c H locs ad ad0 n0 cls C HH hl hlo hst hn he
  exact lv_if_gt C.1 C.2.1 hd ht (fun h => kt h p e s m args below meth c H locs ad ad0 n0 cls C HH hl hlo hst.tl hn he) (fun h => kf h p e s m args below meth c H locs ad ad0 n0 cls C HH hl hlo hst.tl hn he)
theorem z_icmp_le {x y : Int32} {off : Int} {tgt : Nat} (hd : decode M.code pc = .ok (.if_icmp .le off, 3)) (ht : (pc : Int) + off = (tgt : Int)) (hq : pc + 3 = q) (kt : x ≤ y → Z G M R k n tgt zl st w P) (kf : ¬ (x ≤ y) → Z G M R k n q zl st w P) : Z G M R k n pc zl (.int y :: .int x :: st) w P := by
  subst hq
  intro p e s m args below meth c H locs ad ad0 n0 cls C HH hl hlo hst hn he
  exact lv_icmp_le C.1 C.2.1 hd ht (fun h => kt h p e s m args below meth c H locs ad ad0 n0 cls C HH hl hlo hst.tl.tl hn he) (fun h => kf h p e s m args below meth c H locs ad ad0 n0 cls C HH hl hlo hst.tl.tl hn he)
theorem z_if_le {x : Int32} {off : Int} {tgt : Nat} (hd : decode M.code pc = .ok (.ifCond .le off, 3)) (ht : (pc : Int) + off = (tgt : Int)) (hq : pc + 3 = q) (kt : x ≤ 0 → Z G M R k n tgt zl st w P) (kf : ¬ (x ≤ 0) → Z G M R k n q zl st w P) : Z G M R k n pc zl (.int x :: st) w P := by
  subst hq
  intro p e s m args below meth c H locs ad ad0 n0 cls C HH hl hlo hst hn he
  exact lv_if_le C.1 C.2.1 hd ht (fun h => kt h p e s m args below meth c H locs ad ad0 n0 cls C HH hl hlo hst.tl hn he) (fun h => kf h p e s m args below meth c H locs ad ad0 n0 cls C HH hl hlo hst.tl hn he)
theorem z_goto {off : Int} {tgt : Nat} (hd : decode M.code pc = .ok (.goto off, 3)) (ht : (pc : Int) + off = (tgt : Int)) (kk : Z G M R k n tgt zl st w P) : Z G M R k n pc zl st w P := by
  intro p e s m args below meth c H locs ad ad0 n0 cls C HH hl hlo hst hn he
  exact lv_goto C.1 C.2.1 hd ht (kk p e s m args below meth c H locs ad ad0 n0 cls C HH hl hlo hst hn he)
theorem z_tableIn {dflt lo hi : Int} {offs : Array Int} {len : Nat} {x : Int32} {off : Int} {tgt : Nat} (hd : decode M.code pc = .ok (.tableswitch dflt lo hi offs, len)) (h1 : ¬ x.toInt < lo) (h2 : ¬ hi < x.toInt) (ho : offs[(x.toInt - lo).toNat]? = some off) (ht : (pc : Int) + off = (tgt : Int)) (kk : Z G M R k n tgt zl st w P) : Z G M R k n pc zl (.int x :: st) w P := by
  intro p e s m args below meth c H locs ad ad0 n0 cls C HH hl hlo hst hn he
  exact lv_tableIn C.1 C.2.1 hd h1 h2 ho ht (kk p e s m args below meth c H locs ad ad0 n0 cls C HH hl hlo hst.tl hn he)
theorem z_tableOut {dflt lo hi : Int} {offs : Array Int} {len : Nat} {x : Int32} {tgt : Nat} (hd : decode M.code pc = .ok (.tableswitch dflt lo hi offs, len)) (h : x.toInt < lo ∨ hi < x.toInt) (ht : (pc : Int) + dflt = (tgt : Int)) (kk : Z G M R k n tgt zl st w P) : Z G M R k n pc zl (.int x :: st) w P := by
  intro p e s m args below meth c H locs ad ad0 n0 cls C HH hl hlo hst hn he
  exact lv_tableOut C.1 C.2.1 hd h ht (kk p e s m args below meth c H locs ad ad0 n0 cls C HH hl hlo hst.tl hn he)
theorem z_max {x y : Int32} {ix : Nat} (hd : decode M.code pc = .ok (.invokestatic ix, 3)) (hw : Cond.methodLink M.y.cls ix Lib.Math.max.name ∈ zt) (hs : (st.map fun v => v.category).sum ≤ 12) (hR : 1 ≤ R.frames ∧ 25 ≤ R.locals ∧ k ≤ R.cells ∧ n ≤ R.slots) (hq : pc + 3 = q) (kk : Z G M R k n q zl (.int (if x < y then y else x) :: st) w P) : Z G M R k n pc zl (.int y :: .int x :: st) w P := by
  subst hq
  intro p e s m args below meth c H locs ad ad0 n0 cls C HH hl hlo hst hn he
  exact va_mmax C.1 C.2.1 (C.2.2.1.trans hl.1.symm) C.2.2.2.2.2.1 (C.2.2.2.2.2.2.2.1 _ hw) (C.2.2.2.2.2.2.2.1 _ (by decide +kernel)) (C.2.2.2.2.2.2.2.1 _ (by decide +kernel)) (C.2.2.2.2.2.2.2.1 _ (by decide +kernel)) hR.1 (by rw [zcats]; omega) hR.2.2.1 hR.2.2.2 hd (kk p e s m args below meth c H locs ad ad0 n0 cls C HH hl hlo (.cons trivial hst.tl.tl) hn he)
theorem z_min {x y : Int32} {ix : Nat} (hd : decode M.code pc = .ok (.invokestatic ix, 3)) (hw : Cond.methodLink M.y.cls ix Lib.Math.min.name ∈ zt) (hs : (st.map fun v => v.category).sum ≤ 12) (hR : 1 ≤ R.frames ∧ 25 ≤ R.locals ∧ k ≤ R.cells ∧ n ≤ R.slots) (hq : pc + 3 = q) (kk : Z G M R k n q zl (.int (if y < x then y else x) :: st) w P) : Z G M R k n pc zl (.int y :: .int x :: st) w P := by
  subst hq
  intro p e s m args below meth c H locs ad ad0 n0 cls C HH hl hlo hst hn he
  exact va_mmin C.1 C.2.1 (C.2.2.1.trans hl.1.symm) C.2.2.2.2.2.1 (C.2.2.2.2.2.2.2.1 _ hw) (C.2.2.2.2.2.2.2.1 _ (by decide +kernel)) (C.2.2.2.2.2.2.2.1 _ (by decide +kernel)) (C.2.2.2.2.2.2.2.1 _ (by decide +kernel)) hR.1 (by rw [zcats]; omega) hR.2.2.1 hR.2.2.2 hd (kk p e s m args below meth c H locs ad ad0 n0 cls C HH hl hlo (.cons trivial hst.tl.tl) hn he)
theorem z_abs {x : Int32} {ix : Nat} (hd : decode M.code pc = .ok (.invokestatic ix, 3)) (hw : Cond.methodLink M.y.cls ix Lib.Math.abs.name ∈ zt) (hs : (st.map fun v => v.category).sum ≤ 12) (hR : 1 ≤ R.frames ∧ 25 ≤ R.locals ∧ k ≤ R.cells ∧ n ≤ R.slots) (hq : pc + 3 = q) (kk : Z G M R k n q zl (.int (if 0 ≤ x then x else 0 - x) :: st) w P) : Z G M R k n pc zl (.int x :: st) w P := by
  subst hq
  intro p e s m args below meth c H locs ad ad0 n0 cls C HH hl hlo hst hn he
  exact va_mabs C.1 C.2.1 (C.2.2.1.trans hl.1.symm) C.2.2.2.2.2.1 (C.2.2.2.2.2.2.2.1 _ hw) (C.2.2.2.2.2.2.2.1 _ (by decide +kernel)) (C.2.2.2.2.2.2.2.1 _ (by decide +kernel)) (C.2.2.2.2.2.2.2.1 _ (by decide +kernel)) hR.1 (by rw [zcats]; omega) hR.2.2.1 hR.2.2.2 hd (kk p e s m args below meth c H locs ad ad0 n0 cls C HH hl hlo (.cons trivial hst.tl) hn he)
end ZR
