/-- a field: the c. own's pool entry 'index' is field k of the c. ci -/
def zFld (own : String) (index ci k : Nat) (ty : FieldType) (fin : Bool) : Prop :=
  ∃ (C : String) (T : u_T) (N : Nat) (tyf : Nat → FieldType), zcl[ci]? = some (C, T, N) ∧ k < N ∧ Cond.fieldLink own index C (T k).2.1 (T k).2.2.1 ∈ zt ∧ (∀ w ∈ u_ws C T N, w ∈ zt) ∧
    (∀ k, k < N → parseFieldDescriptor (T k).2.2.1 = some (tyf k)) ∧ (∀ a, a < N → ∀ b, b < N → a ≠ b → (T a).2.1 ≠ (T b).2.1) ∧ (T k).1 = C ∧ parseFieldDescriptor (T k).2.2.1 = some ty ∧ (T k).2.2.2 = fin ∧ own = C
/-- what a store into a field of this type leaves, and that it fits -/
def zfit (ty : FieldType) (v : Value) : Prop := ∀ ad : Nat → Nat, narrow ty (zc ad v) = zc ad v ∧ fits ty (zc ad v) = true
theorem zfit_int (x : Int32) : zfit .int (.int x) := fun _ => ⟨rfl, rfl⟩
theorem zfit_long (x : Int64) : zfit .long (.long x) := fun _ => ⟨rfl, rfl⟩
theorem zfit_obj (C : String) (i : Nat) : zfit (.object C) (.ref i) := fun _ => ⟨rfl, rfl⟩
theorem zfit_arr (t : FieldType) (i : Nat) : zfit (.array t) (.ref i) := fun _ => ⟨rfl, rfl⟩
/-- a c. that can be made here -/
def zNew (own : String) (index ci N : Nat) (fs : List Value) : Prop :=
  ∃ (C : String) (T : u_T) (tyf : Nat → FieldType), zcl[ci]? = some (C, T, N) ∧ (∀ w ∈ u_ws C T N, w ∈ zt) ∧ (∀ k, k < N → parseFieldDescriptor (T k).2.2.1 = some (tyf k)) ∧
    Cond.classLink own index C ∈ zt ∧ Cond.instantiable C N ∈ zt ∧ Cond.initialized C ∈ zt ∧ (∀ j, j < N → defaultValue (tyf j) = vp_V fs j) ∧ (∀ ad : Nat → Nat, fs.map (zc ad) = fs) ∧ ∀ n, zoks n fs
section ZH
variable {G : zG} {M : zM} {R : Room} {k n pc q : Nat} {zl : List (Option Value)} {st : List Value} {w : zWorld} {P : zRes → zWorld → Prop}
theorem zHeap.put {s : State} {ad : Nat → Nat} {i : Nat} {c : zCell} {H1 : Heap} {locs1 : List Loc} (hw : zokW w ∧ ad zSI = G.b) (hc : zokC w.length c)
    (hP : va_P G.D zcl ((zW G ad w).set i (ad i, zcC G ad c)) H1) (hD : va_D (zA G) ((zW G ad w).set i (ad i, zcC G ad c))) (hS : va_S (zA G) s.heap H1 locs1) : zHeap G s ad (w.set i c) H1 locs1 := by
  rw [← zW_set] at hP hD
  exact ⟨hP, hD, hS, hw.1.set hc, hw.2⟩
theorem z_get {ix ci j i : Nat} {ty : FieldType} {fin : Bool} {fs : List Value} {v : Value} (hd : decode M.code pc = .ok (.getfield ix, 3)) (hf : zFld M.y.cls ix ci j ty fin) (hc : w[i]? = some (.inr (ci, fs))) (hv : fs[j]? = some v) (hq : pc + 3 = q) (kk : Z G M R k n q zl (v :: st) w P) : Z G M R k n pc zl (.ref i :: st) w P := by
  subst hq
  intro p e s m args below meth c H locs ad ad0 n0 cls C HH hl hlo hst hn he
  obtain ⟨Cn, T, N, tyf, f1, f2, f3, f4, f5, f6, f7, f8, f9, f10⟩ := hf
  refine va_get (ci := ci) (N := N) (T := T) (C := Cn) (k := j) C.1 C.2.1 C.2.2.2.2.2.2.2.1 f4 C.2.2.2.2.2.1 C.2.2.2.2.2.2.2.2.1 HH.1 i (zW_get G ad w i hc) f1 f2 (C.2.2.2.2.2.2.2.1 _ f3) (fun x hx => by rw [← f7]; exact hx) (v := zc ad v) ?_ hd ?_
  · rw [List.getElem?_map, hv]; rfl
  · exact kk p e s m args below meth c H locs ad ad0 n0 cls C HH hl hlo (.cons (HH.2.2.2.1.2 _ (List.mem_of_getElem? hc) v (List.mem_of_getElem? hv)) hst.tl) hn he
theorem z_put {ix ci j i : Nat} {ty : FieldType} {fs : List Value} {v : Value} (hd : decode M.code pc = .ok (.putfield ix, 3)) (hf : zFld M.y.cls ix ci j ty false) (hc : w[i]? = some (.inr (ci, fs))) (hj : j < fs.length) (hv : zfit ty v) (hq : pc + 3 = q) (kk : Z G M R k n q zl st (w.set i (.inr (ci, fs.set j v))) P) : Z G M R k n pc zl (v :: .ref i :: st) w P := by
  subst hq
  intro p e s m args below meth c H locs ad ad0 n0 cls C HH hl hlo hst hn he
  obtain ⟨Cn, T, N, tyf, f1, f2, f3, f4, f5, f6, f7, f8, f9, f10⟩ := hf
  refine va_put (ci := ci) (N := N) (T := T) (C := Cn) (k := j) C.1 C.2.1 C.2.2.2.2.2.2.2.1 f4 tyf f5 f6 C.2.2.2.2.2.1 C.2.2.2.2.2.2.2.2.1 HH.1 HH.2.1 HH.2.2.1 i (zW_get G ad w i hc) f1 f2 (C.2.2.2.2.2.2.2.1 _ f3) (fun x hx => by rw [← f7]; exact hx) f9 f8 (hv ad).1 (hv ad).2 (by rw [List.length_map]; exact hj) hd (fun H1 locs1 hP hD hS => ?_)
  have e1 : (ad i, (Sum.inr (ci, (fs.map (zc ad)).set j (zc ad v)) : va_E)) = (ad i, zcC G ad (.inr (ci, fs.set j v))) := by
    rw [← List.map_set]; rfl
  rw [e1] at hP hD
  have hok : zokC w.length (.inr (ci, fs.set j v)) := fun x hx => by
    rcases List.mem_or_eq_of_mem_set hx with h1 | h1
    · exact HH.2.2.2.1.2 _ (List.mem_of_getElem? hc) x h1
    · rw [h1]; exact hst.hd
  exact kk p e s m args below meth c H1 locs1 ad ad0 n0 cls C (zHeap.put HH.2.2.2 hok hP hD hS) hl (by rw [List.length_set]; exact hlo) (by rw [List.length_set]; exact hst.tl.tl) (by rw [List.length_set]; exact hn) he
theorem z_putF {ix ci j i : Nat} {ty : FieldType} {fs : List Value} {v : Value} (hd : decode M.code pc = .ok (.putfield ix, 3)) (hf : zFld M.y.cls ix ci j ty true) (hin : M.y.name = "<init>") (hc : w[i]? = some (.inr (ci, fs))) (hj : j < fs.length) (hv : zfit ty v) (hq : pc + 3 = q) (kk : Z G M R k n q zl st (w.set i (.inr (ci, fs.set j v))) P) : Z G M R k n pc zl (v :: .ref i :: st) w P := by
  subst hq
  intro p e s m args below meth c H locs ad ad0 n0 cls C HH hl hlo hst hn he
  obtain ⟨Cn, T, N, tyf, f1, f2, f3, f4, f5, f6, f7, f8, f9, f10⟩ := hf
  refine va_putF (ci := ci) (N := N) (T := T) (C := Cn) (k := j) C.1 C.2.1 C.2.2.2.2.2.2.2.1 f4 tyf f5 f6 C.2.2.2.2.2.1 C.2.2.2.2.2.2.2.2.1 HH.1 HH.2.1 HH.2.2.1 i (zW_get G ad w i hc) f1 f2 (C.2.2.2.2.2.2.2.1 _ f3) (fun x hx => by rw [← f7]; exact hx) f9 (C.2.2.2.2.2.2.1.trans hin) (f7.trans f10.symm) f8 (hv ad).1 (hv ad).2 (by rw [List.length_map]; exact hj) hd (fun H1 locs1 hP hD hS => ?_)
  have e1 : (ad i, (Sum.inr (ci, (fs.map (zc ad)).set j (zc ad v)) : va_E)) = (ad i, zcC G ad (.inr (ci, fs.set j v))) := by
    rw [← List.map_set]; rfl
  rw [e1] at hP hD
  have hok : zokC w.length (.inr (ci, fs.set j v)) := fun x hx => by
    rcases List.mem_or_eq_of_mem_set hx with h1 | h1
    · exact HH.2.2.2.1.2 _ (List.mem_of_getElem? hc) x h1
    · rw [h1]; exact hst.hd
  exact kk p e s m args below meth c H1 locs1 ad ad0 n0 cls C (zHeap.put HH.2.2.2 hok hP hD hS) hl (by rw [List.length_set]; exact hlo) (by rw [List.length_set]; exact hst.tl.tl) (by rw [List.length_set]; exact hn) he
theorem z_alen {i t L : Nat} {x : vp_A} {v : Int32} (hd : decode M.code pc = .ok (.arraylength, 1)) (hc : w[i]? = some (.inl (t, x))) (ht : t < 1) (hv : Int32.ofNat x.1 = v) (hq : pc + 1 = q) (kk : Z G M R k n q zl (.int v :: st) w P) : Z G M R k n pc zl (.ref i :: st) w P := by
  subst hq
  intro p e s m args below meth c H locs ad ad0 n0 cls C HH hl hlo hst hn he
  obtain ⟨ty, hty⟩ : ∃ ty, (ztys G)[t]? = some (G.tI t, ty) := by
    rcases (show t = 0 by omega) with rfl
    exact ⟨_, rfl⟩
  exact va_alen C.1 C.2.1 C.2.2.2.2.2.2.2.2.1 HH.1 i t (zW_get G ad w i hc) hty hv hd (kk p e s m args below meth c H locs ad ad0 n0 cls C HH hl hlo (.cons trivial hst.tl) hn he)
theorem z_iald {i L : Nat} {f : Nat → Int32} {j : Int32} (hd : decode M.code pc = .ok (.iaload, 1)) (hc : w[i]? = some (.inl (0, L, .inl f))) (hin : vp_in j L) (hq : pc + 1 = q) (kk : Z G M R k n q zl (.int (f j.toNatClampNeg) :: st) w P) : Z G M R k n pc zl (.int j :: .ref i :: st) w P := by
  subst hq
  intro p e s m args below meth c H locs ad ad0 n0 cls C HH hl hlo hst hn he
  exact va_iald C.1 C.2.1 C.2.2.2.2.2.2.2.2.1 HH.1 i 0 (zW_get G ad w i hc) rfl hin hd (kk p e s m args below meth c H locs ad ad0 n0 cls C HH hl hlo (.cons trivial hst.tl.tl) hn he)
theorem z_iast {i L : Nat} {f : Nat → Int32} {j : Int32} {x : Int32} (hd : decode M.code pc = .ok (.iastore, 1)) (hc : w[i]? = some (.inl (0, L, .inl f))) (hin : vp_in j L) (hq : pc + 1 = q) (kk : Z G M R k n q zl st (w.set i (.inl (0, L, .inl (upd f j.toNatClampNeg x)))) P) : Z G M R k n pc zl (.int x :: .int j :: .ref i :: st) w P := by
  subst hq
  intro p e s m args below meth c H locs ad ad0 n0 cls C HH hl hlo hst hn he
  exact va_iast C.1 C.2.1 C.2.2.2.2.2.2.2.2.1 HH.1 HH.2.1 HH.2.2.1 i 0 (zW_get G ad w i hc) rfl hin hd (fun H1 locs1 hP hD hS => kk p e s m args below meth c H1 locs1 ad ad0 n0 cls C (zHeap.put (c := .inl (0, L, .inl (upd f j.toNatClampNeg x))) HH.2.2.2 trivial hP hD hS) hl (by rw [List.length_set]; exact hlo) (by rw [List.length_set]; exact hst.tl.tl.tl) (by rw [List.length_set]; exact hn) he)
theorem zhb {ad : Nat → Nat} {p : Program} {s : State} {m : MethodId} {args : Array Value} {meth : Method} {c : Code} (C : zCtx G M p s m args meth c) : va_X G.b G.L G.xs s s.heap ∧ G.b < s.heap.size ∧ ¬ zA G G.b := ⟨C.2.2.2.2.2.2.2.2.2.1.2.2.2.2.2.1, Nat.lt_of_lt_of_le C.2.2.2.2.2.2.2.2.2.1.2.2.2.2.2.2.1 C.2.2.2.2.2.2.2.2.2.2.1, Nat.not_le.mpr C.2.2.2.2.2.2.2.2.2.1.2.2.2.2.2.2.1⟩
theorem z_slen (hd : decode M.code pc = .ok (.arraylength, 1)) (hq : pc + 1 = q) (kk : Z G M R k n q zl (.int (Int32.ofNat G.L) :: st) w P) : Z G M R k n pc zl (.ref zSI :: st) w P := by
  subst hq
  intro p e s m args below meth c H locs ad ad0 n0 cls C HH hl hlo hst hn he
  have hb := zhb (ad := ad) C
  show W p G.l e R s m args below meth c H locs k n _ (F0 m pc cls (.ref (ad zSI) :: st.map (zc ad)))
  rw [HH.2.2.2.2]
  exact va_slen C.1 C.2.1 hb.1 hb.2.1 hb.2.2 HH.2.2.1 hd (kk p e s m args below meth c H locs ad ad0 n0 cls C HH hl hlo (.cons trivial hst.tl) hn he)
theorem z_sld {j : Int32} (hd : decode M.code pc = .ok (.iaload, 1)) (hin : vp_in j G.L) (hq : pc + 1 = q) (kk : Z G M R k n q zl (.int (G.xs j.toNatClampNeg) :: st) w P) : Z G M R k n pc zl (.int j :: .ref zSI :: st) w P := by
  subst hq
  intro p e s m args below meth c H locs ad ad0 n0 cls C HH hl hlo hst hn he
  have hb := zhb (ad := ad) C
  show W p G.l e R s m args below meth c H locs k n _ (F0 m pc cls (.int j :: .ref (ad zSI) :: st.map (zc ad)))
  rw [HH.2.2.2.2]
  exact va_sld C.1 C.2.1 hb.1 hb.2.1 hb.2.2 HH.2.2.1 hin hd (kk p e s m args below meth c H locs ad ad0 n0 cls C HH hl hlo (.cons trivial hst.tl.tl) hn he)
theorem z_iret {v : Int32} (hd : decode M.code pc = .ok (.ireturn, 1)) (hr : M.ret = some .int) (hk : k ≤ R.cells ∧ n ≤ R.slots) (hP : P (.inl (some (.int v))) w) : Z G M R k n pc zl [.int v] w P := by
  intro p e s m args below meth c H locs ad ad0 n0 cls C HH hl hlo hst hn he
  refine vx_ret (W.widen hk.1 hk.2 ?_)
  exact W.iret C.1 C.2.1 (C.2.2.2.1.trans hr) (fun t ht hW => ⟨some (.int v), w, ad, rfl, hP, ⟨hn, he, HH.2.2.2.1, by rw [ht]; exact HH.1, HH.2.1, HH.2.2.1.F ht⟩, fun v2 h2 => by cases h2; exact hst.hd⟩) HH.2.2.1.2.2 hd C.2.2.2.2.1
theorem z_zret {v : Int32} {ty : FieldType} (hd : decode M.code pc = .ok (.ireturn, 1)) (hr : M.ret = some ty) (hn2 : narrow ty (.int v) = .int v) (hk : k ≤ R.cells ∧ n ≤ R.slots) (hP : P (.inl (some (.int v))) w) : Z G M R k n pc zl [.int v] w P := by
  intro p e s m args below meth c H locs ad ad0 n0 cls C HH hl hlo hst hn he
  refine vx_ret (W.widen hk.1 hk.2 ?_)
  exact W.zret C.1 C.2.1 (C.2.2.2.1.trans hr) hn2 (fun t ht hW => ⟨some (.int v), w, ad, rfl, hP, ⟨hn, he, HH.2.2.2.1, by rw [ht]; exact HH.1, HH.2.1, HH.2.2.1.F ht⟩, fun v2 h2 => by cases h2; exact hst.hd⟩) HH.2.2.1.2.2 hd C.2.2.2.2.1
theorem z_lret {v : Int64} (hd : decode M.code pc = .ok (.lreturn, 1)) (hr : M.ret = some .long) (hk : k ≤ R.cells ∧ n ≤ R.slots) (hP : P (.inl (some (.long v))) w) : Z G M R k n pc zl [.long v] w P := by
  intro p e s m args below meth c H locs ad ad0 n0 cls C HH hl hlo hst hn he
  refine vx_ret (W.widen hk.1 hk.2 ?_)
  exact W.lret C.1 C.2.1 (C.2.2.2.1.trans hr) (fun t ht hW => ⟨some (.long v), w, ad, rfl, hP, ⟨hn, he, HH.2.2.2.1, by rw [ht]; exact HH.1, HH.2.1, HH.2.2.1.F ht⟩, fun v2 h2 => by cases h2; exact hst.hd⟩) HH.2.2.1.2.2 hd C.2.2.2.2.1
theorem z_fret {v : UInt32} (hd : decode M.code pc = .ok (.freturn, 1)) (hr : M.ret = some .float) (hk : k ≤ R.cells ∧ n ≤ R.slots) (hP : P (.inl (some (.float v))) w) : Z G M R k n pc zl [.float v] w P := by
  intro p e s m args below meth c H locs ad ad0 n0 cls C HH hl hlo hst hn he
  refine vx_ret (W.widen hk.1 hk.2 ?_)
  exact W.fret C.1 C.2.1 (C.2.2.2.1.trans hr) (fun t ht hW => ⟨some (.float v), w, ad, rfl, hP, ⟨hn, he, HH.2.2.2.1, by rw [ht]; exact HH.1, HH.2.1, HH.2.2.1.F ht⟩, fun v2 h2 => by cases h2; exact hst.hd⟩) HH.2.2.1.2.2 hd C.2.2.2.2.1
theorem z_dret {v : UInt64} (hd : decode M.code pc = .ok (.dreturn, 1)) (hr : M.ret = some .double) (hk : k ≤ R.cells ∧ n ≤ R.slots) (hP : P (.inl (some (.double v))) w) : Z G M R k n pc zl [.double v] w P := by
  intro p e s m args below meth c H locs ad ad0 n0 cls C HH hl hlo hst hn he
  refine vx_ret (W.widen hk.1 hk.2 ?_)
  exact W.dret C.1 C.2.1 (C.2.2.2.1.trans hr) (fun t ht hW => ⟨some (.double v), w, ad, rfl, hP, ⟨hn, he, HH.2.2.2.1, by rw [ht]; exact HH.1, HH.2.1, HH.2.2.1.F ht⟩, fun v2 h2 => by cases h2; exact hst.hd⟩) HH.2.2.1.2.2 hd C.2.2.2.2.1
theorem z_vret (hd : decode M.code pc = .ok (.return_, 1)) (hr : M.ret = none) (hk : k ≤ R.cells ∧ n ≤ R.slots) (hP : P (.inl none) w) : Z G M R k n pc zl [] w P := by
  intro p e s m args below meth c H locs ad ad0 n0 cls C HH hl hlo hst hn he
  refine vx_ret (W.widen hk.1 hk.2 ?_)
  exact W.vret C.1 C.2.1 (C.2.2.2.1.trans hr) (fun t ht hW => ⟨none, w, ad, rfl, hP, ⟨hn, he, HH.2.2.2.1, by rw [ht]; exact HH.1, HH.2.1, HH.2.2.1.F ht⟩, fun v2 h2 => by cases h2⟩) HH.2.2.1.2.2 hd C.2.2.2.2.1
theorem z_aret {i : Nat} {cn : String} (hd : decode M.code pc = .ok (.areturn, 1)) (hr : M.ret = some (.object cn)) (hk : k ≤ R.cells ∧ n ≤ R.slots) (hP : P (.inl (some (.ref i))) w) : Z G M R k n pc zl [.ref i] w P := by
  intro p e s m args below meth c H locs ad ad0 n0 cls C HH hl hlo hst hn he
  refine vx_ret (W.widen hk.1 hk.2 ?_)
  exact W.aret (v := .ref (ad i)) C.1 C.2.1 (C.2.2.2.1.trans hr) (Or.inl ⟨cn, rfl⟩) (Or.inr ⟨_, rfl⟩) (fun t ht hW => ⟨some (.ref i), w, ad, rfl, hP, ⟨hn, he, HH.2.2.2.1, by rw [ht]; exact HH.1, HH.2.1, HH.2.2.1.F ht⟩, fun v2 h2 => by cases h2; exact hst.hd⟩) HH.2.2.1.2.2 hd C.2.2.2.2.1
end ZH
