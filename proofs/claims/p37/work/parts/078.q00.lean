section
variable {G : zG} {M : zM} {R : Room} {k n pc q : Nat} {zl : List (Option Value)} {st : List Value} {w : zWorld} {P : zRes → zWorld → Prop}
set_option maxRecDepth 100000 in
set_option maxHeartbeats 4000000 in
theorem z_ldci {v : Int32} {i : Nat} (hd : decode M.code pc = .ok (.ldc i, 2)) (hw : Cond.constant M.y.cls i v ∈ zt) (hq : pc + 2 = q) (kk : Z G M R k n q zl (.int v :: st) w P) : Z G M R k n pc zl (st) w P := by
  subst hq
  intro p e s m args below meth c H locs ad ad0 n0 cls C HH hl hlo hst hn he
  exact lv_ldc C.1 C.2.1 C.2.2.2.2.2.1 (C.2.2.2.2.2.2.2.1 _ hw) hd (kk p e s m args below meth c H locs ad ad0 n0 cls C HH hl hlo ((.cons trivial hst)) hn he)
set_option maxRecDepth 100000 in
set_option maxHeartbeats 4000000 in
theorem z_ixor {x y : Int32} (hd : decode M.code pc = .ok (.ixor, 1)) (hq : pc + 1 = q) (kk : Z G M R k n q zl (.int (x ^^^ y) :: st) w P) : Z G M R k n pc zl (.int y :: .int x :: st) w P := by
  subst hq
  intro p e s m args below meth c H locs ad ad0 n0 cls C HH hl hlo hst hn he
  exact lv_ixor C.1 C.2.1 hd (kk p e s m args below meth c H locs ad ad0 n0 cls C HH hl hlo ((.cons trivial hst.tl.tl)) hn he)
set_option maxRecDepth 100000 in
set_option maxHeartbeats 4000000 in
theorem z_iushr {x y v : Int32} (hd : decode M.code pc = .ok (.iushr, 1)) (hv : (x.toUInt32 >>> (y.toUInt32 &&& Int32.toUInt32 31)).toInt32 = v) (hq : pc + 1 = q) (kk : Z G M R k n q zl (.int v :: st) w P) : Z G M R k n pc zl (.int y :: .int x :: st) w P := by
  subst hq
  intro p e s m args below meth c H locs ad ad0 n0 cls C HH hl hlo hst hn he
  exact lv_iushr C.1 C.2.1 hd hv (kk p e s m args below meth c H locs ad ad0 n0 cls C HH hl hlo ((.cons trivial hst.tl.tl)) hn he)
set_option maxRecDepth 100000 in
set_option maxHeartbeats 4000000 in
theorem z_lload {i : Nat} {x : Int64} (hd : decode M.code pc = .ok (.lload i, 2)) (hi : zl[i]? = some (some (.long x))) (hq : pc + 2 = q) (kk : Z G M R k n q zl (.long x :: st) w P) : Z G M R k n pc zl (st) w P := by
  subst hq
  intro p e s m args below meth c H locs ad ad0 n0 cls C HH hl hlo hst hn he
  exact lv_lload C.1 C.2.1 hd (hl.at hi) (kk p e s m args below meth c H locs ad ad0 n0 cls C HH hl hlo ((.cons trivial hst)) hn he)
set_option maxRecDepth 100000 in
set_option maxHeartbeats 4000000 in
theorem z_lstore {i : Nat} {x : Int64} (hd : decode M.code pc = .ok (.lstore i, 2)) (hi : i + 1 < M.maxL) (hp : zpre zl i = true) (hq : pc + 2 = q) (kk : Z G M R k n q ((zl.set i (some (.long x))).set (i + 1) none) st w P) : Z G M R k n pc zl (.long x :: st) w P := by
  subst hq
  intro p e s m args below meth c H locs ad ad0 n0 cls C HH hl hlo hst hn he
  exact lv_lstore C.1 C.2.1 hd hl hi rfl (fun ls' h => kk p e s m args below meth c H locs ad ad0 n0 ls' C HH (zLoc.set2 (x := .long x) hp h) (hlo.set2 trivial) hst.tl hn he)
set_option maxRecDepth 100000 in
set_option maxHeartbeats 4000000 in
theorem z_lload_n {j : Fin 4} {i : Nat} {x : Int64} (hd : decode M.code pc = .ok (.lload_n j, 1)) (hj : (j : Nat) = i) (hi : zl[i]? = some (some (.long x))) (hq : pc + 1 = q) (kk : Z G M R k n q zl (.long x :: st) w P) : Z G M R k n pc zl (st) w P := by
  subst hq
  intro p e s m args below meth c H locs ad ad0 n0 cls C HH hl hlo hst hn he
  exact lv_lload_n C.1 C.2.1 hd hj (hl.at hi) (kk p e s m args below meth c H locs ad ad0 n0 cls C HH hl hlo ((.cons trivial hst)) hn he)
/- caught, and answered with a number: astore, sipush, ireturn -/
set_option maxRecDepth 100000 in
set_option maxHeartbeats 4000000 in
theorem zx_catchS {E name : String} {pre suf : List ExceptionTableEntry} {x : ExceptionTableEntry} {v : Int32} {i p2 p3 : Nat} {c1 : Int} (hsplit : M.table = pre ++ x :: suf)
    (hpass : ∀ z ∈ pre, covers z pc = false ∨ (z.catchType ≠ 0 ∧ ∃ nm : String, Cond.classLink M.y.cls z.catchType nm ∈ zt ∧ (E, nm) ∈ znc)) (hx : covers x pc = true) (h0 : x.catchType ≠ 0) (hlink : Cond.classLink M.y.cls x.catchType name ∈ zt) (hcast : Cond.castable E name ∈ zbad ∨ Cond.castable E name ∈ zt)
    (hi : i < M.maxL) (d1 : decode M.code x.handlerPc = .ok (.astore i, 2)) (e1 : x.handlerPc + 2 = p2) (d2 : decode M.code p2 = .ok (.sipush c1, 3)) (hp3 : p2 + 3 = p3) (d3 : decode M.code p3 = .ok (.ireturn, 1)) (hv : (Int16.ofInt c1).toInt32 = v)
    (hr : M.ret = some .int) (hk : k ≤ R.cells ∧ n ≤ R.slots) (hP : P (.inl (some (.int v))) w) : ZX G M R k n pc zl st w E P := by
  intro p e s m args below meth c H locs ad ad0 n0 cls q9 ce C HH hl hlo hst hn he h1 h2 h3
  have hts := C.2.2.2.2.2.2.2.1
  have hcs : (Cond.castable E name).before args s = true := zat C (L := [_]) (fun w hw => by rw [List.mem_singleton.mp hw]; exact hcast.symm) _ List.mem_cons_self
  refine vx_catch (name := name) C.2.2.2.2.2.1 pre x suf (C.2.2.2.2.2.2.2.2.2.2.2.1.trans hsplit) (fun z hz => ?_) hx h0 (hts _ hlink) hcs h1 h2 h3 ?_
  · rcases hpass z hz with h | ⟨h4, nm, h5, h6⟩
    · exact Or.inl h
    · exact Or.inr ⟨h4, nm, hts _ h5, C.2.2.2.2.2.2.2.2.2.1.2.2.2.2.1 _ h6⟩
  · have hlast : ∀ ls' : Array Slot, W p G.l e R s m args below meth c H locs k n (vx_MQ below (zQc G ad0 n0 P) (zXc G ad0 n0 P) args s R.cells R.slots (zA G)) (F0 m p2 ls' []) := fun ls' => by
      refine lv_sipush C.1 C.2.1 d2 hv ?_
      rw [hp3]
      refine vx_ret (W.widen hk.1 hk.2 ?_)
      exact W.iret C.1 C.2.1 (C.2.2.2.1.trans hr) (fun t ht hW => ⟨some (.int v), w, ad, rfl, hP, ⟨hn, he, HH.2.2.2.1, by rw [ht]; exact HH.1, HH.2.1, HH.2.2.1.F ht⟩, fun v2 h2 => by cases h2; trivial⟩) HH.2.2.1.2.2 d3 C.2.2.2.2.1
    exact lv_astore C.1 C.2.1 d1 hl hi rfl (fun ls' _ => by rw [e1]; exact hlast ls')
set_option maxRecDepth 100000 in
set_option maxHeartbeats 4000000 in
theorem Z.widen {k2 n2 : Nat} (h1 : k ≤ k2) (h2 : n ≤ n2) (h : Z G M R k2 n2 pc zl st w P) : Z G M R k n pc zl st w P := by
  intro p e s m args below meth c H locs ad ad0 n0 cls C HH hl hlo hst hn he
  exact W.widen h1 h2 (h p e s m args below meth c H locs ad ad0 n0 cls C HH hl hlo hst hn he)
set_option maxRecDepth 100000 in
set_option maxHeartbeats 4000000 in
theorem zroom {d mc ms a b : Nat} (h1 : a ≤ mc) (h2 : b ≤ ms) : a ≤ (zrm d mc ms).cells ∧ b ≤ (zrm d mc ms).slots := ⟨h1, h2⟩
/- what a method made and nobody speaks of any more goes out of the world -/
set_option maxRecDepth 100000 in
set_option maxHeartbeats 4000000 in
theorem ZM.drop {d mc ms : Nat} {av : List Value} {P2 : zRes → zWorld → Prop} (h : ZM G M d mc ms av w P2) (hP : ∀ r w2, P2 r w2 → ∃ (v : Int32) (w3 w4 : zWorld), r = .inl (some (.int v)) ∧ w2 = w3 ++ w4 ∧ w.length ≤ w3.length ∧ (zokW w2 → zokW w3) ∧ P r w3) : ZM G M d mc ms av w P := by
  intro ad h1 h2 h3 p e ha hc hk s m args below hf hap hpc htr
  obtain ⟨k, o, q1, q2, q3, q4⟩ := h ad h1 h2 h3 p e ha hc hk s m args below hf hap hpc htr
  refine ⟨k, o, q1, q2, q3, ?_⟩
  rcases q4 with ⟨⟨rv, w2, ad2, e1, e2, ⟨b1, b2, b3, b4, b5, b6⟩, e3⟩, e4⟩ | ⟨q9, e1, E, ce, L, ⟨w2, ad2, e2, e3⟩, e4⟩
  · obtain ⟨v, w3, w4, r1, r2, r3, r4, r5⟩ := hP _ _ e2
    subst r2
    have hg : ∀ i, i < w3.length → (zW G ad2 w3)[i]? = (zW G ad2 (w3 ++ w4))[i]? := fun i hi => by
      unfold zW
      rw [List.getElem?_mapIdx, List.getElem?_mapIdx, List.getElem?_append_left hi]
    have hlt : ∀ (i : Nat) (x : Nat × va_E), (zW G ad2 w3)[i]? = some x → i < w3.length := fun i x hx => by
      have := (List.getElem?_eq_some_iff.mp hx).1
      unfold zW at this
      rwa [List.length_mapIdx] at this
    have hrv : rv = some (.int v) := by cases r1; rfl
    refine Or.inl ⟨⟨rv, w3, ad2, e1, r5, ⟨r3, b2, r4 b3, fun i x hx => b4 i x (by rw [← hg i (hlt i x hx)]; exact hx), ⟨fun i j x y hx hy => b5.1 i j x y (by rw [← hg i (hlt i x hx)]; exact hx) (by rw [← hg j (hlt j y hy)]; exact hy), fun i x hx => b5.2 i x (by rw [← hg i (hlt i x hx)]; exact hx)⟩, b6⟩, fun v2 hv2 => ?_⟩, e4⟩
    rw [hrv] at hv2
    cases hv2
    trivial
  · obtain ⟨v, w3, w4, r1, -⟩ := hP _ _ e2
    cases r1
end
