theorem zle {a b : Nat} (h : Nat.ble a b = true) : a ≤ b := Nat.le_of_ble_eq_true h
def zEq (v : Option Value) (w : zWorld) : zRes → zWorld → Prop := fun r w2 => r = .inl v ∧ w2 = w
section ZF
variable {G : zG} {M : zM} {R : Room} {k n pc q : Nat} {zl : List (Option Value)} {st : List Value} {w : zWorld} {P : zRes → zWorld → Prop}
theorem z_callVF {ix b ci d mc ms : Nat} {M2 : zM} {fs As st0 : List Value} {v : Option Value} {w2 : zWorld} (hd : decode M.code pc = .ok (.invokevirtual ix, 3)) (hs : zCalV M.y.cls ix M2 As.length) (hM : ZM G M2 d mc ms (.ref b :: As) w (zEq v w2)) (hc : w[b]? = some (.inr (ci, fs))) (hci : (zcl[ci]?).map (fun r => r.1) = some M2.y.cls)
    (hst0 : st0 = As.reverse ++ .ref b :: st) (hW : (st.map fun v => v.category).sum ≤ 8) (hR : d + 11 ≤ R.frames ∧ M2.maxL + (60 * d + 319) ≤ R.locals) (hf : k + mc ≤ R.cells ∧ n + ms ≤ R.slots) (hq : pc + 3 = q)
    (kk : Z G M R (k + mc) (n + ms) q zl (v.toList ++ st) w2 P) : Z G M R k n pc zl st0 w P :=
  z_callV hd hs hM hc hci hst0 hW hR hf hq (fun rv w3 h => by obtain ⟨h1, h2⟩ := h; cases h1; rw [h2]; exact kk) (fun E w3 h => by cases h.1)
theorem z_callSF {ix d mc ms : Nat} {M2 : zM} {As st0 : List Value} {v : Option Value} {w2 : zWorld} (hd : decode M.code pc = .ok (.invokestatic ix, 3)) (hs : zCalS M.y.cls ix M2 As.length) (hM : ZM G M2 d mc ms As w (zEq v w2))
    (hst0 : st0 = As.reverse ++ st) (hW : (st.map fun v => v.category).sum ≤ 8) (hR : d + 11 ≤ R.frames ∧ M2.maxL + (60 * d + 319) ≤ R.locals) (hf : k + mc ≤ R.cells ∧ n + ms ≤ R.slots) (hq : pc + 3 = q)
    (kk : Z G M R (k + mc) (n + ms) q zl (v.toList ++ st) w2 P) : Z G M R k n pc zl st0 w P :=
  z_callS hd hs hM hst0 hW hR hf hq (fun rv w3 h => by obtain ⟨h1, h2⟩ := h; cases h1; rw [h2]; exact kk) (fun E w3 h => by cases h.1)
theorem z_callSWF {ix d mc ms : Nat} {M2 : zM} {As st0 : List Value} {v : Option Value} {w2 : zWorld} {hh : List (Nat × Nat × Nat × Nat)} (hd : decode M.code pc = .ok (.invokestatic ix, 3)) (hs : zCalSW M.y.cls ix M2 As.length hh) (hM : ZM G M2 d mc ms As w (zEq v w2))
    (hst0 : st0 = As.reverse ++ st) (hW : (st.map fun v => v.category).sum ≤ 8) (hR : d + 11 ≤ R.frames ∧ M2.maxL + (60 * d + 319) ≤ R.locals) (hf : k + mc ≤ R.cells ∧ n + ms ≤ R.slots) (hq : pc + 3 = q)
    (kk : Z G M R (k + mc) (n + ms) q zl (v.toList ++ st) w2 P) : Z G M R k n pc zl st0 w P :=
  z_callSW hd hs hM hst0 hW hR hf hq (fun rv w3 h => by obtain ⟨h1, h2⟩ := h; cases h1; rw [h2]; exact kk) (fun E w3 h => by cases h.1)
theorem z_callIF {ix b d mc ms : Nat} {M2 : zM} {As st0 : List Value} {v : Option Value} {w2 : zWorld} (hd : decode M.code pc = .ok (.invokespecial ix, 3)) (hs : zCalI M.y.cls ix M2 As.length) (hM : ZM G M2 d mc ms (.ref b :: As) w (zEq v w2)) (hret : M2.ret = none)
    (hst0 : st0 = As.reverse ++ .ref b :: st) (hW : (st.map fun v => v.category).sum ≤ 8) (hR : d + 11 ≤ R.frames ∧ M2.maxL + (60 * d + 319) ≤ R.locals) (hf : k + mc ≤ R.cells ∧ n + ms ≤ R.slots) (hq : pc + 3 = q)
    (kk : Z G M R (k + mc) (n + ms) q zl (v.toList ++ st) w2 P) : Z G M R k n pc zl st0 w P :=
  z_callI hd hs hM hret hst0 hW hR hf hq (fun rv w3 h => by obtain ⟨h1, h2⟩ := h; cases h1; rw [h2]; exact kk) (fun E w3 h => by cases h.1)
theorem z_callINF {ix b d mc ms : Nat} {M2 : zM} {As st0 : List Value} {v : Option Value} {w2 : zWorld} {host : String} (hd : decode M.code pc = .ok (.invokespecial ix, 3)) (hs : zCalIN M.y.cls ix M2 As.length host) (hM : ZM G M2 d mc ms (.ref b :: As) w (zEq v w2)) (hret : M2.ret = none)
    (hst0 : st0 = As.reverse ++ .ref b :: st) (hW : (st.map fun v => v.category).sum ≤ 8) (hR : d + 11 ≤ R.frames ∧ M2.maxL + (60 * d + 319) ≤ R.locals) (hf : k + mc ≤ R.cells ∧ n + ms ≤ R.slots) (hq : pc + 3 = q)
    (kk : Z G M R (k + mc) (n + ms) q zl (v.toList ++ st) w2 P) : Z G M R k n pc zl st0 w P :=
  z_callIN hd hs hM hret hst0 hW hR hf hq (fun rv w3 h => by obtain ⟨h1, h2⟩ := h; cases h1; rw [h2]; exact kk) (fun E w3 h => by cases h.1)
theorem zcats1 {av : List Value} (h : av.all (fun v => v.category == 1) = true) : ∀ v ∈ av, v.category = 1 := fun v hv => by
  have h1 := List.all_eq_true.mp h v hv
  exact beq_iff_eq.mp h1
theorem ZM.go {d mc ms : Nat} {av : List Value} {zl : List (Option Value)} (hy : plainName M.y.cls = true) (hh : M.hh = none) (hc : av.all (fun v => v.category == 1) = true) (hl : av.length ≤ M.maxL) (hz : zent av M.maxL = zl) (h : Z G M (zrm d mc ms) 0 0 0 zl [] w P) : ZM G M d mc ms av w P :=
  ZM.of hy hh (zcats1 hc) hl (by rw [hz]; exact h)
theorem ZM.goH {d mc ms : Nat} {av : List Value} {zl : List (Option Value)} {hs : List (Nat × Nat × Nat × Nat)} (hy : plainName M.y.cls = true) (hh : M.hh = some hs) (hc : av.all (fun v => v.category == 1) = true) (hl : av.length ≤ M.maxL) (hz : zent av M.maxL = zl) (h : Z G M (zrm d mc ms) 0 0 0 zl [] w P) : ZM G M d mc ms av w P :=
  ZM.ofH hy hh (zcats1 hc) hl (by rw [hz]; exact h)
theorem ZM.mono {d mc ms : Nat} {av : List Value} {P2 : zRes → zWorld → Prop} (h : ZM G M d mc ms av w P) (hP : ∀ r w, P r w → P2 r w) : ZM G M d mc ms av w P2 := by
  intro ad h1 h2 h3 p e ha hc hk s m args below hf hap hpc htr
  obtain ⟨k, o, q1, q2, q3, q4⟩ := h ad h1 h2 h3 p e ha hc hk s m args below hf hap hpc htr
  refine ⟨k, o, q1, q2, q3, ?_⟩
  rcases q4 with ⟨⟨rv, w2, ad2, e1, e2, e3⟩, e4⟩ | ⟨q9, e1, E, ce, L, ⟨w2, ad2, e2, e3⟩, e4⟩
  · exact Or.inl ⟨⟨rv, w2, ad2, e1, hP _ _ e2, e3⟩, e4⟩
  · exact Or.inr ⟨q9, e1, E, ce, L, ⟨w2, ad2, hP _ _ e2, e3⟩, e4⟩
end ZF
theorem pX0 : plainName RX0 = true := by decide +kernel
theorem pX1 : plainName RX1 = true := by decide +kernel
theorem pX2 : plainName RX2 = true := by decide +kernel
theorem pX3 : plainName RX3 = true := by decide +kernel
theorem pX4 : plainName RX4 = true := by decide +kernel
theorem pX5 : plainName RX5 = true := by decide +kernel
theorem pX6 : plainName RX6 = true := by decide +kernel
theorem pX7 : plainName RX7 = true := by decide +kernel
theorem pX8 : plainName RX8 = true := by decide +kernel
theorem pL : plainName RL = true := by decide +kernel
/-- an index within, by its number -/
theorem zin {k N : Nat} (h : k < N) (hN : N < 2 ^ 31) : vp_in (nI k) N := by
  unfold vp_in
  rw [nI_clamp (Nat.lt_trans h hN)]
  exact fun h1 => h1.elim (nI_pos (Nat.lt_trans h hN)) (Nat.not_le.mpr h)
/-- a Row at c (c. 4) and its array behind it: N places with f, the length len -/
def isRow (w : zWorld) (c N : Nat) (f : Nat → Int32) (len : Int32) : Prop := w[c]? = some (.inr (4, [.ref (c + 1), .int len])) ∧ w[c + 1]? = some (.inl (0, N, .inl f))
def zput (w : zWorld) (c N : Nat) (f : Nat → Int32) (len : Int32) : zWorld := (w.set c (.inr (4, [.ref (c + 1), .int len]))).set (c + 1) (.inl (0, N, .inl f))
theorem zset_self {w : zWorld} {i : Nat} {c : zCell} (h : w[i]? = some c) : w.set i c = w := by
  apply List.ext_getElem?
  intro j
  rw [List.getElem?_set]
  by_cases e : i = j
  · subst e
    rw [if_pos rfl, if_pos (List.getElem?_eq_some_iff.mp h).1, h]
  · rw [if_neg e]
theorem isRow.putA {w : zWorld} {c N : Nat} {f g : Nat → Int32} {len : Int32} (h : isRow w c N f len) : w.set (c + 1) (.inl (0, N, .inl g)) = zput w c N g len := by
  unfold zput
  rw [zset_self h.1]
theorem isRow.put0 {w : zWorld} {c N : Nat} {f : Nat → Int32} {len : Int32} (h : isRow w c N f len) : zput w c N f len = w := by
  rw [← h.putA, zset_self h.2]
theorem isRow.putL {w : zWorld} {c N : Nat} {f : Nat → Int32} {len l2 : Int32} (h : isRow w c N f len) : w.set c (.inr (4, [.ref (c + 1), .int l2])) = zput w c N f l2 := by
  unfold zput
  refine (zset_self ?_).symm
  rw [List.getElem?_set_ne (by omega)]
  exact h.2
theorem isRow.put {w : zWorld} {c N : Nat} {f g : Nat → Int32} {len l2 : Int32} (h : isRow w c N f len) : isRow (zput w c N g l2) c N g l2 := by
  have h1 := (List.getElem?_eq_some_iff.mp h.1).1
  have h2 := (List.getElem?_eq_some_iff.mp h.2).1
  unfold zput
  refine ⟨?_, ?_⟩
  · rw [List.getElem?_set_ne (by omega), List.getElem?_set_self h1]
  · rw [List.getElem?_set_self (by rw [List.length_set]; exact h2)]
theorem zput2 (w : zWorld) (c N : Nat) (f g : Nat → Int32) (l l2 : Int32) : zput (zput w c N f l) c N g l2 = zput w c N g l2 := by
  unfold zput
  rw [List.set_comm _ _ (by omega : c + 1 ≠ c), List.set_set, List.set_set]
theorem isRow.ne {w : zWorld} {c d N K : Nat} {f g : Nat → Int32} {len l2 : Int32} (h : isRow w c N f len) (h1 : d ≠ c) (h2 : d + 1 ≠ c) (h3 : d ≠ c + 1) : isRow (zput w d K g l2) c N f len := by
  unfold zput
  refine ⟨?_, ?_⟩
  · rw [List.getElem?_set_ne (by omega), List.getElem?_set_ne (by omega)]; exact h.1
  · rw [List.getElem?_set_ne (by omega), List.getElem?_set_ne (by omega)]; exact h.2
theorem zput_ne {w : zWorld} {d K i : Nat} {g : Nat → Int32} {l2 : Int32} (h1 : d ≠ i) (h2 : d + 1 ≠ i) : (zput w d K g l2)[i]? = w[i]? := by
  unfold zput
  rw [List.getElem?_set_ne h2, List.getElem?_set_ne h1]
