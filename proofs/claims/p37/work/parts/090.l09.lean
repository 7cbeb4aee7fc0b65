section
variable {G : zG} {X X1 X2 X3 : zX} {Y : zY} {O : zO}
set_option maxRecDepth 100000 in
set_option maxHeartbeats 4000000 in
theorem z_callSP {M : zM} {R : Room} {k n pc q : Nat} {zl : List (Option Value)} {st : List Value} {w : zWorld} {P : zRes → zWorld → Prop} {ix i m : Nat} {As st0 : List Value} (hd : decode M.code pc = .ok (.invokestatic ix, 3)) (hs : zCalS M.y.cls ix mL_pick 3) (hA : As = [.ref zSI, .int (nI i), .int (nI m)]) (hL : G.L ≤ 260) (hi : i < 100000) (hm : 0 < m) (hm2 : m < 100000)
    (hst0 : st0 = As.reverse ++ st) (hW : (st.map fun v => v.category).sum ≤ 8) (hR : 1 + 11 ≤ R.frames ∧ mL_pick.maxL + (60 * 1 + 319) ≤ R.locals) (hf : k + 0 ≤ R.cells ∧ n + 0 ≤ R.slots) (hq : pc + 3 = q)
    (kk : ∀ v, v < m → Z G M R k n q zl (.int (nI v) :: st) w P) : Z G M R k n pc zl st0 w P := by
  subst hA
  exact z_callS (As := [.ref zSI, .int (nI i), .int (nI m)]) hd hs (c_L_pick hL hi hm hm2) hst0 hW hR hf hq (fun rv w2 hw2 => by
    obtain ⟨⟨v, hv, h⟩, rfl⟩ := hw2
    cases h
    exact kk v hv) (fun E w2 hw2 => by obtain ⟨⟨v, -, h⟩, -⟩ := hw2; cases h)
/- any answer that is a number -/
set_option maxRecDepth 100000 in
set_option maxHeartbeats 4000000 in
theorem z_callSI {M : zM} {R : Room} {k n pc q : Nat} {zl : List (Option Value)} {st : List Value} {w : zWorld} {P P2 : zRes → zWorld → Prop} {ix d mc ms : Nat} {M2 : zM} {As st0 : List Value} (hd : decode M.code pc = .ok (.invokestatic ix, 3)) (hs : zCalS M.y.cls ix M2 As.length) (hM : ZM G M2 d mc ms As w P2) (hI : ∀ r w, P2 r w → ∃ v : Int32, r = .inl (some (.int v)))
    (hst0 : st0 = As.reverse ++ st) (hW : (st.map fun v => v.category).sum ≤ 8) (hR : d + 11 ≤ R.frames ∧ M2.maxL + (60 * d + 319) ≤ R.locals) (hf : k + mc ≤ R.cells ∧ n + ms ≤ R.slots) (hq : pc + 3 = q)
    (kk : ∀ v w2, P2 (.inl (some (.int v))) w2 → Z G M R (k + mc) (n + ms) q zl (.int v :: st) w2 P) : Z G M R k n pc zl st0 w P :=
  z_callS hd hs hM hst0 hW hR hf hq (fun rv w2 hw2 => by
    obtain ⟨v, h⟩ := hI _ _ hw2
    cases h
    exact kk v w2 hw2) (fun E w2 hw2 => by obtain ⟨v, h⟩ := hI _ _ hw2; cases h)
set_option maxRecDepth 100000 in
set_option maxHeartbeats 4000000 in
theorem z_callSWI {M : zM} {R : Room} {k n pc q : Nat} {zl : List (Option Value)} {st : List Value} {w : zWorld} {P P2 : zRes → zWorld → Prop} {ix d mc ms : Nat} {M2 : zM} {As st0 : List Value} {hh : List (Nat × Nat × Nat × Nat)} (hd : decode M.code pc = .ok (.invokestatic ix, 3)) (hs : zCalSW M.y.cls ix M2 As.length hh) (hM : ZM G M2 d mc ms As w P2) (hI : ∀ r w, P2 r w → ∃ v : Int32, r = .inl (some (.int v)))
    (hst0 : st0 = As.reverse ++ st) (hW : (st.map fun v => v.category).sum ≤ 8) (hR : d + 11 ≤ R.frames ∧ M2.maxL + (60 * d + 319) ≤ R.locals) (hf : k + mc ≤ R.cells ∧ n + ms ≤ R.slots) (hq : pc + 3 = q)
    (kk : ∀ v w2, P2 (.inl (some (.int v))) w2 → Z G M R (k + mc) (n + ms) q zl (.int v :: st) w2 P) : Z G M R k n pc zl st0 w P :=
  z_callSW hd hs hM hst0 hW hR hf hq (fun rv w2 hw2 => by
    obtain ⟨v, h⟩ := hI _ _ hw2
    cases h
    exact kk v w2 hw2) (fun E w2 hw2 => by obtain ⟨v, h⟩ := hI _ _ hw2; cases h)
set_option maxRecDepth 100000 in
set_option maxHeartbeats 4000000 in
theorem z_callVA {M : zM} {R : Room} {k n pc q : Nat} {zl : List (Option Value)} {st : List Value} {w : zWorld} {P : zRes → zWorld → Prop} {ix b ci d mc ms : Nat} {M2 : zM} {fs As st0 : List Value} {v : Int32} {E : Prop} (hd : decode M.code pc = .ok (.invokevirtual ix, 3)) (hs : zCalV M.y.cls ix M2 As.length) (hM : ZM G M2 d mc ms (.ref b :: As) w (aP X Y O v E)) (hc : w[b]? = some (.inr (ci, fs))) (hci : (zcl[ci]?).map (fun r => r.1) = some M2.y.cls)
    (hst0 : st0 = As.reverse ++ .ref b :: st) (hW : (st.map fun v => v.category).sum ≤ 8) (hR : d + 11 ≤ R.frames ∧ M2.maxL + (60 * d + 319) ≤ R.locals) (hf : k + mc ≤ R.cells ∧ n + ms ≤ R.slots) (hq : pc + 3 = q)
    (kk : E → ∀ X2, keep0 X X2 → Z G M R (k + mc) (n + ms) q zl (.int v :: st) (zw X2 Y O) P) : Z G M R k n pc zl st0 w P :=
  z_callV hd hs hM hc hci hst0 hW hR hf hq (fun rv w2 hw2 => by
    obtain ⟨h1, h2, X2, rfl, h3⟩ := hw2
    cases h1
    exact kk h2 X2 h3) (fun E w2 hw2 => by cases hw2.1)
set_option maxRecDepth 100000 in
set_option maxHeartbeats 4000000 in
theorem a_sound {n nw : Nat} (hI : inv X n nw) (hk : keep0 X X1) : ZM G mX8_isSound 13 1 6 [.ref 0] (zw X1 Y O) (aP X Y O 1 True) :=
  (c_X8_isSound (inv_keep hk hI)).mono fun r w h => by
    obtain ⟨X2, h1, h2, h3⟩ := h
    exact ⟨h1, trivial, X2, h2, keep0_trans hk h3⟩
set_option maxRecDepth 100000 in
set_option maxHeartbeats 4000000 in
abbrev nolk (X : zX) (n : Nat) : Prop := ∀ j, j < n → X.2.1 4 j = 0
set_option maxRecDepth 100000 in
set_option maxHeartbeats 4000000 in
def addP (X : zX) (n nw : Nat) (Y : zY) (O : zO) : zRes → zWorld → Prop := fun r w2 => (∃ v : Int32, r = .inl (some (.int v)) ∧ v < 0 ∧ w2 = zw X Y O) ∨ (r = .inl (some (.int (nI n))) ∧ ∃ X3, w2 = zw X3 Y O ∧ inv X3 (n + 1) nw ∧ n < 4 ∧ nolk X3 (n + 1))
set_option maxRecDepth 100000 in
set_option maxHeartbeats 4000000 in
theorem addP_int {n nw : Nat} : ∀ r w, addP X n nw Y O r w → ∃ v : Int32, r = .inl (some (.int v)) := fun r w h => by
  rcases h with ⟨v, h, -⟩ | ⟨h, -⟩
  · exact ⟨v, h⟩
  · exact ⟨_, h⟩
set_option maxRecDepth 100000 in
set_option maxHeartbeats 4000000 in
theorem add_thr {n : Nat} {l t w h : Int32} : (∃ E, (E = eIAE ∨ E = eISE ∨ E = eUOE) ∧ A_addShape X n l t w h = (.inr E, X)) ∨ (((¬ w < 2 ∧ ¬ 200 < w) ∧ (¬ h < 1 ∧ ¬ 120 < h)) ∧ (zon 200 l w ∧ zon 120 t h) ∧ nI n < 4 ∧ rfirst (pover X (-1) l t w h) 0 n = -1 ∧ A_addShape X n l t w h = (.inl (some (.int (nI n))), xadd X n l t w h)) := by
  unfold A_addShape
  by_cases h1 : w < 2 ∨ 200 < w ∨ h < 1 ∨ ¬ h ≤ 120
  · exact Or.inl ⟨eIAE, Or.inl rfl, if_pos h1⟩
  · rw [if_neg h1]
    by_cases h2 : ¬ (zon 200 l w ∧ zon 120 t h)
    · exact Or.inl ⟨eIAE, Or.inl rfl, if_pos h2⟩
    · rw [if_neg h2]
      by_cases h3 : ¬ nI n < 4
      · exact Or.inl ⟨eISE, Or.inr (Or.inl rfl), if_pos h3⟩
      · rw [if_neg h3]
        by_cases h4 : ¬ rfirst (pover X (-1) l t w h) 0 n = -1
        · exact Or.inl ⟨eUOE, Or.inr (Or.inr rfl), if_pos h4⟩
        · rw [if_neg h4]
          have h5 : (¬ w < 2 ∧ ¬ 200 < w) ∧ (¬ h < 1 ∧ ¬ 120 < h) := Decidable.not_not.mp fun h9 => h1 (add_cond.mpr h9)
          exact Or.inr ⟨h5, Decidable.not_not.mp h2, Decidable.not_not.mp h3, Decidable.not_not.mp h4, rfl⟩
set_option maxRecDepth 100000 in
set_option maxHeartbeats 4000000 in
theorem d_add {n nw : Nat} {l t w h : Int32} (hI : inv X n nw) (hl : nolk X n) : ZM G mL_deed 15 1 6 [.ref 0, .int 0, .int l, .int t, .int w, .int h] (zw X Y O) (addP X n nw Y O) := by
  have hP : ∀ r w2, zR (A_addShape X n l t w h).1 (zw (A_addShape X n l t w h).2 Y O) r w2 → okRes ALL r ∧ addP X n nw Y O (.inl (some (.int (lans r)))) w2 := fun r w2 hr => by
    obtain ⟨h1, h2⟩ := hr
    rcases add_thr (X := X) (n := n) (l := l) (t := t) (w := w) (h := h) with ⟨E, hE, e⟩ | ⟨c1, c2, c3, c4, e⟩
    · rw [e] at h1 h2
      rcases hE with rfl | rfl | rfl
      · exact ⟨ok_thr h1 (by simp), Or.inl ⟨_, rfl, by rw [la_iae h1]; decide, h2⟩⟩
      · exact ⟨ok_thr h1 (by simp), Or.inl ⟨_, rfl, by rw [la_ise h1]; decide, h2⟩⟩
      · exact ⟨ok_thr h1 (by simp), Or.inl ⟨_, rfl, by rw [la_uoe h1]; decide, h2⟩⟩
    · rw [e] at h1 h2
      have h4 := hI.1
      have hn : n < 4 := (nI_ltI (b := 4) (by omega) (by omega)).mp c3
      refine ⟨ok_int h1, Or.inr ⟨by rw [la_int h1], _, h2, inv_add hI hn c1.1 c1.2 c2.1 c2.2 c4, hn, fun j hj => ?_⟩⟩
      show upd (X.2.1 4) n 0 j = 0
      by_cases e2 : j = n
      · rw [e2, pk_us]
      · rw [pk_un e2]; exact hl j (by omega)
  exact (c_L_deed (c_L_plain_0 (c_X8_addShape (inv_x hI) hI.1) (fun r w2 hr => (hP r w2 hr).1)) (fun r w2 hr => (hP r w2 hr).1)).mono fun r w2 hr => by
    obtain ⟨r0, h1, h2⟩ := hr
    rw [h2]
    exact (hP r0 w2 h1).2
set_option maxRecDepth 100000 in
set_option maxHeartbeats 4000000 in
theorem d_lock {n nw k : Nat} {c d : Int32} (hI : inv X n nw) (hl : nolk X n) (hk : k < n) : ZM G mL_deed 15 1 6 [.ref 0, .int 1, .int (nI k), .int 1, .int c, .int d] (zw X Y O) (dP Y O 0 (fun X3 => inv X3 n nw ∧ ¬ X3.2.1 4 k = 0)) :=
  deed_of (c_L_plain_1 (c_X8_setLocked (inv_n hI) hI.1 hk) (fun r w h => Or.inl ⟨_, _, h.1⟩)) (fun r w h => ok_int h.1) (fun r w h => ⟨by rw [la_int h.1]; exact if_neg (fun h9 => h9 (hl k hk)), _, h.2, inv_lock hI hk, by
    show ¬ upd (X.2.1 4) k (zb (¬ (1 : Int32) = 0)) k = 0
    rw [pk_us]
    decide⟩)
set_option maxRecDepth 100000 in
set_option maxHeartbeats 4000000 in
theorem d_wish {n nw a b q f : Nat} (hI : inv X n nw) (hl : nolk X n) (hn : nw < 8) (ha : a < n) (hb : b < n) (hab : a ≠ b) (hq : q < 6) (hf1 : 1 ≤ f) (hf2 : f ≤ 9) : ZM G mL_deed 15 1 6 [.ref 0, .int 5, .int (kdc q), .int (nI a), .int (nI b), .int (nI f)] (zw X Y O) (dP Y O (nI nw) (fun X3 => inv X3 n (nw + 1) ∧ nolk X3 n)) := by
  have h4 := hI.1
  have hw := hI.2.2.2.1
  have hf : ¬ nI f < 1 ∧ ¬ 9 < nI f := ⟨nI_nlt (a := f) (b := 1) hf1 (by omega), nI_nlt (a := 9) (b := f) hf2 (by omega)⟩
  have e : A_addWish X nw (kdc q) (nI a) (nI b) (nI f) = (.inl (some (.int (nI nw))), xwish X nw (kdc q) (nI a) (nI b) (nI f)) := by
    unfold A_addWish
    rw [if_neg (fun h9 => ?_), if_neg (fun h9 => h9 (nI_lt (b := 8) hn (by omega)))]
    rcases h9 with h9 | h9 | h9 | h9
    · exact h9 (kdc_ok hq).1
    · rw [nI_eq (by omega) (by omega)] at h9
      exact hab h9
    · exact hf.1 h9
    · exact h9 (Int32.not_lt.mp hf.2)
  refine deed_of (c_L_plain_5 (kdc_ok hq).2 (c_X8_addWish (inv_n hI) hI.1 ha hb (hw 6 (by decide) (by decide)) (hw 7 (by decide) (by decide)) (hw 8 (by decide) (by decide)) (hw 9 (by decide) (by decide)) (hw 10 (by decide) (by decide)) hI.2.1) (fun r w h => ?_)) (fun r w h => ?_) (fun r w h => ?_)
  · obtain ⟨h1, -⟩ := h
    rw [e] at h1
    exact ok_int h1
  · obtain ⟨h1, -⟩ := h
    rw [e] at h1
    exact ok_int h1
  · obtain ⟨h1, h2⟩ := h
    rw [e] at h1 h2
    exact ⟨la_int h1, _, h2, inv_wish hI hn ha hb hab (kdc_ok hq).1 hf, fun j hj => hl j hj⟩
set_option maxRecDepth 100000 in
set_option maxHeartbeats 4000000 in
def mvP (X : zX) (n nw k : Nat) (l t : Int32) (Y : zY) (O : zO) : zRes → zWorld → Prop := fun r w2 => ∃ (v : Int32) (X3 : zX), r = .inl (some (.int v)) ∧ w2 = zw X3 Y O ∧ inv X3 n nw ∧ X3.2.1 4 = X.2.1 4 ∧ ((mvh X n k l t = 108 ∧ v = -2003) ∨ (mvh X n k l t = 115 ∧ v = -2002) ∨ (mvh X n k l t = 111 ∧ v = -2004) ∨ (mvh X n k l t = 110 ∧ ¬ v < 0 ∧ X3.2.1 0 k = l ∧ X3.2.1 2 k = t))
set_option maxRecDepth 100000 in
set_option maxHeartbeats 4000000 in
theorem mvP_int {n nw k : Nat} {l t : Int32} : ∀ r w, mvP X n nw k l t Y O r w → ∃ v : Int32, r = .inl (some (.int v)) := fun r w h => by
  obtain ⟨v, X3, h, -⟩ := h
  exact ⟨v, h⟩
set_option maxRecDepth 100000 in
set_option maxHeartbeats 4000000 in
theorem mvh_4 {n k : Nat} {l t : Int32} : mvh X n k l t = 108 ∨ mvh X n k l t = 115 ∨ mvh X n k l t = 110 ∨ mvh X n k l t = 111 := by
  by_cases h1 : X.2.1 4 k = 0
  · by_cases h2 : zon 200 l (X.2.1 1 k) ∧ zon 120 t (X.2.1 3 k)
    · rw [mvh_3 h1 h2]
      split
      · exact Or.inr (Or.inr (Or.inl rfl))
      · exact Or.inr (Or.inr (Or.inr rfl))
    · exact Or.inr (Or.inl (mvh_2 h1 h2))
  · exact Or.inl (mvh_1 h1)
set_option maxRecDepth 100000 in
set_option maxHeartbeats 4000000 in
theorem d_move {n nw k l t : Nat} {d : Int32} (hI : inv X n nw) (hk : keep0 X X1) (hkn : k < n) (hl : l ≤ 200) (ht : t ≤ 200) : ZM G mL_deed 15 1 6 [.ref 0, .int 2, .int (nI k), .int (nI l), .int (nI t), .int d] (zw X1 Y O) (mvP X n nw k (nI l) (nI t) Y O) := by
  have hI1 := inv_keep hk hI
  have h4 := hI.1
  have e4 : X1.2.1 4 = X.2.1 4 := (hk.1 4 (by omega)).2
  have hP : ∀ r w2, zR (A_moveTo X1 n k (nI l) (nI t)).1 (zw (A_moveTo X1 n k (nI l) (nI t)).2 Y O) r w2 → okRes ALL r ∧ mvP X n nw k (nI l) (nI t) Y O (.inl (some (.int (lans r)))) w2 := fun r w2 hr => by
    obtain ⟨h1, h2⟩ := hr
    have em := mvh_keep (n := n) (k := k) (l := nI l) (t := nI t) hk
    unfold A_moveTo at h1 h2
    rw [em] at h1 h2
    rcases mvh_4 (X := X) (n := n) (k := k) (l := nI l) (t := nI t) with h | h | h | h
    · rw [if_pos h] at h1 h2
      exact ⟨ok_thr h1 (by simp), _, _, rfl, h2, hI1, e4, Or.inl ⟨h, la_ise h1⟩⟩
    · rw [if_neg (by rw [h]; decide), if_pos h] at h1 h2
      exact ⟨ok_thr h1 (by simp), _, _, rfl, h2, hI1, e4, Or.inr (Or.inl ⟨h, la_iae h1⟩)⟩
    · rw [if_neg (by rw [h]; decide), if_neg (by rw [h]; decide), if_neg (by rw [h]; decide)] at h1 h2
      have h5 := mvh_ok (X := X1) (n := n) (k := k) (l := nI l) (t := nI t) (by rw [em, h]; decide) (by rw [em, h]; decide) (by rw [em, h]; decide)
      have a0 := (hI1.2.2.2.2.1 k hkn).1
      have a2 := (hI1.2.2.2.2.1 k hkn).2.2.1
      refine ⟨ok_int h1, _, _, rfl, h2, inv_move hI1 hkn h5.1 h5.2.1 h5.2.2, ?_, Or.inr (Or.inr (Or.inr ⟨h, ?_, ?_, ?_⟩))⟩
      · exact e4
      · rw [la_int h1, a0.1, a2.1]
        have d1 : iabs (nI l - nI (num (X1.2.1 0 k))) = nI (dN l (num (X1.2.1 0 k))) := nI_dist hl a0.2
        have d2 : iabs (nI t - nI (num (X1.2.1 2 k))) = nI (dN t (num (X1.2.1 2 k))) := nI_dist ht (by have := a2.2; omega)
        have b1 : dN l (num (X1.2.1 0 k)) ≤ 200 := dN_le hl a0.2
        have b2 : dN t (num (X1.2.1 2 k)) ≤ 200 := dN_le ht (by have := a2.2; omega)
        rw [d1, d2, nI_add]
        exact nI_pos (by omega)
      · exact pk_us
      · exact pk_us
    · rw [if_neg (by rw [h]; decide), if_neg (by rw [h]; decide), if_pos h] at h1 h2
      exact ⟨ok_thr h1 (by simp), _, _, rfl, h2, hI1, e4, Or.inr (Or.inr (Or.inl ⟨h, la_uoe h1⟩))⟩
  exact (c_L_deed (c_L_plain_2 (c_X8_moveTo (inv_n hI1) hI.1 hkn) (fun r w2 hr => (hP r w2 hr).1)) (fun r w2 hr => (hP r w2 hr).1)).mono fun r w2 hr => by
    obtain ⟨r0, h1, h2⟩ := hr
    rw [h2]
    exact (hP r0 w2 h1).2
set_option maxRecDepth 100000 in
set_option maxHeartbeats 4000000 in
theorem nx_D {M : zM} {d mc ms n nw : Nat} {av : List Value} (h : ZM G M d mc ms av (zw X1 [] O) (nxP X n nw O)) : ZM G M d mc ms av (zw X1 [] O) (dP [] O 1 (fun X4 => inv X4 n nw ∧ X4.2.1 4 = X.2.1 4)) :=
  h.mono fun r w hr => by
    obtain ⟨h1, X4, h2, h3, h4⟩ := hr
    exact ⟨X4, h1, h2, h3, h4⟩
set_option maxRecDepth 100000 in
set_option maxHeartbeats 4000000 in
theorem l_tidA {n nw t : Nat} (hI : inv X n nw) (hk : keep0 X X1) (ht : t < 2) : ZM G mL_isTidied 17 40 240 [.ref 0, .int (nI n), .int (nI t), .int (-1)] (zw X1 [] O) (dP [] O 1 (fun X4 => inv X4 n nw ∧ X4.2.1 4 = X.2.1 4)) := by
  rcases (show t = 0 ∨ t = 1 by omega) with rfl | rfl
  · exact nx_D (c_L_isTidied_0A hI hk)
  · exact nx_D (c_L_isTidied_1A hI hk)
set_option maxRecDepth 100000 in
set_option maxHeartbeats 4000000 in
theorem l_tidB {n nw t lk : Nat} (hI : inv X n nw) (hk : keep0 X X1) (ht : t < 2) (hlk : lk < n) (hll : ¬ X.2.1 4 lk = 0) : ZM G mL_isTidied 17 40 240 [.ref 0, .int (nI n), .int (nI t), .int (nI lk)] (zw X1 [] O) (dP [] O 1 (fun X4 => inv X4 n nw ∧ X4.2.1 4 = X.2.1 4)) := by
  rcases (show t = 0 ∨ t = 1 by omega) with rfl | rfl
  · exact nx_D (c_L_isTidied_0B hI hk hlk hll)
  · exact nx_D (c_L_isTidied_1B hI hk hlk hll)
set_option maxRecDepth 100000 in
set_option maxHeartbeats 4000000 in
theorem l_sprA {n nw t : Nat} (hI : inv X n nw) (hk : keep0 X X1) (ht : t < 2) : ZM G mL_isSpread 17 80 480 [.ref 0, .int (nI n), .int (nI t), .int (-1)] (zw X1 [] O) (dP [] O 1 (fun X4 => inv X4 n nw ∧ X4.2.1 4 = X.2.1 4)) := by
  rcases (show t = 0 ∨ t = 1 by omega) with rfl | rfl
  · exact nx_D (c_L_isSpread_0A hI hk)
  · exact nx_D (c_L_isSpread_1A hI hk)
set_option maxRecDepth 100000 in
set_option maxHeartbeats 4000000 in
theorem l_sprB {n nw t lk : Nat} (hI : inv X n nw) (hk : keep0 X X1) (ht : t < 2) (hlk : lk < n) (hll : ¬ X.2.1 4 lk = 0) : ZM G mL_isSpread 17 80 480 [.ref 0, .int (nI n), .int (nI t), .int (nI lk)] (zw X1 [] O) (dP [] O 1 (fun X4 => inv X4 n nw ∧ X4.2.1 4 = X.2.1 4)) := by
  rcases (show t = 0 ∨ t = 1 by omega) with rfl | rfl
  · exact nx_D (c_L_isSpread_0B hI hk hlk hll)
  · exact nx_D (c_L_isSpread_1B hI hk hlk hll)
end
