section
variable {X X1 X2 X3 : zX}
set_option maxRecDepth 100000 in
set_option maxHeartbeats 4000000 in
theorem keep0_refl (X : zX) : keep0 X X := ⟨fun _ _ => ⟨rfl, rfl⟩, rfl⟩
set_option maxRecDepth 100000 in
set_option maxHeartbeats 4000000 in
theorem keep0_symm (h : keep0 X X2) : keep0 X2 X := ⟨fun r hr => ⟨(h.1 r hr).1.symm, (h.1 r hr).2.symm⟩, h.2.symm⟩
set_option maxRecDepth 100000 in
set_option maxHeartbeats 4000000 in
theorem keep0_f (h : keep0 X X2) {r : Nat} (hr : r ≤ 10) (k : Nat) : X2.2.1 r k = X.2.1 r k := congrFun (h.1 r hr).2 k
set_option maxRecDepth 100000 in
set_option maxHeartbeats 4000000 in
theorem tsS_keep {t n nw : Nat} {T : tsP} (hk : keep0 X X2) (ht : t < 2) (h : tsS X2 t n nw T) : tsS X t n nw T := by
  have e0 := (hk.1 (2 * t) (by omega)).2
  have e1 := (hk.1 (2 * t + 1) (by omega)).2
  have e2 := (hk.1 (2 * (1 - t)) (by omega)).2
  have e3 := (hk.1 (2 * (1 - t) + 1) (by omega)).2
  have e4 := (hk.1 4 (by omega)).2
  have e6 := (hk.1 6 (by omega)).2
  have e7 := (hk.1 7 (by omega)).2
  have e8 := (hk.1 8 (by omega)).2
  have e9 := (hk.1 9 (by omega)).2
  have e10 := (hk.1 10 (by omega)).2
  unfold tsS chN chq barQ wsel wA wB at h ⊢
  simp only [e0, e1, e2, e3, e4, e6, e7, e8, e9, e10] at h
  exact h
set_option maxRecDepth 100000 in
set_option maxHeartbeats 4000000 in
theorem tdR_keep {t n nw : Nat} {B : bst} (hk : keep0 X X2) (ht : t < 2) (h : tdR X2 t n nw B) : tdR X t n nw B := by
  obtain ⟨T, X9, hT, hS, hr⟩ := h
  exact ⟨T, X9, hT, tsS_keep hk ht hS, hr⟩
set_option maxRecDepth 100000 in
set_option maxHeartbeats 4000000 in
abbrev tdOk (X : zX) (t n nw : Nat) : Prop := ∃ B, tdR X t n nw B
set_option maxRecDepth 100000 in
set_option maxHeartbeats 4000000 in
noncomputable def tdB (X : zX) (t n nw : Nat) : bst := Classical.epsilon (tdR X t n nw)
set_option maxRecDepth 100000 in
set_option maxHeartbeats 4000000 in
theorem tdB_spec {t n nw : Nat} (h : tdOk X t n nw) : tdR X t n nw (tdB X t n nw) := Classical.epsilon_spec h
set_option maxRecDepth 100000 in
set_option maxHeartbeats 4000000 in
theorem td_le {n nw t : Nat} {B : bst} (hI : inv X n nw) (ht : t < 2) (hB : tdR X t n nw B) : B.1 ≤ 72 ∧ B.2.1 ≤ 800 ∧ ∀ j, j < n → B.2.2 j ≤ 200 := by
  have h4 := hI.1
  obtain ⟨D, d1, -⟩ := td_top hI ht hB
  obtain ⟨T, X9, hT, hS, hr⟩ := hB
  have hpv : ∀ j, j < n → Tpv T j ≤ 200 := fun j hj => by rw [(hS.1 j hj).1]; exact (inv_axis hI ht hj).1.2
  have hd : ∀ j, j < n → B.2.2 j ≤ 200 := fun j hj => by rw [(d1 j hj).1]; exact (d1 j hj).2
  rcases hr with ⟨e, -⟩ | ⟨D2, hD, hj, hv, -, -⟩
  · have e1 : B.1 = fAll T (Tpv T) := by rw [e]
    have e2 : B.2.1 = 0 := by rw [e]
    have := fAll_le hT (Tpv T)
    exact ⟨by omega, by omega, hd⟩
  · have h1 := (comp_tidy hI ht hT hS).mp hD
    have e1 : B.1 = 0 + fS T D2 0 n := congrArg Prod.fst hv
    have e2 : B.2.1 = 0 + cS T D2 0 n := congrArg Prod.snd hv
    rw [fS_all hT] at e1
    have h2 := fAll_le hT D2
    have h3 := cS_le (T := T) (D := D2) n 0 fun j _ hj => dN_le (h1.2 j (by omega)) (hpv j (by omega))
    exact ⟨by omega, by omega, hd⟩
set_option maxRecDepth 100000 in
set_option maxHeartbeats 4000000 in
theorem td_uniq {n nw t : Nat} {B B2 : bst} (hI : inv X n nw) (ht : t < 2) (hB : tdR X t n nw B) (hB2 : tdR X t n nw B2) : B.1 = B2.1 ∧ B.2.1 = B2.2.1 ∧ ∀ j, j < n → B.2.2 j = B2.2.2 j := by
  obtain ⟨D, d1, d2, d3, d4⟩ := td_top hI ht hB
  obtain ⟨E, e1, e2, e3, e4⟩ := td_top hI ht hB2
  obtain ⟨u1, u2, u3⟩ := top_uniq d2 e2
  have b1 := td_le hI ht hB
  have b2 := td_le hI ht hB2
  refine ⟨(nI_eq (by omega) (by omega)).mp (d3.symm.trans (u1.trans e3)), (nI_eq (by omega) (by omega)).mp (d4.symm.trans (u2.trans e4)), fun j hj => ?_⟩
  have h1 : nI (D j) = nI (E j) := u3 j hj
  have h2 := d1 j hj
  have h3 := e1 j hj
  rw [nI_eq (by omega) (by omega)] at h1
  rw [h2.1, h3.1, h1]
set_option maxRecDepth 100000 in
set_option maxHeartbeats 4000000 in
noncomputable def tV (X : zX) (t n nw : Nat) : Int32 := nI (tdB X t n nw).1
set_option maxRecDepth 100000 in
set_option maxHeartbeats 4000000 in
noncomputable def tC (X : zX) (t n nw : Nat) : Int32 := nI (tdB X t n nw).2.1
set_option maxRecDepth 100000 in
set_option maxHeartbeats 4000000 in
noncomputable def tS (X : zX) (t n nw k : Nat) : Int32 := nI ((tdB X t n nw).2.2 k)
set_option maxRecDepth 100000 in
set_option maxHeartbeats 4000000 in
theorem td_val {n nw t : Nat} {B : bst} (hI : inv X n nw) (ht : t < 2) (hB : tdR X t n nw B) : nI B.1 = tV X t n nw ∧ nI B.2.1 = tC X t n nw ∧ ∀ j, j < n → nI (B.2.2 j) = tS X t n nw j := by
  obtain ⟨u1, u2, u3⟩ := td_uniq hI ht hB (tdB_spec ⟨B, hB⟩)
  exact ⟨congrArg nI u1, congrArg nI u2, fun j hj => congrArg nI (u3 j hj)⟩
set_option maxRecDepth 100000 in
set_option maxHeartbeats 4000000 in
theorem td_facts {n nw t : Nat} (hI : inv X n nw) (ht : t < 2) (h : tdOk X t n nw) : cst X t n (tS X t n nw) = tC X t n nw ∧ frc X t nw (tS X t n nw) = tV X t n nw ∧ frc X t nw (X.2.1 (2 * t)) ≤ tV X t n nw ∧ (∀ k, k < n → ¬ X.2.1 4 k = 0 → tS X t n nw k = X.2.1 (2 * t) k) := by
  have hB := tdB_spec h
  obtain ⟨D, d1, d2, d3, d4⟩ := td_top hI ht hB
  have e : ∀ j, j < n → (fun j => nI (D j)) j = tS X t n nw j := fun j hj => by
    show nI (D j) = nI ((tdB X t n nw).2.2 j)
    rw [(d1 j hj).1]
  have c1 : cst X t n (tS X t n nw) = tC X t n nw := (cst_congr e).symm.trans d4
  have f1 : frc X t nw (tS X t n nw) = tV X t n nw := (frc_congr hI e).symm.trans d3
  refine ⟨c1, f1, ?_, fun k hk hl => ?_⟩
  · obtain ⟨T, X9, hT, hS, hr⟩ := hB
    have hp := ((comp_tidy hI ht hT hS).mp (present_comp hI ht hT hS)).1
    have hp2 : tidyL X t n (X.2.1 (2 * t)) := tidy_congr (fun j hj => by
      show nI (Tpv T j) = _
      rw [(hS.1 j hj).1]; exact (inv_axis hI ht hj).1.1.symm) hp
    have h5 : ¬ frc X t nw (fun j => nI (D j)) < frc X t nw (X.2.1 (2 * t)) := fun h6 => d2.2 _ hp2 (Or.inl h6)
    rw [frc_congr hI e, f1] at h5
    exact Int32.not_lt.mp h5
  · have h6 := (d2.1.2 k hk).1.2
    rw [← e k hk]
    exact h6.resolve_left hl
/- the strength of a state whose shapes stand at D along t -/
set_option maxRecDepth 100000 in
set_option maxHeartbeats 4000000 in
theorem str_of {n nw t : Nat} {D : Nat → Int32} (hI : inv X n nw) (ht : t < 2) (h : ∀ r, r ≤ 10 → r ≠ 2 * t → X3.2.1 r = X.2.1 r) (hD : ∀ k, k < n → X3.2.1 (2 * t) k = D k) : rsumc (pstr X3 t (wA X3) (wB X3)) (X3.2.1 9) 0 nw 0 = frc X t nw D := by
  have e1 := h (2 * t + 1) (by omega) (by omega)
  have e6 := h 6 (by omega) (by omega)
  have e7 := h 7 (by omega) (by omega)
  have e8 := h 8 (by omega) (by omega)
  have e9 := h 9 (by omega) (by omega)
  have e10 := h 10 (by omega) (by omega)
  have w1 : ∀ w, wA X3 w = wA X w := fun w => by unfold wA; rw [e7]
  have w2 : ∀ w, wB X3 w = wB X w := fun w => by unfold wB; rw [e8]
  rw [e9]
  refine rsumc_congr _ _ _ fun w _ hw => ?_
  have hA := inv_A hI (w := w) (by omega)
  show (X3.2.1 10 w = 0 ∧ (if zkx (X3.2.1 6 w) then (120 : Int32) else 121) = zch t ∧ 2 * X3.2.1 (2 * t) (wA X3 w) + zedge (X3.2.1 6 w) * X3.2.1 (2 * t + 1) (wA X3 w) = 2 * X3.2.1 (2 * t) (wB X3 w) + zedge (X3.2.1 6 w) * X3.2.1 (2 * t + 1) (wB X3 w)) ↔ mhit X t D w
  rw [w1, w2, e1, e6, e10, hD _ hA.2.1, hD _ hA.2.2.2]
  exact ⟨fun h9 => ⟨⟨h9.1, h9.2.1⟩, h9.2.2⟩, fun h9 => ⟨h9.1.1, h9.1.2, h9.2⟩⟩
set_option maxRecDepth 100000 in
set_option maxHeartbeats 4000000 in
theorem wshapes_self {n nw : Nat} (hI : inv X n nw) : wshapes X nw (wA X) (wB X) := inv_shapes hI
/- even layouts: what a search finds is one thing -/
set_option maxRecDepth 100000 in
set_option maxHeartbeats 4000000 in
theorem ordR_uniq {n nw t : Nat} {o o2 : Nat → Nat} (hI : inv X n nw) (ht : t < 2) (h : ordR X t n o) (h2 : ordR X t n o2) : ∀ p, p < n → o p = o2 p := fun p hp => by
  obtain ⟨q, hq, e⟩ := h2.2.2 (o p) (h.1 p hp)
  have r1 := rank_eq hI ht h hp
  have r2 := rank_eq hI ht h2 hq
  have h4 := hI.1
  rw [e, r1, nI_eq (by omega) (by omega)] at r2
  rw [← r2] at e; exact e.symm
set_option maxRecDepth 100000 in
set_option maxHeartbeats 4000000 in
theorem cN_congr {st st2 sb sb2 : Nat → Nat} {g s n : Nat} (h1 : ∀ p, p < n → st p = st2 p) (h2 : ∀ p, p < n → sb p = sb2 p) : ∀ (m p : Nat), p + m ≤ n → cN st sb g s p m = cN st2 sb2 g s p m
  | 0, _, _ => rfl
  | m + 1, p, h => by
    rw [cN, cN, cN_congr h1 h2 m (p + 1) (by omega), h1 p (by omega)]
    unfold pN
    rw [h2 p (by omega)]
set_option maxRecDepth 100000 in
set_option maxHeartbeats 4000000 in
theorem sbf_congr {z z2 : Nat → Nat} {n : Nat} (h : ∀ p, p < n → z p = z2 p) : ∀ p, p ≤ n → sbf z p = sbf z2 p
  | 0, _ => rfl
  | p + 1, hp => by rw [sbf, sbf, sbf_congr h p (by omega), h p (by omega)]
set_option maxRecDepth 100000 in
set_option maxHeartbeats 4000000 in
theorem cand_congr {n : Nat} {st st2 sb sb2 : Nat → Nat} {lk lk2 : Nat → Int32} {F F2 : Int32} {g s : Nat} (h1 : ∀ p, p < n → st p = st2 p) (h2 : ∀ p, p < n → sb p = sb2 p) (h3 : ∀ p, p < n → lk p = lk2 p) (h4 : F = F2) (h : cand n st sb lk F g s) : cand n st2 sb2 lk2 F2 g s := by
  obtain ⟨a, Fn, b1, b2, b3, b4, b5⟩ := h
  refine ⟨a, Fn, h4 ▸ b1, b2, b3, b4, fun p hp hl => ?_⟩
  have h9 := b5 p hp (by rw [h3 p hp]; exact hl)
  unfold pN at h9 ⊢
  rw [← h1 p hp, ← h2 p hp]; exact h9
set_option maxRecDepth 100000 in
set_option maxHeartbeats 4000000 in
theorem evR_congr {n t : Nat} {o o2 : Nat → Nat} {b : eb} (h : ∀ p, p < n → o p = o2 p) (ho : ordR X t n o2) (hv : evR X t n o b) : evR X t n o2 b := by
  have s1 : ∀ p, p < n → eSt X t o p = eSt X t o2 p := fun p hp => by show sN X t (o p) = sN X t (o2 p); rw [h p hp]
  have z1 : ∀ p, p ≤ n → eSb X t o p = eSb X t o2 p := fun p hp => sbf_congr (n := n) (fun q hq => by show zN X t (o q) = zN X t (o2 q); rw [h q hq]) p hp
  have l1 : ∀ p, p < n → eLk X o p = eLk X o2 p := fun p hp => by show X.2.1 4 (o p) = X.2.1 4 (o2 p); rw [h p hp]
  have f1 : eF X t n o = eF X t n o2 := by
    show zlim t - nI (eSb X t o n) = zlim t - nI (eSb X t o2 n)
    rw [z1 n (Nat.le_refl n)]
  have c1 : (fun g s => cN (eSt X t o2) (eSb X t o2) g s 0 n) = (fun g s => cN (eSt X t o) (eSb X t o) g s 0 n) := funext fun g => funext fun s => (cN_congr s1 (fun p hp => z1 p (by omega)) n 0 (by omega)).symm
  refine ⟨ho, ?_⟩
  rw [c1]
  exact eres_congr (fun g s => ⟨cand_congr (fun p hp => (s1 p hp).symm) (fun p hp => (z1 p (by omega)).symm) (fun p hp => (l1 p hp).symm) f1.symm, cand_congr s1 (fun p hp => z1 p (by omega)) l1 f1⟩) hv.2
set_option maxRecDepth 100000 in
set_option maxHeartbeats 4000000 in
theorem ev_uniq {n nw t : Nat} {o o2 : Nat → Nat} {b b2 : eb} (hI : inv X n nw) (ht : t < 2) (h : evR X t n o b) (h2 : evR X t n o2 b2) : b = b2 ∧ ∀ p, p < n → o p = o2 p := by
  have e := ordR_uniq hI ht h.1 h2.1
  exact ⟨eres_same (evR_congr e h2.1 h).2 h2.2, e⟩
set_option maxRecDepth 100000 in
set_option maxHeartbeats 4000000 in
theorem evR_keep {n t : Nat} {o : Nat → Nat} {b : eb} (hk : keep0 X X2) (ht : t < 2) (h : evR X2 t n o b) : evR X t n o b := by
  have e0 := (hk.1 (2 * t) (by omega)).2
  have e1 := (hk.1 (2 * t + 1) (by omega)).2
  have e4 := (hk.1 4 (by omega)).2
  unfold evR ordR eSt eSb eLk eF sN zN at h ⊢
  simp only [e0, e1, e4] at h
  exact h
set_option maxRecDepth 100000 in
set_option maxHeartbeats 4000000 in
def evA : eb → Int32
  | none => -2005
  | some (c, _, _) => nI c
set_option maxRecDepth 100000 in
set_option maxHeartbeats 4000000 in
noncomputable def evq (X : zX) (t n : Nat) : (Nat → Nat) × eb := Classical.epsilon fun q : (Nat → Nat) × eb => evR X t n q.1 q.2
set_option maxRecDepth 100000 in
set_option maxHeartbeats 4000000 in
noncomputable def evV (X : zX) (t n : Nat) : Int32 := evA (evq X t n).2
set_option maxRecDepth 100000 in
set_option maxHeartbeats 4000000 in
abbrev evOk (X : zX) (t n : Nat) : Prop := ∃ q : (Nat → Nat) × eb, evR X t n q.1 q.2
set_option maxRecDepth 100000 in
set_option maxHeartbeats 4000000 in
theorem evq_spec {t n : Nat} (h : evOk X t n) : evR X t n (evq X t n).1 (evq X t n).2 := Classical.epsilon_spec h
set_option maxRecDepth 100000 in
set_option maxHeartbeats 4000000 in
theorem ev_val {n nw t : Nat} {o : Nat → Nat} {b : eb} (hI : inv X n nw) (ht : t < 2) (h : evR X t n o b) : evA b = evV X t n := congrArg evA (ev_uniq hI ht h (evq_spec ⟨(o, b), h⟩)).1
/- behind a spreading -/
set_option maxRecDepth 100000 in
set_option maxHeartbeats 4000000 in
theorem cN_0 {st sb : Nat → Nat} {g s : Nat} : ∀ (m p : Nat), cN st sb g s p m = 0 → ∀ q, p ≤ q → q < p + m → pN sb g s q = st q
  | 0, _, _, q, h1, h2 => absurd h2 (by omega)
  | m + 1, p, h, q, h1, h2 => by
    rw [cN] at h
    by_cases e : q = p
    · subst e
      unfold dN at h
      omega
    · exact cN_0 m (p + 1) (by omega) q (by omega) (by omega)
set_option maxRecDepth 100000 in
set_option maxHeartbeats 4000000 in
theorem cN_all0 {st sb : Nat → Nat} {g s : Nat} : ∀ (m p : Nat), (∀ q, p ≤ q → q < p + m → pN sb g s q = st q) → cN st sb g s p m = 0
  | 0, _, _ => rfl
  | m + 1, p, h => by
    rw [cN, cN_all0 m (p + 1) (fun q a b => h q (by omega) (by omega)), h p (by omega) (by omega)]
    unfold dN
    omega
set_option maxRecDepth 100000 in
set_option maxHeartbeats 4000000 in
theorem sp_facts {n nw t c g s : Nat} {o : Nat → Nat} (hI : inv X n nw) (ht : t < 2) (hv : evR X t n o (some (c, g, s))) (hm : spR X t n o c g s X3) : inv X3 n nw ∧ evR X3 t n o (some (0, g, s)) ∧ (∀ p, p < n → X3.2.1 (2 * t) (o p) = nI (pN (eSb X t o) g s p)) ∧ cst X t n (X3.2.1 (2 * t)) = nI c ∧ g ≤ 200 ∧ s ≤ 200 ∧ 2 ≤ n ∧ (∀ k, k < n → ¬ X.2.1 4 k = 0 → X3.2.1 (2 * t) k = X.2.1 (2 * t) k) ∧ c ≤ 8000 := by
  have hI3 := sp_inv hI ht hv hm
  obtain ⟨D, hD, m1, m2, m3, m4⟩ := hm
  have hc : cdE X t n o g s := hv.2.1
  have hcc : c = coE X t n o g s := hv.2.2.1
  have hl := cd_le hI ht hv.1 hc
  have hl2 := (limN_eq ht).2
  have h2 : 2 ≤ n := hc.1
  have h4 := hI.1
  have hpos : ∀ p, p < n → X3.2.1 (2 * t) (o p) = nI (pN (eSb X t o) g s p) := fun p hp => by
    rw [m3 _ (hv.1.1 p hp), hD p hp]
  have hle : ∀ p, p < n → pN (eSb X t o) g s p ≤ 1800 := fun p hp => pE_le hI ht hv.1 (by omega) (by omega) (by omega)
  have hs3 : ∀ p, p < n → sN X3 t (o p) = pN (eSb X t o) g s p := fun p hp => by
    show num (X3.2.1 (2 * t) (o p)) = _
    rw [hpos p hp, num_nI (by have := hle p hp; omega)]
  have r1 : X3.2.1 (2 * t + 1) = X.2.1 (2 * t + 1) := (m1 (2 * t + 1) (by omega) (by omega)).2
  have r4 : X3.2.1 4 = X.2.1 4 := (m1 4 (by omega) (by omega)).2
  have eb3 : eSb X3 t o = eSb X t o := by
    show sbf (fun q => num (X3.2.1 (2 * t + 1) (o q))) = sbf (fun q => num (X.2.1 (2 * t + 1) (o q)))
    rw [r1]
  have el3 : eLk X3 o = eLk X o := by
    show (fun p => X3.2.1 4 (o p)) = (fun p => X.2.1 4 (o p))
    rw [r4]
  have ef3 : eF X3 t n o = eF X t n o := by
    show zlim t - nI (eSb X3 t o n) = zlim t - nI (eSb X t o n)
    rw [eb3]
  have hord3 : ordR X3 t n o := by
    refine ⟨hv.1.1, fun p q hpq hq => ?_, hv.1.2.2⟩
    rw [hs3 p (by omega), hs3 q hq]
    have z := zN_le hI ht hv.1 (show p < n by omega)
    have z2 : eSb X t o p + zN X t (o p) = eSb X t o (p + 1) := rfl
    have z3 : eSb X t o (p + 1) ≤ eSb X t o q := sbf_mono (by omega)
    have z4 := pN_mono (eSb X t o) g s (zN X t (o p)) hpq (by omega)
    have o1 := hv.1.1 p (by omega)
    have o2 := hv.1.1 q hq
    omega
  have hcd3 : cand n (eSt X3 t o) (eSb X3 t o) (eLk X3 o) (eF X3 t n o) g s := by
    obtain ⟨a, Fn, b1, b2, b3, b4, b5⟩ := hc
    rw [eb3, el3, ef3]
    exact ⟨a, Fn, b1, b2, b3, b4, fun p hp _ => (hs3 p hp).symm⟩
  have hco3 : cN (eSt X3 t o) (eSb X3 t o) g s 0 n = 0 := by
    rw [eb3]
    exact cN_all0 n 0 fun q _ hq => (hs3 q (by omega)).symm
  refine ⟨hI3, ⟨hord3, hcd3, hco3.symm, fun g2 s2 hc2 => ?_⟩, hpos, ?_, by omega, by omega, h2, fun k hk hlk => ?_, ?_⟩
  · show 0 < cN (eSt X3 t o) (eSb X3 t o) g2 s2 0 n ∨ 0 = cN (eSt X3 t o) (eSb X3 t o) g2 s2 0 n ∧ (g < g2 ∨ g = g2 ∧ s ≤ s2)
    rcases Nat.eq_zero_or_pos (cN (eSt X3 t o) (eSb X3 t o) g2 s2 0 n) with h5 | h5
    · have a0 := cN_0 n 0 h5 0 (by omega) (by omega)
      have a1 := cN_0 n 0 h5 1 (by omega) (by omega)
      have b0 := hs3 0 (by omega)
      have b1 := hs3 1 (by omega)
      have c0 : eSt X3 t o 0 = sN X3 t (o 0) := rfl
      have c1 : eSt X3 t o 1 = sN X3 t (o 1) := rfl
      rw [eb3] at a0 a1
      unfold pN at a0 a1 b0 b1
      simp only [Nat.mul_zero, Nat.mul_one, Nat.add_zero] at a0 a1 b0 b1
      exact Or.inr ⟨h5.symm, Or.inr ⟨by omega, by omega⟩⟩
    · exact Or.inl h5
  · rw [hcc]
    exact cst_E hI ht hv.1 (by omega) (by omega) hpos
  · obtain ⟨p, hp, e⟩ := hv.1.2.2 k hk
    have h6 := hc.2.choose_spec.2.2.2.2 p hp (show ¬ X.2.1 4 (o p) = 0 by rw [e]; exact hlk)
    have h7 := (zN_le hI ht hv.1 hp).2.2.2.1
    rw [← e, hpos p hp, h7]
    exact congrArg nI h6
  · rw [hcc]
    exact coE_le hI ht hv.1 (by omega) (by omega)
/- groups: the number of them, and that it falls with the distance -/
set_option maxRecDepth 100000 in
set_option maxHeartbeats 4000000 in
def gcn (n b : Nat) : Nat := (gGo b n 0 n (fun _ => -1) 0).2
set_option maxRecDepth 100000 in
set_option maxHeartbeats 4000000 in
theorem gr_cn {n b : Nat} : (grGo X n b).2 = gcn n b := gGo_congr n 0 _ (fun _ => -1) 0 (by omega) (gfill_eqn n 0 _ (by omega) (fun j hj => absurd hj (Nat.not_lt_zero _)))
set_option maxRecDepth 100000 in
set_option maxHeartbeats 4000000 in
theorem linked_keep {n b : Nat} {d : Int32} (hk : keep0 X X2) (h : linked X n d b) : linked X2 n d b := by
  have e0 := (hk.1 0 (by omega)).2
  have e1 := (hk.1 1 (by omega)).2
  have e2 := (hk.1 2 (by omega)).2
  have e3 := (hk.1 3 (by omega)).2
  unfold linked zdist at h ⊢
  simp only [e0, e1, e2, e3]
  exact h
end
