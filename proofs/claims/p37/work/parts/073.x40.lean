section
variable {G : zG} {X : zX} {Y : zY} {O : zO}
set_option maxRecDepth 100000 in
set_option maxHeartbeats 4000000 in
theorem nsum_or {p r s : Nat → Prop} [DecidablePred p] [DecidablePred r] [DecidablePred s] {g : Nat → Nat} (h : ∀ q, (s q ↔ p q ∨ r q) ∧ ¬ (p q ∧ r q)) : ∀ (m i : Nat), nsum p g i m + nsum r g i m = nsum s g i m
  | 0, i => rfl
  | m + 1, i => by
    have ih := nsum_or h (g := g) m (i + 1)
    obtain ⟨h1, h3⟩ := h i
    unfold nsum
    rcases Decidable.em (p i) with h4 | h4
    · rw [if_pos h4, if_neg (fun h5 => h3 ⟨h4, h5⟩), if_pos (h1.mpr (Or.inl h4))]; omega
    · rw [if_neg h4]
      rcases Decidable.em (r i) with h5 | h5
      · rw [if_pos h5, if_pos (h1.mpr (Or.inr h5))]; omega
      · rw [if_neg h5, if_neg (fun h6 => (h1.mp h6).elim h4 h5)]; omega
set_option maxRecDepth 100000 in
set_option maxHeartbeats 4000000 in
theorem fS_sum (T : tsP) (D : Nat → Nat) : ∀ (m k : Nat), fS T D k m = nsum (fun q => (k ≤ Tws T q ∧ Tws T q < k + m) ∧ hitN T D q) (Tgn T) 0 (Tc2 T)
  | 0, k => (nsum_none _ _ (fun q _ _ h => by omega)).symm
  | m + 1, k => by
    have h1 := fS_sum T D m (k + 1)
    have h2 := nsum_or (p := fun q => Tws T q = k ∧ hitN T D q) (r := fun q => (k + 1 ≤ Tws T q ∧ Tws T q < k + 1 + m) ∧ hitN T D q) (s := fun q => (k ≤ Tws T q ∧ Tws T q < k + (m + 1)) ∧ hitN T D q) (g := Tgn T) (fun q => ⟨⟨fun h => by
        rcases Decidable.em (Tws T q = k) with h3 | h3
        · exact Or.inl ⟨h3, h.2⟩
        · exact Or.inr ⟨by have := h.1; omega, h.2⟩, fun h => h.elim (fun h3 => ⟨by have := h3.1; omega, h3.2⟩) (fun h3 => ⟨by have := h3.1; omega, h3.2⟩)⟩, fun h => by have h3 := h.1.1; have h4 := h.2.1; omega⟩) (Tc2 T) 0
    show fN T D k + fS T D (k + 1) m = _
    rw [h1]
    exact h2
set_option maxRecDepth 100000 in
set_option maxHeartbeats 4000000 in
theorem fS_all {n : Nat} {T : tsP} (hT : tsK X n T) (D : Nat → Nat) : fS T D 0 n = fAll T D := by
  rw [fS_sum]
  unfold fAll
  exact nsum_congr _ _ (fun q _ hq => ⟨fun h => h.2, fun h => ⟨by have h2 := hT.2.2.2.2.2.2 q (by omega); omega, h⟩⟩)
set_option maxRecDepth 100000 in
set_option maxHeartbeats 4000000 in
theorem okAll_N {n : Nat} {T : tsP} (hT : tsK X n T) {D : Nat → Nat} : okAll T D ↔ ∀ k, k < n → okN T D k :=
  ⟨fun h k _ q hq _ => h q hq, fun h q hq => h (Tbs T q) (hT.2.2.2.1.2.2 q hq).2.2.2 q hq rfl⟩
/- the layouts of a search are those of the picks -/
set_option maxRecDepth 100000 in
set_option maxHeartbeats 4000000 in
theorem comp_lay {n : Nat} {T : tsP} (hT : tsK X n T) {D0 D : Nat → Nat} : comp T n 0 D0 D ↔ ∃ p, pok n T p ∧ (∀ j, j < n → D j = lay T p j) ∧ okAll T D := by
  constructor
  · intro h
    have h2 : ∀ j, ∃ i, j < n → i < Tcc T j ∧ D j = Tcv T j i := fun j => by
      rcases Nat.lt_or_ge j n with h3 | h3
      · obtain ⟨i, hi, e⟩ := (h.2 j (Nat.zero_le _) h3).1
        exact ⟨i, fun _ => ⟨hi, e⟩⟩
      · exact ⟨0, fun h4 => absurd h4 (by omega)⟩
    refine ⟨fun j => Classical.choose (h2 j), fun j hj => (Classical.choose_spec (h2 j) hj).1, fun j hj => (Classical.choose_spec (h2 j) hj).2, (okAll_N hT).mpr (fun k hk => (h.2 k (Nat.zero_le _) hk).2)⟩
  · rintro ⟨p, hp, e, ho⟩
    exact ⟨fun j hj => absurd hj (Nat.not_lt_zero _), fun j _ hj => ⟨⟨p j, hp j hj, e j hj⟩, (okAll_N hT).mp ho j hj⟩⟩
/- the present layout is one of them -/
set_option maxRecDepth 100000 in
set_option maxHeartbeats 4000000 in
theorem present_comp {n nw t : Nat} {T : tsP} {X1 : zX} (hI : inv X n nw) (ht : t < 2) (hT : tsK X1 n T) (hS : tsS X t n nw T) : comp T n 0 (Tpv T) (Tpv T) := by
  refine ⟨fun _ _ => rfl, fun j _ hj => ⟨?_, fun q hq hs hc => ?_⟩⟩
  · obtain ⟨i, hi, e⟩ := ((hS.1 j hj).2.2 _).mpr (own_chN hI ht hj)
    exact ⟨i, hi, by rw [(hS.1 j hj).1]; exact e.symm⟩
  · obtain ⟨g1, g2, g3, g4⟩ := hT.2.2.2.1.2.2 q hq
    have hb := hS.2.1.1 q hq
    have a1 := inv_axis hI ht (show Tbf T q < n by omega)
    have a2 := inv_axis hI ht g4
    have s1 := hS.1 (Tbf T q) (by omega)
    have s2 := hS.1 (Tbs T q) g4
    unfold nclash at hc
    rw [s1.1, s1.2.1, s2.1, s2.2.1] at hc
    have b1 := a1.1.2
    have b2 := a1.2.2
    have b3 := a2.1.2
    have b4 := a2.2.2
    have hm : zmeet (X.2.1 (2 * t) (Tbf T q)) (X.2.1 (2 * t + 1) (Tbf T q)) (X.2.1 (2 * t) (Tbs T q)) (X.2.1 (2 * t + 1) (Tbs T q)) := by
      unfold zmeet
      rw [a1.1.1, a1.2.1, a2.1.1, a2.2.1, nI_add, nI_add, nI_leI (by omega) (by omega), nI_leI (by omega) (by omega)]
      omega
    have hap := hI.2.2.2.2.2.1 (Tbf T q) (Tbs T q) g3 g4
    rcases (show t = 0 ∨ t = 1 by omega) with rfl | rfl
    · exact hap ⟨hm, hb⟩
    · exact hap ⟨hb, hm⟩
/- the best strength is the greatest of all -/
set_option maxRecDepth 100000 in
set_option maxHeartbeats 4000000 in
theorem best_all {n nw t g : Nat} {T : tsP} {X1 : zX} {B : bst} (hI : inv X n nw) (ht : t < 2) (hT : tsK X1 n T) (hS : tsS X t n nw T) (hr : res n (comp T n 0 (Tpv T)) (tval T 0 n 0 0) (fAll T (Tpv T), 0, Tpv T) B) (hg : gI n T (pr (Tcc T) 0 n) g) : B.1 = g := by
  have hv : ∀ D, (tval T 0 n 0 0 D).1 = fAll T D := fun D => by
    show 0 + fS T D 0 n = _
    rw [fS_all hT, Nat.zero_add]
  have hle : ∀ D, comp T n 0 (Tpv T) D → fAll T D ≤ g := fun D hD => by
    obtain ⟨p, hp, e, ho⟩ := (comp_lay hT).mp hD
    rw [fAll_congr hT e]
    exact hg.2.1 p hp (vl_lt n 0 (fun j _ hj => hp j (by omega))) (okAll_congr hT e ho)
  have hex : g = 0 ∨ ∃ D, comp T n 0 (Tpv T) D ∧ fAll T D = g := by
    rcases hg.2.2 with h | ⟨q, hq, ho, e⟩
    · exact Or.inl h
    · exact Or.inr ⟨lay T q, (comp_lay hT).mpr ⟨q, hq, fun _ _ => rfl, ho⟩, e⟩
  have hp := present_comp hI ht hT hS
  rcases hr with ⟨e, h⟩ | ⟨D, hD, _, e, _, h⟩
  · have h1 := hle _ hp
    rw [e]
    show fAll T (Tpv T) = g
    rcases hex with h2 | ⟨D, h2, h3⟩
    · omega
    · have h4 := h D h2
      unfold tid at h4
      rw [hv D] at h4
      have h5 : ¬ (fAll T (Tpv T) < fAll T D ∨ _) := h4
      have h6 : ¬ fAll T (Tpv T) < fAll T D := fun h7 => h5 (Or.inl h7)
      omega
  · have e1 : B.1 = fAll T D := (congrArg Prod.fst e).trans (hv D)
    have h1 := hle D hD
    rw [e1]
    rcases hex with h2 | ⟨D2, h2, h3⟩
    · omega
    · have h4 := (h D2 h2).1
      unfold tid at h4
      rw [hv D, hv D2] at h4
      have h6 : ¬ fAll T D < fAll T D2 := fun h7 => h4 (Or.inl h7)
      omega
end
