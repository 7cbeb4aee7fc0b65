set_option maxRecDepth 100000 in
set_option maxHeartbeats 4000000 in
def nsum (p : Nat → Prop) [DecidablePred p] (g : Nat → Nat) : Nat → Nat → Nat
  | _, 0 => 0
  | i, m + 1 => (if p i then g i else 0) + nsum p g (i + 1) m
set_option maxRecDepth 100000 in
set_option maxHeartbeats 4000000 in
theorem rsumc_nsum {p p2 : Nat → Prop} [DecidablePred p] [DecidablePred p2] {g : Nat → Nat} {g2 : Nat → Int32} : ∀ (m i a : Nat), (∀ q, i ≤ q → q < i + m → (p2 q ↔ p q) ∧ g2 q = nI (g q)) → rsumc p2 g2 i m (nI a) = nI (a + nsum p g i m)
  | 0, i, a, _ => rfl
  | m + 1, i, a, h => by
    obtain ⟨h1, h2⟩ := h i (Nat.le_refl _) (by omega)
    have ih := fun a => rsumc_nsum (p := p) (p2 := p2) (g := g) (g2 := g2) m (i + 1) a (fun q hq hq2 => h q (by omega) (by omega))
    unfold rsumc nsum
    rcases Decidable.em (p i) with h3 | h3
    · rw [if_pos (h1.mpr h3), if_pos h3, h2, nI_add, ih, Nat.add_assoc]
    · rw [if_neg (fun h4 => h3 (h1.mp h4)), if_neg h3, ih, Nat.zero_add]
set_option maxRecDepth 100000 in
set_option maxHeartbeats 4000000 in
theorem nsum_congr {p p2 : Nat → Prop} [DecidablePred p] [DecidablePred p2] {g : Nat → Nat} : ∀ (m i : Nat), (∀ q, i ≤ q → q < i + m → (p2 q ↔ p q)) → nsum p2 g i m = nsum p g i m
  | 0, i, _ => rfl
  | m + 1, i, h => by
    have h1 := h i (Nat.le_refl _) (by omega)
    have ih := nsum_congr (p := p) (p2 := p2) (g := g) m (i + 1) (fun q hq hq2 => h q (by omega) (by omega))
    unfold nsum
    rw [ih]
    rcases Decidable.em (p i) with h3 | h3
    · rw [if_pos (h1.mpr h3), if_pos h3]
    · rw [if_neg (fun h4 => h3 (h1.mp h4)), if_neg h3]
set_option maxRecDepth 100000 in
set_option maxHeartbeats 4000000 in
theorem nsum_two {p r s : Nat → Prop} [DecidablePred p] [DecidablePred r] [DecidablePred s] {g : Nat → Nat} (h : ∀ q, (p q → s q) ∧ (r q → s q) ∧ ¬ (p q ∧ r q)) : ∀ (m i : Nat), nsum p g i m + nsum r g i m ≤ nsum s g i m
  | 0, i => Nat.le_refl _
  | m + 1, i => by
    have ih := nsum_two h (g := g) m (i + 1)
    obtain ⟨h1, h2, h3⟩ := h i
    unfold nsum
    rcases Decidable.em (p i) with h4 | h4
    · rw [if_pos h4, if_neg (fun h5 => h3 ⟨h4, h5⟩), if_pos (h1 h4)]; omega
    · rw [if_neg h4]
      rcases Decidable.em (r i) with h5 | h5
      · rw [if_pos h5, if_pos (h2 h5)]; omega
      · rw [if_neg h5]; omega
set_option maxRecDepth 100000 in
set_option maxHeartbeats 4000000 in
theorem nsum_le {p : Nat → Prop} [DecidablePred p] {g : Nat → Nat} {b : Nat} : ∀ (m i : Nat), (∀ q, i ≤ q → q < i + m → g q ≤ b) → nsum p g i m ≤ b * m
  | 0, i, _ => Nat.zero_le _
  | m + 1, i, h => by
    have h1 := h i (Nat.le_refl _) (by omega)
    have ih := nsum_le (p := p) (g := g) m (i + 1) (fun q hq hq2 => h q (by omega) (by omega))
    unfold nsum
    rw [Nat.mul_succ]
    split <;> omega
set_option maxRecDepth 100000 in
set_option maxHeartbeats 4000000 in
theorem nsum_none {p : Nat → Prop} [DecidablePred p] {g : Nat → Nat} : ∀ (m i : Nat), (∀ q, i ≤ q → q < i + m → ¬ p q) → nsum p g i m = 0
  | 0, i, _ => rfl
  | m + 1, i, h => by
    have h1 := h i (Nat.le_refl _) (by omega)
    have ih := nsum_none (p := p) (g := g) m (i + 1) (fun q hq hq2 => h q (by omega) (by omega))
    unfold nsum
    rw [if_neg h1, ih]
set_option maxRecDepth 100000 in
set_option maxHeartbeats 4000000 in
abbrev tsP : Type := (Nat → Nat) × (Nat → Nat → Nat) × (Nat → Nat) × (Nat → Nat) × Nat × (Nat → Nat) × (Nat → Nat) × Nat × (Nat → Nat) × (Nat → Nat) × (Nat → Nat) × (Nat → Nat)
set_option maxRecDepth 100000 in
set_option maxHeartbeats 4000000 in
abbrev Tcc (T : tsP) : Nat → Nat := T.1
set_option maxRecDepth 100000 in
set_option maxHeartbeats 4000000 in
abbrev Tcv (T : tsP) : Nat → Nat → Nat := T.2.1
set_option maxRecDepth 100000 in
set_option maxHeartbeats 4000000 in
abbrev Tpv (T : tsP) : Nat → Nat := T.2.2.1
set_option maxRecDepth 100000 in
set_option maxHeartbeats 4000000 in
abbrev Tsz (T : tsP) : Nat → Nat := T.2.2.2.1
set_option maxRecDepth 100000 in
set_option maxHeartbeats 4000000 in
abbrev Tc (T : tsP) : Nat := T.2.2.2.2.1
set_option maxRecDepth 100000 in
set_option maxHeartbeats 4000000 in
abbrev Tbf (T : tsP) : Nat → Nat := T.2.2.2.2.2.1
set_option maxRecDepth 100000 in
set_option maxHeartbeats 4000000 in
abbrev Tbs (T : tsP) : Nat → Nat := T.2.2.2.2.2.2.1
set_option maxRecDepth 100000 in
set_option maxHeartbeats 4000000 in
abbrev Tc2 (T : tsP) : Nat := T.2.2.2.2.2.2.2.1
set_option maxRecDepth 100000 in
set_option maxHeartbeats 4000000 in
abbrev Twf (T : tsP) : Nat → Nat := T.2.2.2.2.2.2.2.2.1
set_option maxRecDepth 100000 in
set_option maxHeartbeats 4000000 in
abbrev Tws (T : tsP) : Nat → Nat := T.2.2.2.2.2.2.2.2.2.1
set_option maxRecDepth 100000 in
set_option maxHeartbeats 4000000 in
abbrev Tew (T : tsP) : Nat → Nat := T.2.2.2.2.2.2.2.2.2.2.1
set_option maxRecDepth 100000 in
set_option maxHeartbeats 4000000 in
abbrev Tgn (T : tsP) : Nat → Nat := T.2.2.2.2.2.2.2.2.2.2.2
/- a search as loaded, in numbers -/
set_option maxRecDepth 100000 in
set_option maxHeartbeats 4000000 in
def tsK (X : zX) (n : Nat) (T : tsP) : Prop := n ≤ 4 ∧ X.1 21 = nI n ∧ (∀ k, k < n → X.2.1 12 k = nI (Tcc T k) ∧ Tcc T k ≤ 10 ∧ X.2.1 21 k = nI (Tpv T k) ∧ Tpv T k ≤ 200 ∧ X.2.1 14 k = nI (Tsz T k) ∧ Tsz T k ≤ 200 ∧ (∀ j, j < Tcc T k → X.2.1 11 (10 * k + j) = nI (Tcv T k j) ∧ Tcv T k j ≤ 200) ∧ ∀ a b, a < b → b < Tcc T k → Tcv T k a < Tcv T k b) ∧ (X.1 15 = nI (Tc T) ∧ Tc T ≤ 6 ∧ ∀ q, q < Tc T → X.2.1 15 q = nI (Tbf T q) ∧ X.2.1 16 q = nI (Tbs T q) ∧ Tbf T q < Tbs T q ∧ Tbs T q < n) ∧ (X.1 17 = nI (Tc2 T) ∧ Tc2 T ≤ 8 ∧ ∀ q, q < Tc2 T → X.2.1 17 q = nI (Twf T q) ∧ X.2.1 18 q = nI (Tws T q) ∧ Twf T q < Tws T q ∧ Tws T q < n ∧ X.2.1 19 q = nI (Tew T q) ∧ Tew T q ≤ 2 ∧ X.2.1 20 q = nI (Tgn T q) ∧ Tgn T q ≤ 9)
/- all but the layouts and the finding stays -/
set_option maxRecDepth 100000 in
set_option maxHeartbeats 4000000 in
def ks (X X2 : zX) : Prop := (∀ r, ¬ (22 ≤ r ∧ r ≤ 24) → X2.1 r = X.1 r ∧ X2.2.1 r = X.2.1 r) ∧ X2.2.2.2 = X.2.2.2
set_option maxRecDepth 100000 in
set_option maxHeartbeats 4000000 in
theorem ks_refl (X : zX) : ks X X := ⟨fun _ _ => ⟨rfl, rfl⟩, rfl⟩
set_option maxRecDepth 100000 in
set_option maxHeartbeats 4000000 in
theorem ks_trans {X X2 X3 : zX} (h : ks X X2) (h2 : ks X2 X3) : ks X X3 :=
  ⟨fun r hr => ⟨(h2.1 r hr).1.trans (h.1 r hr).1, (h2.1 r hr).2.trans (h.1 r hr).2⟩, h2.2.trans h.2⟩
set_option maxRecDepth 100000 in
set_option maxHeartbeats 4000000 in
theorem ks_row (X : zX) {r : Nat} (hr : 22 ≤ r ∧ r ≤ 24) (f : Nat → Int32) (l : Int32) : ks X (xrow X r f l) :=
  ⟨fun j hj => ⟨xrow_ln X (fun e => hj (by rw [e]; exact hr)) f l, xrow_fn X (fun e => hj (by rw [e]; exact hr)) f l⟩, rfl⟩
set_option maxRecDepth 100000 in
set_option maxHeartbeats 4000000 in
theorem ks_kt {X X2 : zX} (h : kt X X2) : ks X X2 := ⟨fun r hr => h.1 r (by omega), h.2⟩
set_option maxRecDepth 100000 in
set_option maxHeartbeats 4000000 in
theorem tsK_ks {X X2 : zX} {n : Nat} {T : tsP} (hk : ks X X2) (h : tsK X n T) : tsK X2 n T := by
  unfold tsK at h ⊢
  rw [(hk.1 21 (by decide)).1, (hk.1 15 (by decide)).1, (hk.1 17 (by decide)).1, (hk.1 12 (by decide)).2, (hk.1 21 (by decide)).2, (hk.1 14 (by decide)).2, (hk.1 11 (by decide)).2, (hk.1 15 (by decide)).2, (hk.1 16 (by decide)).2, (hk.1 17 (by decide)).2, (hk.1 18 (by decide)).2, (hk.1 19 (by decide)).2, (hk.1 20 (by decide)).2]
  exact h
set_option maxRecDepth 100000 in
set_option maxHeartbeats 4000000 in
abbrev nclash (T : tsP) (D : Nat → Nat) (f s : Nat) : Prop := D f < D s + Tsz T s ∧ D s < D f + Tsz T f
set_option maxRecDepth 100000 in
set_option maxHeartbeats 4000000 in
def okN (T : tsP) (D : Nat → Nat) (k : Nat) : Prop := ∀ q, q < Tc T → Tbs T q = k → ¬ nclash T D (Tbf T q) (Tbs T q)
set_option maxRecDepth 100000 in
set_option maxHeartbeats 4000000 in
abbrev hitN (T : tsP) (D : Nat → Nat) (q : Nat) : Prop := 2 * D (Twf T q) + Tew T q * Tsz T (Twf T q) = 2 * D (Tws T q) + Tew T q * Tsz T (Tws T q)
set_option maxRecDepth 100000 in
set_option maxHeartbeats 4000000 in
def fN (T : tsP) (D : Nat → Nat) (k : Nat) : Nat := nsum (fun q => Tws T q = k ∧ hitN T D q) (Tgn T) 0 (Tc2 T)
set_option maxRecDepth 100000 in
set_option maxHeartbeats 4000000 in
def dN (a b : Nat) : Nat := (a - b) + (b - a)
set_option maxRecDepth 100000 in
set_option maxHeartbeats 4000000 in
def fS (T : tsP) (D : Nat → Nat) : Nat → Nat → Nat
  | _, 0 => 0
  | k, m + 1 => fN T D k + fS T D (k + 1) m
set_option maxRecDepth 100000 in
set_option maxHeartbeats 4000000 in
def cS (T : tsP) (D : Nat → Nat) : Nat → Nat → Nat
  | _, 0 => 0
  | k, m + 1 => dN (D k) (Tpv T k) + cS T D (k + 1) m
set_option maxRecDepth 100000 in
set_option maxHeartbeats 4000000 in
def tid (a b : Nat × Nat) : Prop := b.1 < a.1 ∨ a.1 = b.1 ∧ a.2 < b.2
set_option maxRecDepth 100000 in
set_option maxHeartbeats 4000000 in
theorem tid_trans {a b c : Nat × Nat} (h : tid a b) (h2 : tid b c) : tid a c := by unfold tid at *; omega
set_option maxRecDepth 100000 in
set_option maxHeartbeats 4000000 in
def lexle (n : Nat) (D D2 : Nat → Nat) : Prop := (∀ j, j < n → D j = D2 j) ∨ ∃ j, j < n ∧ (∀ i, i < j → D i = D2 i) ∧ D j < D2 j
set_option maxRecDepth 100000 in
set_option maxHeartbeats 4000000 in
abbrev bst : Type := Nat × Nat × (Nat → Nat)
/- the finding B2 behind a search of the layouts S from the finding B -/
set_option maxRecDepth 100000 in
set_option maxHeartbeats 4000000 in
def res (n : Nat) (S : (Nat → Nat) → Prop) (v : (Nat → Nat) → Nat × Nat) (B B2 : bst) : Prop :=
  (B2 = B ∧ ∀ D, S D → ¬ tid (v D) (B.1, B.2.1)) ∨ ∃ D, S D ∧ (∀ j, j < n → B2.2.2 j = D j) ∧ (B2.1, B2.2.1) = v D ∧ tid (v D) (B.1, B.2.1) ∧ ∀ D2, S D2 → ¬ tid (v D2) (v D) ∧ (v D2 = v D → lexle n D D2)
set_option maxRecDepth 100000 in
set_option maxHeartbeats 4000000 in
theorem res_none {n : Nat} {S : (Nat → Nat) → Prop} {v : (Nat → Nat) → Nat × Nat} {B : bst} (h : ∀ D, S D → ¬ tid (v D) (B.1, B.2.1)) : res n S v B B := Or.inl ⟨rfl, h⟩
set_option maxRecDepth 100000 in
set_option maxHeartbeats 4000000 in
theorem res_union {n : Nat} {S S2 U : (Nat → Nat) → Prop} {v : (Nat → Nat) → Nat × Nat} {B B1 B2 : bst} (hU : ∀ D, U D ↔ S D ∨ S2 D) (hl : ∀ D D2, S D → S2 D2 → lexle n D D2) (h : res n S v B B1) (h2 : res n S2 v B1 B2) : res n U v B B2 := by
  rcases h with ⟨e, h⟩ | ⟨D, hD, ha, hv, ht, h⟩
  · subst e
    rcases h2 with ⟨e, h2⟩ | ⟨D2, hD2, ha2, hv2, ht2, h2⟩
    · subst e
      exact Or.inl ⟨rfl, fun D hD => ((hU D).mp hD).elim (h D) (h2 D)⟩
    · refine Or.inr ⟨D2, (hU D2).mpr (Or.inr hD2), ha2, hv2, ht2, fun D3 hD3 => ?_⟩
      rcases (hU D3).mp hD3 with h3 | h3
      · exact ⟨fun h4 => h D3 h3 (tid_trans h4 ht2), fun h4 => absurd (by rw [h4]; exact ht2) (h D3 h3)⟩
      · exact h2 D3 h3
  · rcases h2 with ⟨e, h2⟩ | ⟨D2, hD2, ha2, hv2, ht2, h2⟩
    · subst e
      refine Or.inr ⟨D, (hU D).mpr (Or.inl hD), ha, hv, ht, fun D3 hD3 => ?_⟩
      rcases (hU D3).mp hD3 with h3 | h3
      · exact h D3 h3
      · exact ⟨by rw [← hv]; exact h2 D3 h3, fun _ => hl D D3 hD h3⟩
    · rw [hv] at ht2
      refine Or.inr ⟨D2, (hU D2).mpr (Or.inr hD2), ha2, hv2, tid_trans ht2 ht, fun D3 hD3 => ?_⟩
      rcases (hU D3).mp hD3 with h3 | h3
      · exact ⟨fun h4 => (h D3 h3).1 (tid_trans h4 ht2), fun h4 => absurd (by rw [h4]; exact ht2) (h D3 h3).1⟩
      · exact h2 D3 h3
set_option maxRecDepth 100000 in
set_option maxHeartbeats 4000000 in
theorem res_congr {n : Nat} {S S2 : (Nat → Nat) → Prop} {v v2 : (Nat → Nat) → Nat × Nat} {B B2 : bst} (hS : ∀ D, S2 D ↔ S D) (hv : ∀ D, S D → v2 D = v D) (h : res n S v B B2) : res n S2 v2 B B2 := by
  rcases h with ⟨e, h⟩ | ⟨D, hD, ha, hv1, ht, h⟩
  · exact Or.inl ⟨e, fun D hD => by rw [hv D ((hS D).mp hD)]; exact h D ((hS D).mp hD)⟩
  · refine Or.inr ⟨D, (hS D).mpr hD, ha, by rw [hv D hD]; exact hv1, by rw [hv D hD]; exact ht, fun D2 hD2 => ?_⟩
    rw [hv D hD, hv D2 ((hS D2).mp hD2)]
    exact h D2 ((hS D2).mp hD2)
/- the layouts that go on from the first k starts of D0 -/
set_option maxRecDepth 100000 in
set_option maxHeartbeats 4000000 in
def comp (T : tsP) (n k : Nat) (D0 D : Nat → Nat) : Prop := (∀ j, j < k → D j = D0 j) ∧ ∀ j, k ≤ j → j < n → (∃ i, i < Tcc T j ∧ D j = Tcv T j i) ∧ okN T D j
set_option maxRecDepth 100000 in
set_option maxHeartbeats 4000000 in
def tval (T : tsP) (k m str cost : Nat) (D : Nat → Nat) : Nat × Nat := (str + fS T D k m, cost + cS T D k m)
set_option maxRecDepth 100000 in
set_option maxHeartbeats 4000000 in
theorem okN_congr {X : zX} {n : Nat} {T : tsP} (hT : tsK X n T) {D D2 : Nat → Nat} {k : Nat} (h : ∀ j, j ≤ k → D j = D2 j) (ho : okN T D k) : okN T D2 k := by
  intro q hq hk
  have h1 := hT.2.2.2.1.2.2 q hq
  unfold nclash
  rw [← h (Tbf T q) (by omega), ← h (Tbs T q) (by omega)]
  exact ho q hq hk
set_option maxRecDepth 100000 in
set_option maxHeartbeats 4000000 in
theorem fN_congr {X : zX} {n : Nat} {T : tsP} (hT : tsK X n T) {D D2 : Nat → Nat} {k : Nat} (h : ∀ j, j ≤ k → D j = D2 j) : fN T D k = fN T D2 k := by
  unfold fN
  refine nsum_congr _ _ (fun q _ hq => ?_)
  have h1 := hT.2.2.2.2.2.2 q (by omega)
  constructor
  · rintro ⟨h2, h3⟩
    refine ⟨h2, ?_⟩
    unfold hitN at h3 ⊢
    rw [← h (Twf T q) (by omega), ← h (Tws T q) (by omega)]; exact h3
  · rintro ⟨h2, h3⟩
    refine ⟨h2, ?_⟩
    unfold hitN at h3 ⊢
    rw [h (Twf T q) (by omega), h (Tws T q) (by omega)]; exact h3
set_option maxRecDepth 100000 in
set_option maxHeartbeats 4000000 in
theorem fN_le {X : zX} {n : Nat} {T : tsP} (hT : tsK X n T) (D : Nat → Nat) (k : Nat) : fN T D k ≤ 72 := by
  unfold fN
  have h := nsum_le (p := fun q => Tws T q = k ∧ hitN T D q) (g := Tgn T) (b := 9) (Tc2 T) 0 (fun q _ hq => (hT.2.2.2.2.2.2 q (by omega)).2.2.2.2.2.2.2)
  have h2 := hT.2.2.2.2.2.1
  omega
/- no layout that goes on is stronger than all the wishes that are left -/
set_option maxRecDepth 100000 in
set_option maxHeartbeats 4000000 in
theorem fS_le (T : tsP) (D : Nat → Nat) : ∀ (m k : Nat), fS T D k m + nsum (fun q => k + m ≤ Tws T q) (Tgn T) 0 (Tc2 T) ≤ nsum (fun q => k ≤ Tws T q) (Tgn T) 0 (Tc2 T)
  | 0, k => by show 0 + _ ≤ _; rw [Nat.zero_add]; exact Nat.le_refl _
  | m + 1, k => by
    have h1 := fS_le T D m (k + 1)
    rw [nsum_congr (p := fun q => k + (m + 1) ≤ Tws T q) (p2 := fun q => k + 1 + m ≤ Tws T q) _ _ (fun q _ _ => by show k + 1 + m ≤ _ ↔ k + (m + 1) ≤ _; omega)] at h1
    have h2 := nsum_two (p := fun q => Tws T q = k ∧ hitN T D q) (r := fun q => k + 1 ≤ Tws T q) (s := fun q => k ≤ Tws T q) (g := Tgn T) (fun q => ⟨fun h => by have := h.1; show k ≤ _; omega, fun h => by have : k + 1 ≤ Tws T q := h; show k ≤ _; omega, fun h => by have h3 := h.1.1; have h4 : k + 1 ≤ Tws T q := h.2; omega⟩) (Tc2 T) 0
    show fN T D k + fS T D (k + 1) m + _ ≤ _
    unfold fN
    omega
