section
variable {G : zG} {X X1 : zX}
set_option maxRecDepth 100000 in
set_option maxHeartbeats 4000000 in
theorem inv_A {n nw w : Nat} (hI : inv X n nw) (hw : w < nw) : X.2.1 7 w = nI (wA X w) ∧ wA X w < n ∧ X.2.1 8 w = nI (wB X w) ∧ wB X w < n := by
  have h := hI.2.2.2.2.2.2 w hw
  exact ⟨h.1.1, h.2.2.1, h.2.1.1, h.2.2.2.1⟩
set_option maxRecDepth 100000 in
set_option maxHeartbeats 4000000 in
theorem rsumc_congr {p p2 : Nat → Prop} [DecidablePred p] [DecidablePred p2] {g : Nat → Int32} : ∀ (m i : Nat) (a : Int32), (∀ q, i ≤ q → q < i + m → (p q ↔ p2 q)) → rsumc p g i m a = rsumc p2 g i m a
  | 0, _, _, _ => rfl
  | m + 1, i, a, h => by
    by_cases hp : p i
    · rw [rsumc_t hp, rsumc_t ((h i (by omega) (by omega)).mp hp)]
      exact rsumc_congr m (i + 1) _ fun q h1 h2 => h q (by omega) (by omega)
    · rw [rsumc_f hp, rsumc_f fun h9 => hp ((h i (by omega) (by omega)).mpr h9)]
      exact rsumc_congr m (i + 1) _ fun q h1 h2 => h q (by omega) (by omega)
set_option maxRecDepth 100000 in
set_option maxHeartbeats 4000000 in
abbrev aOne (X : zX) (t : Nat) (D : Nat → Int32) (k : Nat) : Prop := zon (zlim t) (D k) (X.2.1 (2 * t + 1) k) ∧ (X.2.1 4 k = 0 ∨ D k = X.2.1 (2 * t) k)
set_option maxRecDepth 100000 in
set_option maxHeartbeats 4000000 in
abbrev aPair (X : zX) (t : Nat) (D : Nat → Int32) (k j : Nat) : Prop := zmeet (D j) (X.2.1 (2 * t + 1) j) (D k) (X.2.1 (2 * t + 1) k) ∧ zmeet (X.2.1 (2 * (1 - t)) j) (X.2.1 (2 * (1 - t) + 1) j) (X.2.1 (2 * (1 - t)) k) (X.2.1 (2 * (1 - t) + 1) k)
set_option maxRecDepth 100000 in
set_option maxHeartbeats 4000000 in
def allow (X : zX) (t n : Nat) (D : Nat → Int32) : Prop := ∀ k, k < n → aOne X t D k ∧ ∀ j, j < k → ¬ aPair X t D k j
set_option maxRecDepth 100000 in
set_option maxHeartbeats 4000000 in
def tidyL (X : zX) (t n : Nat) (D : Nat → Int32) : Prop := (∀ k, k < n → isSnap (X.2.1 (2 * t)) (X.2.1 (2 * t + 1)) n k (D k)) ∧ allow X t n D
set_option maxRecDepth 100000 in
set_option maxHeartbeats 4000000 in
abbrev mhit (X : zX) (t : Nat) (D : Nat → Int32) (w : Nat) : Prop := wsel X t w ∧ 2 * D (wA X w) + zedge (X.2.1 6 w) * X.2.1 (2 * t + 1) (wA X w) = 2 * D (wB X w) + zedge (X.2.1 6 w) * X.2.1 (2 * t + 1) (wB X w)
set_option maxRecDepth 100000 in
set_option maxHeartbeats 4000000 in
abbrev frc (X : zX) (t nw : Nat) (D : Nat → Int32) : Int32 := rsumc (mhit X t D) (X.2.1 9) 0 nw 0
set_option maxRecDepth 100000 in
set_option maxHeartbeats 4000000 in
abbrev cst (X : zX) (t n : Nat) (D : Nat → Int32) : Int32 := rsum (fun k => iabs (D k - X.2.1 (2 * t) k)) 0 n 0
set_option maxRecDepth 100000 in
set_option maxHeartbeats 4000000 in
def lexlt (n : Nat) (D E : Nat → Int32) : Prop := ∃ j, j < n ∧ (∀ i, i < j → D i = E i) ∧ D j < E j
set_option maxRecDepth 100000 in
set_option maxHeartbeats 4000000 in
def btr (X : zX) (t n nw : Nat) (D E : Nat → Int32) : Prop := frc X t nw E < frc X t nw D ∨ frc X t nw D = frc X t nw E ∧ (cst X t n D < cst X t n E ∨ cst X t n D = cst X t n E ∧ lexlt n D E)
set_option maxRecDepth 100000 in
set_option maxHeartbeats 4000000 in
def top (X : zX) (t n nw : Nat) (D : Nat → Int32) : Prop := tidyL X t n D ∧ ∀ E, tidyL X t n E → ¬ btr X t n nw E D
set_option maxRecDepth 100000 in
set_option maxHeartbeats 4000000 in
theorem i_tri (a b : Int32) : a < b ∨ a = b ∨ b < a := by
  rcases Int.lt_trichotomy a.toInt b.toInt with h | h | h
  · exact Or.inl (Int32.lt_iff_toInt_lt.mpr h)
  · exact Or.inr (Or.inl (Int32.toInt_inj.mp h))
  · exact Or.inr (Or.inr (Int32.lt_iff_toInt_lt.mpr h))
set_option maxRecDepth 100000 in
set_option maxHeartbeats 4000000 in
theorem lex_tri (D E : Nat → Int32) : ∀ n, (∀ j, j < n → D j = E j) ∨ lexlt n D E ∨ lexlt n E D
  | 0 => Or.inl fun j hj => absurd hj (by omega)
  | n + 1 => by
    rcases lex_tri D E n with h | ⟨j, h1, h2, h3⟩ | ⟨j, h1, h2, h3⟩
    · rcases i_tri (D n) (E n) with h4 | h4 | h4
      · exact Or.inr (Or.inl ⟨n, by omega, h, h4⟩)
      · refine Or.inl fun j hj => ?_
        by_cases e : j = n
        · rw [e]; exact h4
        · exact h j (by omega)
      · exact Or.inr (Or.inr ⟨n, by omega, fun i hi => (h i hi).symm, h4⟩)
    · exact Or.inr (Or.inl ⟨j, by omega, h2, h3⟩)
    · exact Or.inr (Or.inr ⟨j, by omega, h2, h3⟩)
set_option maxRecDepth 100000 in
set_option maxHeartbeats 4000000 in
theorem top_uniq {t n nw : Nat} {D E : Nat → Int32} (h : top X t n nw D) (h2 : top X t n nw E) : frc X t nw D = frc X t nw E ∧ cst X t n D = cst X t n E ∧ ∀ j, j < n → D j = E j := by
  have h3 := h.2 E h2.1
  have h4 := h2.2 D h.1
  have e1 : frc X t nw D = frc X t nw E := by
    rcases i_tri (frc X t nw D) (frc X t nw E) with h5 | h5 | h5
    · exact absurd (Or.inl h5) h3
    · exact h5
    · exact absurd (Or.inl h5) h4
  have e2 : cst X t n D = cst X t n E := by
    rcases i_tri (cst X t n D) (cst X t n E) with h5 | h5 | h5
    · exact absurd (Or.inr ⟨e1, Or.inl h5⟩) h4
    · exact h5
    · exact absurd (Or.inr ⟨e1.symm, Or.inl h5⟩) h3
  refine ⟨e1, e2, ?_⟩
  rcases lex_tri D E n with h5 | h5 | h5
  · exact h5
  · exact absurd (Or.inr ⟨e1, Or.inr ⟨e2, h5⟩⟩) h4
  · exact absurd (Or.inr ⟨e1.symm, Or.inr ⟨e2.symm, h5⟩⟩) h3
set_option maxRecDepth 100000 in
set_option maxHeartbeats 4000000 in
theorem zm_iff {a az b bz : Nat} (h1 : a ≤ 2000) (h2 : az ≤ 2000) (h3 : b ≤ 2000) (h4 : bz ≤ 2000) : zmeet (nI a) (nI az) (nI b) (nI bz) ↔ b < a + az ∧ a < b + bz := by
  unfold zmeet
  rw [nI_add, nI_add, nI_leI (by omega) (by omega), nI_leI (by omega) (by omega)]
  omega
/- the layouts of a search are the tidy ones -/
set_option maxRecDepth 100000 in
set_option maxHeartbeats 4000000 in
theorem comp_tidy {n nw t : Nat} {T : tsP} {D : Nat → Nat} (hI : inv X n nw) (ht : t < 2) (hT : tsK X1 n T) (hS : tsS X t n nw T) : comp T n 0 (Tpv T) D ↔ tidyL X t n (fun j => nI (D j)) ∧ ∀ j, j < n → D j ≤ 200 := by
  have hz : ∀ j, j < n → X.2.1 (2 * t + 1) j = nI (Tsz T j) ∧ Tsz T j ≤ 200 := fun j hj => by
    have h1 := inv_axis hI ht hj
    have h2 := hS.1 j hj
    rw [h2.2.1]; exact h1.2
  constructor
  · intro h
    have hc : ∀ j, j < n → chN X t n j (D j) := fun j hj => by
      obtain ⟨i, hi, e⟩ := (h.2 j (Nat.zero_le _) hj).1
      exact ((hS.1 j hj).2.2 _).mp ⟨i, hi, e.symm⟩
    refine ⟨⟨fun k hk => (hc k hk).2.1, fun k hk => ⟨⟨(hc k hk).2.2.2, (hc k hk).2.2.1⟩, fun j hj hp => ?_⟩⟩, fun j hj => (hc j hj).1⟩
    obtain ⟨q, hq, e1, e2⟩ := hS.2.1.2 j k hj hk hp.2
    have ho := (h.2 k (Nat.zero_le _) hk).2 q hq e2
    rw [e1, e2] at ho
    have z1 := hz j (by omega)
    have z2 := hz k hk
    have hm := hp.1
    rw [z1.1, z2.1, zm_iff (by have := (hc j (by omega)).1; omega) (by omega) (by have := (hc k hk).1; omega) (by omega)] at hm
    exact ho ⟨hm.2, hm.1⟩
  · rintro ⟨⟨h1, h2⟩, h3⟩
    refine ⟨fun j hj => absurd hj (by omega), fun j _ hj => ⟨?_, fun q hq e hcl => ?_⟩⟩
    · obtain ⟨i, hi, e⟩ := ((hS.1 j hj).2.2 (D j)).mpr ⟨h3 j hj, h1 j hj, (h2 j hj).1.2, (h2 j hj).1.1⟩
      exact ⟨i, hi, e.symm⟩
    · obtain ⟨g1, g2, g3, g4⟩ := hT.2.2.2.1.2.2 q hq
      have z1 := hz (Tbf T q) (by omega)
      have z2 := hz (Tbs T q) g4
      refine (h2 (Tbs T q) g4).2 (Tbf T q) g3 ⟨?_, hS.2.1.1 q hq⟩
      show zmeet (nI (D (Tbf T q))) (X.2.1 (2 * t + 1) (Tbf T q)) (nI (D (Tbs T q))) (X.2.1 (2 * t + 1) (Tbs T q))
      rw [z1.1, z2.1, zm_iff (by have := h3 (Tbf T q) (by omega); omega) (by omega) (by have := h3 (Tbs T q) g4; omega) (by omega)]
      exact ⟨hcl.2, hcl.1⟩
set_option maxRecDepth 100000 in
set_option maxHeartbeats 4000000 in
theorem tidy_N {n nw t : Nat} {E : Nat → Int32} (hI : inv X n nw) (ht : t < 2) (h : tidyL X t n E) : ∀ j, j < n → isN (E j) 200 := fun j hj => chq_N hI ht hj ⟨((h.2 j hj).1).2, ((h.2 j hj).1).1⟩
set_option maxRecDepth 100000 in
set_option maxHeartbeats 4000000 in
theorem allow_congr {n t : Nat} {D E : Nat → Int32} (h : ∀ j, j < n → D j = E j) (ha : allow X t n D) : allow X t n E := fun k hk => by
  have h1 := ha k hk
  refine ⟨?_, fun j hj hp => h1.2 j hj ?_⟩
  · have h2 := h1.1
    unfold aOne at h2 ⊢
    rw [← h k hk]; exact h2
  · unfold aPair at hp ⊢
    rw [h k hk, h j (by omega)]; exact hp
set_option maxRecDepth 100000 in
set_option maxHeartbeats 4000000 in
theorem tidy_congr {n t : Nat} {D E : Nat → Int32} (h : ∀ j, j < n → D j = E j) (ha : tidyL X t n D) : tidyL X t n E :=
  ⟨fun k hk => by rw [← h k hk]; exact ha.1 k hk, allow_congr h ha.2⟩
set_option maxRecDepth 100000 in
set_option maxHeartbeats 4000000 in
theorem frc_congr {n nw t : Nat} {D E : Nat → Int32} (hI : inv X n nw) (h : ∀ j, j < n → D j = E j) : frc X t nw D = frc X t nw E :=
  rsumc_congr _ _ _ fun w _ hw => by
    have hA := inv_A hI (w := w) (by omega)
    show (wsel X t w ∧ 2 * D (wA X w) + zedge (X.2.1 6 w) * X.2.1 (2 * t + 1) (wA X w) = 2 * D (wB X w) + zedge (X.2.1 6 w) * X.2.1 (2 * t + 1) (wB X w)) ↔ (wsel X t w ∧ 2 * E (wA X w) + zedge (X.2.1 6 w) * X.2.1 (2 * t + 1) (wA X w) = 2 * E (wB X w) + zedge (X.2.1 6 w) * X.2.1 (2 * t + 1) (wB X w))
    rw [h _ hA.2.1, h _ hA.2.2.2]
set_option maxRecDepth 100000 in
set_option maxHeartbeats 4000000 in
theorem rsum_congr {f g : Nat → Int32} : ∀ (m i : Nat) (a : Int32), (∀ j, i ≤ j → j < i + m → f j = g j) → rsum f i m a = rsum g i m a
  | 0, _, _, _ => rfl
  | m + 1, i, a, h => by
    rw [rsum, rsum, h i (by omega) (by omega)]
    exact rsum_congr m (i + 1) _ fun j h1 h2 => h j (by omega) (by omega)
set_option maxRecDepth 100000 in
set_option maxHeartbeats 4000000 in
theorem cst_congr {n t : Nat} {D E : Nat → Int32} (h : ∀ j, j < n → D j = E j) : cst X t n D = cst X t n E :=
  rsum_congr _ _ _ fun j _ hj => by
    show iabs (D j - _) = iabs (E j - _)
    rw [h j (by omega)]
set_option maxRecDepth 100000 in
set_option maxHeartbeats 4000000 in
theorem lex_congr {n : Nat} {D D2 E E2 : Nat → Int32} (h : ∀ j, j < n → D j = D2 j) (h2 : ∀ j, j < n → E j = E2 j) (hl : lexlt n D E) : lexlt n D2 E2 := by
  obtain ⟨j, h3, h4, h5⟩ := hl
  refine ⟨j, h3, fun i hi => ?_, ?_⟩
  · rw [← h i (by omega), ← h2 i (by omega)]; exact h4 i hi
  · rw [← h j h3, ← h2 j h3]; exact h5
set_option maxRecDepth 100000 in
set_option maxHeartbeats 4000000 in
theorem btr_congr {n nw t : Nat} {D D2 E E2 : Nat → Int32} (hI : inv X n nw) (h : ∀ j, j < n → D j = D2 j) (h2 : ∀ j, j < n → E j = E2 j) (hb : btr X t n nw D E) : btr X t n nw D2 E2 := by
  unfold btr at hb ⊢
  rw [← frc_congr hI h, ← frc_congr hI h2, ← cst_congr h, ← cst_congr h2]
  exact hb.imp id (fun h3 => ⟨h3.1, h3.2.imp id (fun h4 => ⟨h4.1, lex_congr h h2 h4.2⟩)⟩)
/- cost in numbers -/
set_option maxRecDepth 100000 in
set_option maxHeartbeats 4000000 in
theorem cst_N {n nw t : Nat} {T : tsP} {D : Nat → Nat} (hI : inv X n nw) (ht : t < 2) (hS : tsS X t n nw T) (hD : ∀ j, j < n → D j ≤ 200) : ∀ (m i a : Nat), i + m = n → rsum (fun k => iabs (nI (D k) - X.2.1 (2 * t) k)) i m (nI a) = nI (a + cS T D i m)
  | 0, _, _, _ => rfl
  | m + 1, i, a, hi => by
    have h1 := inv_axis hI ht (show i < n by omega)
    have h2 := hS.1 i (by omega)
    have h3 : iabs (nI (D i) - X.2.1 (2 * t) i) = nI (dN (D i) (Tpv T i)) := by
      rw [h1.1.1, h2.1]
      exact nI_dist (hD i (by omega)) h1.1.2
    rw [rsum, h3, nI_add, cst_N hI ht hS hD m (i + 1) _ (by omega), cS, Nat.add_assoc]
/- a sum over places in another order of counting -/
set_option maxRecDepth 100000 in
set_option maxHeartbeats 4000000 in
theorem nsum_last {p : Nat → Prop} [DecidablePred p] {g : Nat → Nat} : ∀ (m i : Nat), nsum p g i (m + 1) = nsum p g i m + (if p (i + m) then g (i + m) else 0)
  | 0, i => by
    simp only [nsum, Nat.add_zero, Nat.zero_add]
  | m + 1, i => by
    have ih := nsum_last (p := p) (g := g) m (i + 1)
    rw [nsum, ih, nsum, show i + 1 + m = i + (m + 1) by omega]
    omega
set_option maxRecDepth 100000 in
set_option maxHeartbeats 4000000 in
theorem nsum_congr2 {p p2 : Nat → Prop} [DecidablePred p] [DecidablePred p2] {g g2 : Nat → Nat} : ∀ (m i : Nat), (∀ q, i ≤ q → q < i + m → (p2 q ↔ p q) ∧ g2 q = g q) → nsum p2 g2 i m = nsum p g i m
  | 0, _, _ => rfl
  | m + 1, i, h => by
    have h1 := h i (by omega) (by omega)
    have ih := nsum_congr2 m (i + 1) fun q a b => h q (by omega) (by omega)
    rw [nsum, nsum, ih, h1.2]
    by_cases hp : p i
    · rw [if_pos hp, if_pos (h1.1.mpr hp)]
    · rw [if_neg hp, if_neg fun h9 => hp (h1.1.mp h9)]
set_option maxRecDepth 100000 in
set_option maxHeartbeats 4000000 in
theorem nsum_sel {p : Nat → Prop} [DecidablePred p] {g wi : Nat → Nat} : ∀ (nw c : Nat), (∀ q, q < c → wi q < nw) → (∀ q s, q < s → s < c → wi q < wi s) → (∀ w, w < nw → p w → ∃ q, q < c ∧ wi q = w) → nsum p g 0 nw = nsum (fun q => p (wi q)) (fun q => g (wi q)) 0 c
  | 0, 0, _, _, _ => rfl
  | 0, c + 1, h, _, _ => absurd (h c (by omega)) (by omega)
  | nw + 1, c, h, h2, h3 => by
    rw [nsum_last, Nat.zero_add]
    by_cases hc : ∃ q, q < c ∧ wi q = nw
    · obtain ⟨q, hq, e⟩ := hc
      obtain ⟨c2, rfl⟩ : ∃ c2, c = c2 + 1 := ⟨c - 1, by omega⟩
      have hq2 : q = c2 := by
        rcases Nat.lt_or_ge q c2 with h4 | h4
        · have h5 := h2 q c2 h4 (by omega)
          have h6 := h c2 (by omega)
          omega
        · omega
      subst hq2
      have ih := nsum_sel (p := p) (g := g) (wi := wi) nw q (fun s hs => by have h5 := h2 s q hs (by omega); omega) (fun a b hab hb => h2 a b hab (by omega)) (fun w hw hp => by
        obtain ⟨s, hs, e2⟩ := h3 w (by omega) hp
        exact ⟨s, by rcases Nat.lt_or_ge s q with h4 | h4
                     · exact h4
                     · rw [show s = q by omega] at e2; omega, e2⟩)
      rw [nsum_last (p := fun q => p (wi q)), Nat.zero_add, ih, e]
    · have hnp : ¬ p nw := fun hp => hc (h3 nw (by omega) hp)
      rw [if_neg hnp, Nat.add_zero]
      exact nsum_sel nw c (fun q hq => by
        have h5 := h q hq
        rcases Nat.lt_or_ge (wi q) nw with h4 | h4
        · exact h4
        · exact absurd ⟨q, hq, by omega⟩ hc) h2 (fun w hw hp => h3 w (by omega) hp)
set_option maxRecDepth 100000 in
set_option maxHeartbeats 4000000 in
abbrev hitW (X : zX) (t : Nat) (D : Nat → Nat) (w : Nat) : Prop := wsel X t w ∧ 2 * D (wA X w) + num (zedge (X.2.1 6 w)) * num (X.2.1 (2 * t + 1) (wA X w)) = 2 * D (wB X w) + num (zedge (X.2.1 6 w)) * num (X.2.1 (2 * t + 1) (wB X w))
set_option maxRecDepth 100000 in
set_option maxHeartbeats 4000000 in
theorem mhit_W {n nw t w : Nat} {D : Nat → Nat} (hI : inv X n nw) (ht : t < 2) (hw : w < nw) (hD : ∀ j, j < n → D j ≤ 200) : mhit X t (fun j => nI (D j)) w ↔ hitW X t D w := by
  have hA := inv_A hI hw
  have a1 := (inv_axis hI ht hA.2.1).2
  have a2 := (inv_axis hI ht hA.2.2.2).2
  have b1 := hD _ hA.2.1
  have b2 := hD _ hA.2.2.2
  have hz := zedge_N (X.2.1 6 w)
  have e : ∀ d z : Nat, 2 * nI d + nI (num (zedge (X.2.1 6 w))) * nI z = nI (2 * d + num (zedge (X.2.1 6 w)) * z) := fun d z => by
    rw [show (2 : Int32) = nI 2 from rfl, nI_mul, nI_mul, nI_add]
  have e1 := e (D (wA X w)) (num (X.2.1 (2 * t + 1) (wA X w)))
  have e2 := e (D (wB X w)) (num (X.2.1 (2 * t + 1) (wB X w)))
  rw [← hz.1, ← a1.1] at e1
  rw [← hz.1, ← a2.1] at e2
  have m1 : num (zedge (X.2.1 6 w)) * num (X.2.1 (2 * t + 1) (wA X w)) ≤ 2 * 200 := Nat.mul_le_mul hz.2 a1.2
  have m2 : num (zedge (X.2.1 6 w)) * num (X.2.1 (2 * t + 1) (wB X w)) ≤ 2 * 200 := Nat.mul_le_mul hz.2 a2.2
  have h1 : (2 * nI (D (wA X w)) + zedge (X.2.1 6 w) * X.2.1 (2 * t + 1) (wA X w) = 2 * nI (D (wB X w)) + zedge (X.2.1 6 w) * X.2.1 (2 * t + 1) (wB X w)) ↔ 2 * D (wA X w) + num (zedge (X.2.1 6 w)) * num (X.2.1 (2 * t + 1) (wA X w)) = 2 * D (wB X w) + num (zedge (X.2.1 6 w)) * num (X.2.1 (2 * t + 1) (wB X w)) := by
    rw [e1, e2, nI_eq (by omega) (by omega)]
  exact ⟨fun h => ⟨h.1, h1.mp h.2⟩, fun h => ⟨h.1, h1.mpr h.2⟩⟩
/- the strength in numbers -/
set_option maxRecDepth 100000 in
set_option maxHeartbeats 4000000 in
theorem frc_N {n nw t : Nat} {T : tsP} {D : Nat → Nat} (hI : inv X n nw) (ht : t < 2) (hT : tsK X1 n T) (hS : tsS X t n nw T) (hD : ∀ j, j < n → D j ≤ 200) : frc X t nw (fun j => nI (D j)) = nI (fAll T D) := by
  obtain ⟨wi, g1, g2, g3⟩ := hS.2.2
  have e1 : frc X t nw (fun j => nI (D j)) = nI (0 + nsum (hitW X t D) (fun w => num (X.2.1 9 w)) 0 nw) :=
    rsumc_nsum nw 0 0 fun w _ hw => ⟨mhit_W hI ht (by omega) hD, (hI.2.2.2.2.2.2 w (by omega)).2.2.2.2.2.1.1⟩
  rw [e1, Nat.zero_add]
  congr 1
  rw [nsum_sel nw (Tc2 T) (fun q hq => (g1 q hq).1) g2 (fun w hw hp => g3 w hw hp.1)]
  unfold fAll
  refine nsum_congr2 _ _ fun q _ hq => ?_
  obtain ⟨w1, w2, w3, w4, w5, w6⟩ := g1 q (by omega)
  refine ⟨?_, w6.symm⟩
  have hA := inv_A hI w1
  have s1 := (hS.1 _ hA.2.1).2.1
  have s2 := (hS.1 _ hA.2.2.2).2.1
  unfold hitN
  rw [w3, w4, w5]
  show wsel X t (wi q) ∧ 2 * D (wA X (wi q)) + num (zedge (X.2.1 6 (wi q))) * num (X.2.1 (2 * t + 1) (wA X (wi q))) = 2 * D (wB X (wi q)) + num (zedge (X.2.1 6 (wi q))) * num (X.2.1 (2 * t + 1) (wB X (wi q))) ↔ _
  rw [← s1, ← s2]
  rcases Nat.le_total (wA X (wi q)) (wB X (wi q)) with h | h
  · rw [Nat.min_eq_left h, Nat.max_eq_right h]
    exact ⟨fun h9 => h9.2, fun h9 => ⟨w2, h9⟩⟩
  · rw [Nat.min_eq_right h, Nat.max_eq_left h]
    exact ⟨fun h9 => h9.2.symm, fun h9 => ⟨w2, h9.symm⟩⟩
set_option maxRecDepth 100000 in
set_option maxHeartbeats 4000000 in
theorem cS_le {T : tsP} {D : Nat → Nat} : ∀ (m k : Nat), (∀ j, k ≤ j → j < k + m → dN (D j) (Tpv T j) ≤ 200) → cS T D k m ≤ 200 * m
  | 0, _, _ => Nat.le_refl _
  | m + 1, k, h => by
    have h1 := h k (by omega) (by omega)
    have h2 := cS_le m (k + 1) fun j a b => h j (by omega) (by omega)
    unfold cS; omega
set_option maxRecDepth 100000 in
set_option maxHeartbeats 4000000 in
theorem cS_0 {T : tsP} {D : Nat → Nat} : ∀ (m k : Nat), cS T D k m = 0 → ∀ j, k ≤ j → j < k + m → D j = Tpv T j
  | 0, k, _, j, h1, h2 => absurd h2 (by omega)
  | m + 1, k, h, j, h1, h2 => by
    unfold cS at h
    by_cases e : j = k
    · subst e; unfold dN at h; omega
    · exact cS_0 m (k + 1) (by omega) j (by omega) (by omega)
set_option maxRecDepth 100000 in
set_option maxHeartbeats 4000000 in
theorem cS_self {T : tsP} : ∀ (m k : Nat), cS T (Tpv T) k m = 0
  | 0, _ => rfl
  | m + 1, k => by
    have := cS_self (T := T) m (k + 1)
    unfold cS dN; omega
/- what the search finds is the top of all tidy layouts -/
set_option maxRecDepth 100000 in
set_option maxHeartbeats 4000000 in
theorem td_top {n nw t : Nat} {B : bst} (hI : inv X n nw) (ht : t < 2) (hB : tdR X t n nw B) : ∃ D : Nat → Nat, (∀ j, j < n → B.2.2 j = D j ∧ D j ≤ 200) ∧ top X t n nw (fun j => nI (D j)) ∧ frc X t nw (fun j => nI (D j)) = nI B.1 ∧ cst X t n (fun j => nI (D j)) = nI B.2.1 := by
  obtain ⟨T, X1, hT, hS, hr⟩ := hB
  have hv : ∀ D, tval T 0 n 0 0 D = (fAll T D, cS T D 0 n) := fun D => by
    unfold tval
    rw [fS_all hT, Nat.zero_add, Nat.zero_add]
  have hpv : ∀ j, j < n → Tpv T j ≤ 200 := fun j hj => by rw [(hS.1 j hj).1]; exact (inv_axis hI ht hj).1.2
  have hcst : ∀ D : Nat → Nat, (∀ j, j < n → D j ≤ 200) → cst X t n (fun j => nI (D j)) = nI (cS T D 0 n) := fun D hD => by
    have h1 := cst_N hI ht hS hD n 0 0 (by omega)
    rw [Nat.zero_add] at h1
    exact h1
  have hcl : ∀ D : Nat → Nat, (∀ j, j < n → D j ≤ 200) → cS T D 0 n ≤ 800 := fun D hD => by
    have h1 := cS_le (T := T) (D := D) n 0 fun j _ hj => dN_le (hD j (by omega)) (hpv j (by omega))
    have h4 := hI.1
    omega
  have hN : ∀ E, tidyL X t n E → ∃ e : Nat → Nat, (∀ j, j < n → E j = nI (e j)) ∧ (∀ j, j < n → e j ≤ 200) ∧ comp T n 0 (Tpv T) e := fun E hE => by
    have h1 := tidy_N hI ht hE
    have h2 : ∀ j, j < n → E j = nI (num (E j)) := fun j hj => (h1 j hj).1
    exact ⟨fun j => num (E j), h2, fun j hj => (h1 j hj).2, (comp_tidy hI ht hT hS).mpr ⟨tidy_congr h2 hE, fun j hj => (h1 j hj).2⟩⟩
  have main : ∀ D, comp T n 0 (Tpv T) D → (∀ e, comp T n 0 (Tpv T) e → ¬ tid (fAll T e, cS T e 0 n) (fAll T D, cS T D 0 n) ∧ (fAll T e = fAll T D → cS T e 0 n = cS T D 0 n → lexle n D e)) → (∀ j, j < n → D j ≤ 200) ∧ top X t n nw (fun j => nI (D j)) ∧ frc X t nw (fun j => nI (D j)) = nI (fAll T D) ∧ cst X t n (fun j => nI (D j)) = nI (cS T D 0 n) := fun D hD hbest => by
    have h1 := (comp_tidy hI ht hT hS).mp hD
    have hfD := frc_N hI ht hT hS h1.2
    have hcD := hcst D h1.2
    refine ⟨h1.2, ⟨h1.1, fun E hE hb => ?_⟩, hfD, hcD⟩
    obtain ⟨e, h2, h3, h4⟩ := hN E hE
    have hb2 := btr_congr hI h2 (fun j _ => rfl) hb
    have hfe := frc_N hI ht hT hS h3
    have hce := hcst e h3
    have h5 := hbest e h4
    have b1 := fAll_le hT D
    have b2 := fAll_le hT e
    have b3 := hcl D h1.2
    have b4 := hcl e h3
    unfold btr at hb2
    rw [hfD, hfe, hcD, hce, nI_ltI (by omega) (by omega), nI_eq (by omega) (by omega), nI_ltI (by omega) (by omega), nI_eq (by omega) (by omega)] at hb2
    unfold tid at h5
    dsimp only at h5
    rcases hb2 with h6 | ⟨h6, h7 | ⟨h7, j, h8, h9, h10⟩⟩
    · exact h5.1 (Or.inl h6)
    · exact h5.1 (Or.inr ⟨h6, h7⟩)
    · have h11 := h3 j h8
      have h12 := h1.2 j h8
      have h10' : nI (e j) < nI (D j) := h10
      rw [nI_ltI (by omega) (by omega)] at h10'
      have h9' : ∀ i, i < j → e i = D i := fun i hi => by
        have h13 := h3 i (by omega)
        have h14 := h1.2 i (by omega)
        exact (nI_eq (by omega) (by omega)).mp (h9 i hi)
      rcases h5.2 h6 h7 with h15 | ⟨j2, h16, h17, h18⟩
      · have := h15 j h8; omega
      · rcases Nat.lt_trichotomy j j2 with h19 | h19 | h19
        · have := h17 j h19; omega
        · subst h19; omega
        · have := h9' j2 h19; omega
  rcases hr with ⟨e, h⟩ | ⟨D, hD, h1, h2, _, h⟩
  · obtain ⟨m1, m2, m3, m4⟩ := main (Tpv T) (present_comp hI ht hT hS) fun e he => by
      have h1 := h e he
      rw [hv] at h1
      rw [cS_self]
      exact ⟨h1, fun _ h3 => Or.inl fun j hj => (cS_0 n 0 h3 j (by omega) (by omega)).symm⟩
    rw [cS_self] at m4
    rw [e]
    exact ⟨Tpv T, fun j hj => ⟨rfl, m1 j hj⟩, m2, m3, m4⟩
  · obtain ⟨m1, m2, m3, m4⟩ := main D hD fun e he => by
      have h3 := h e he
      rw [hv, hv] at h3
      exact ⟨h3.1, fun a b => h3.2 (by rw [a, b])⟩
    rw [hv] at h2
    have e1 : B.1 = fAll T D := congrArg Prod.fst h2
    have e2 : B.2.1 = cS T D 0 n := congrArg Prod.snd h2
    exact ⟨D, fun j hj => ⟨h1 j hj, m1 j hj⟩, m2, by rw [e1]; exact m3, by rw [e2]; exact m4⟩
set_option maxRecDepth 100000 in
set_option maxHeartbeats 4000000 in
theorem nsum_single {g : Nat → Nat} {a : Nat} : ∀ (m i : Nat), i ≤ a → a < i + m → nsum (fun q => q = a) g i m = g a
  | 0, i, h1, h2 => absurd h2 (by omega)
  | m + 1, i, h1, h2 => by
    rw [nsum]
    by_cases e : i = a
    · rw [if_pos e, e, nsum_none _ _ (fun q hq _ => by omega), Nat.add_zero]
    · rw [if_neg e, Nat.zero_add]
      exact nsum_single m (i + 1) (by omega) (by omega)
/- the place of a shape in an order -/
set_option maxRecDepth 100000 in
set_option maxHeartbeats 4000000 in
theorem ord_pos {t n : Nat} {o : Nat → Nat} (h : ordR X t n o) : ∃ ps : Nat → Nat, (∀ j, j < n → ps j < n ∧ o (ps j) = j) ∧ ∀ p, p < n → ps (o p) = p := by
  have h2 : ∀ j, ∃ p, j < n → p < n ∧ o p = j := fun j => by
    rcases Nat.lt_or_ge j n with h3 | h3
    · obtain ⟨p, h4⟩ := h.2.2 j h3
      exact ⟨p, fun _ => h4⟩
    · exact ⟨0, fun h4 => absurd h4 (by omega)⟩
  have h3 : ∀ j, j < n → Classical.choose (h2 j) < n ∧ o (Classical.choose (h2 j)) = j := fun j hj => Classical.choose_spec (h2 j) hj
  refine ⟨fun j => Classical.choose (h2 j), h3, fun p hp => ?_⟩
  have h4 := h3 (o p) (h.1 p hp)
  rcases Nat.lt_trichotomy (Classical.choose (h2 (o p))) p with h5 | h5 | h5
  · exact absurd h4.2 (ordR_inj h h5 hp)
  · exact h5
  · exact absurd h4.2.symm (ordR_inj h h5 h4.1)
set_option maxRecDepth 100000 in
set_option maxHeartbeats 4000000 in
theorem nsum_pos {t n : Nat} {o ps g : Nat → Nat} (h : ordR X t n o) (h1 : ∀ j, j < n → ps j < n ∧ o (ps j) = j) (h2 : ∀ p, p < n → ps (o p) = p) : ∀ m, m ≤ n → nsum (fun k => ps k < m) g 0 n = nsum (fun _ => True) (fun p => g (o p)) 0 m
  | 0, _ => by rw [nsum_none _ _ (fun q _ _ h9 => absurd h9 (by omega))]; rfl
  | m + 1, hm => by
    rw [nsum_last, if_pos trivial, Nat.zero_add, ← nsum_pos h h1 h2 m (by omega)]
    rw [← nsum_or (p := fun k => ps k < m) (r := fun k => ps k = m) (s := fun k => ps k < m + 1) (fun q => ⟨by omega, by omega⟩) n 0]
    rw [nsum_congr (p := fun k => k = o m) (p2 := fun k => ps k = m) n 0 (fun q _ hq => ⟨fun h9 => by rw [← h9]; exact ((h1 q (by omega)).2).symm, fun h9 => by rw [h9]; exact h2 m (by omega)⟩), nsum_single n 0 (Nat.zero_le _) (by have := h.1 m (by omega); omega)]
set_option maxRecDepth 100000 in
set_option maxHeartbeats 4000000 in
theorem nsum_ones : ∀ (m i : Nat), nsum (fun _ => True) (fun _ => 1) i m = m
  | 0, _ => rfl
  | m + 1, i => by rw [nsum, if_pos trivial, nsum_ones m (i + 1)]; omega
/- the rank of a shape -/
set_option maxRecDepth 100000 in
set_option maxHeartbeats 4000000 in
abbrev lessP (X : zX) (t k j : Nat) : Prop := X.2.1 (2 * t) j < X.2.1 (2 * t) k ∨ X.2.1 (2 * t) j = X.2.1 (2 * t) k ∧ nI j < nI k
set_option maxRecDepth 100000 in
set_option maxHeartbeats 4000000 in
theorem rank_eq {n nw t p : Nat} {o : Nat → Nat} (hI : inv X n nw) (ht : t < 2) (h : ordR X t n o) (hp : p < n) : rcnt (lessP X t (o p)) 0 n 0 = nI p := by
  obtain ⟨ps, h1, h2⟩ := ord_pos h
  have h4 := hI.1
  have e : ∀ (m i a : Nat), rcnt (lessP X t (o p)) i m (nI a) = nI (a + nsum (lessP X t (o p)) (fun _ => 1) i m) := fun m => by
    induction m with
    | zero => intro i a; rfl
    | succ m ih =>
      intro i a
      rw [nsum]
      by_cases hq : lessP X t (o p) i
      · rw [rcnt_t hq, if_pos hq, nI_1, ih, Nat.add_assoc]
      · rw [rcnt_f hq, if_neg hq, ih, Nat.zero_add]
  have e2 := e n 0 0
  rw [Nat.zero_add] at e2
  refine e2.trans ?_
  congr 1
  rw [nsum_congr (p := fun k => ps k < p) n 0 (fun q _ hq => ?_), nsum_pos h h1 h2 p (by omega), nsum_ones]
  have hq2 : q < n := by omega
  have a1 := inv_axis hI ht hq2
  have a2 := inv_axis hI ht (h.1 p hp)
  have hop := h.1 p hp
  have hl : lessP X t (o p) q ↔ sN X t q * 4 + q < sN X t (o p) * 4 + o p := by
    unfold lessP
    rw [a1.1.1, a2.1.1, nI_ltI (by have := a1.1.2; omega) (by have := a2.1.2; omega), nI_eq (by have := a1.1.2; omega) (by have := a2.1.2; omega), nI_ltI (by omega) (by omega)]
    show sN X t q < sN X t (o p) ∨ sN X t q = sN X t (o p) ∧ q < o p ↔ _
    omega
  rw [hl]
  obtain ⟨g1, g2⟩ := h1 q hq2
  constructor
  · intro h5
    rcases Nat.lt_trichotomy (ps q) p with h6 | h6 | h6
    · exact h6
    · rw [← h6, g2] at h5; omega
    · have h7 := h.2.1 p (ps q) h6 g1
      rw [g2] at h7; omega
  · intro h5
    have h7 := h.2.1 (ps q) p h5 hp
    rw [g2] at h7; exact h7
set_option maxRecDepth 100000 in
set_option maxHeartbeats 4000000 in
abbrev coE (X : zX) (t n : Nat) (o : Nat → Nat) (g s : Nat) : Nat := cN (eSt X t o) (eSb X t o) g s 0 n
set_option maxRecDepth 100000 in
set_option maxHeartbeats 4000000 in
abbrev cdE (X : zX) (t n : Nat) (o : Nat → Nat) : Nat → Nat → Prop := cand n (eSt X t o) (eSb X t o) (eLk X o) (eF X t n o)
set_option maxRecDepth 100000 in
set_option maxHeartbeats 4000000 in
def limN (t : Nat) : Nat := if t = 0 then 200 else 120
set_option maxRecDepth 100000 in
set_option maxHeartbeats 4000000 in
theorem limN_eq {t : Nat} (ht : t < 2) : zlim t = nI (limN t) ∧ limN t ≤ 200 := by
  rcases (show t = 0 ∨ t = 1 by omega) with rfl | rfl <;> exact ⟨rfl, by decide⟩
set_option maxRecDepth 100000 in
set_option maxHeartbeats 4000000 in
theorem sbf_mono {z : Nat → Nat} : ∀ {p q : Nat}, p ≤ q → sbf z p ≤ sbf z q := fun {p q} h => by
  induction q with
  | zero => rw [show p = 0 by omega]; exact Nat.le_refl _
  | succ q ih =>
    rcases Nat.lt_or_ge q p with h1 | h1
    · rw [show p = q + 1 by omega]; exact Nat.le_refl _
    · exact Nat.le_trans (ih h1) (Nat.le_add_right _ _)
set_option maxRecDepth 100000 in
set_option maxHeartbeats 4000000 in
theorem zN_le {n nw t : Nat} {o : Nat → Nat} (hI : inv X n nw) (ht : t < 2) (ho : ordR X t n o) {p : Nat} (hp : p < n) : X.2.1 (2 * t + 1) (o p) = nI (zN X t (o p)) ∧ zN X t (o p) ≤ 200 ∧ 1 ≤ zN X t (o p) ∧ X.2.1 (2 * t) (o p) = nI (sN X t (o p)) ∧ sN X t (o p) ≤ 200 := by
  have h1 := inv_axis hI ht (ho.1 p hp)
  have h2 := hI.2.2.2.2.1 (o p) (ho.1 p hp)
  refine ⟨h1.2.1, h1.2.2, ?_, h1.1.1, h1.1.2⟩
  rcases (show t = 0 ∨ t = 1 by omega) with rfl | rfl
  · have := h2.2.2.2.2.1
    show 1 ≤ num (X.2.1 1 (o p))
    omega
  · exact h2.2.2.2.2.2.1
set_option maxRecDepth 100000 in
set_option maxHeartbeats 4000000 in
theorem eSb_le {n nw t : Nat} {o : Nat → Nat} (hI : inv X n nw) (ht : t < 2) (ho : ordR X t n o) {p : Nat} (hp : p ≤ n) : eSb X t o p ≤ 800 := by
  have h1 := sbf_le (z := fun q => zN X t (o q)) p (fun q hq => (zN_le hI ht ho (show q < n by omega)).2.1)
  have h4 := hI.1
  show sbf (fun q => zN X t (o q)) p ≤ 800
  omega
set_option maxRecDepth 100000 in
set_option maxHeartbeats 4000000 in
theorem pN_next (sb : Nat → Nat) (z g s p : Nat) (h : sb (p + 1) = sb p + z) : pN sb g s p + (z + g) = pN sb g s (p + 1) := by
  unfold pN
  rw [h, Nat.mul_add, Nat.mul_one]
  omega
set_option maxRecDepth 100000 in
set_option maxHeartbeats 4000000 in
theorem pE_le {n nw t g s : Nat} {o : Nat → Nat} (hI : inv X n nw) (ht : t < 2) (ho : ordR X t n o) (hg : g ≤ 200) (hs : s ≤ 200) {p : Nat} (hp : p ≤ n) : pN (eSb X t o) g s p ≤ 1800 := by
  have h1 := eSb_le hI ht ho hp
  have h4 := hI.1
  have h5 : g * p ≤ 200 * 4 := Nat.mul_le_mul hg (by omega)
  unfold pN
  omega
set_option maxRecDepth 100000 in
set_option maxHeartbeats 4000000 in
theorem pN_mono (sb : Nat → Nat) (g s : Nat) {p q : Nat} (z : Nat) (hpq : p < q) (h : sb p + z ≤ sb q) : pN sb g s p + z ≤ pN sb g s q := by
  unfold pN
  have h5 : g * p ≤ g * q := Nat.mul_le_mul_left _ (by omega)
  omega
/- the allowed ones are the candidates -/
set_option maxRecDepth 100000 in
set_option maxHeartbeats 4000000 in
theorem allow_cand {n nw t g s : Nat} {o : Nat → Nat} {f : Nat → Int32} (hI : inv X n nw) (ht : t < 2) (h2 : 2 ≤ n) (ho : ordR X t n o) (hg : g ≤ 200) (hs : s ≤ 200) (hf : ∀ p, p < n → f (o p) = nI (pN (eSb X t o) g s p)) : allow X t n f ↔ cdE X t n o g s := by
  have h4 := hI.1
  obtain ⟨hl, hl2⟩ := limN_eq ht
  obtain ⟨n1, hn1⟩ : ∃ n1, n = n1 + 1 := ⟨n - 1, by omega⟩
  have hlast := zN_le hI ht ho (show n1 < n by omega)
  have hpl := pE_le hI ht ho hg hs (show n1 ≤ n by omega)
  have hsn : eSb X t o n = eSb X t o n1 + zN X t (o n1) := by subst hn1; rfl
  have hsn2 := eSb_le hI ht ho (Nat.le_refl n)
  have hgn : g * (n - 1) = g * n1 := by rw [hn1]; rfl
  have hgn2 : g * n1 ≤ 200 * 4 := Nat.mul_le_mul hg (by omega)
  have hF : eF X t n o = nI (limN t) - nI (eSb X t o n) := by
    show zlim t - nI (eSb X t o n) = _
    rw [hl]
  have hon : ∀ p, p < n → (zon (zlim t) (f (o p)) (X.2.1 (2 * t + 1) (o p)) ↔ pN (eSb X t o) g s p + zN X t (o p) ≤ limN t) := fun p hp => by
    have z1 := zN_le hI ht ho hp
    have p1 := pE_le hI ht ho hg hs (show p ≤ n by omega)
    unfold zon
    rw [hf p hp, z1.1, hl]
    rcases Nat.lt_or_ge (limN t) (zN X t (o p)) with h5 | h5
    · have h6 := nI_subneg h5 (by omega)
      constructor
      · rintro ⟨_, h7⟩
        exact absurd (Int32.lt_of_lt_of_le h6 (nI_pos' (by omega))) h7
      · intro h7; omega
    · rw [nI_sub h5, nI_ltI (by omega) (by omega)]
      exact ⟨fun h7 => by have := h7.2; omega, fun h7 => ⟨nI_pos (by omega), by omega⟩⟩
  constructor
  · intro ha
    have h5 := (hon n1 (by omega)).mp (ha (o n1) (ho.1 n1 (by omega))).1.1
    have h6 : pN (eSb X t o) g s n1 = s + eSb X t o n1 + g * n1 := rfl
    have h7 : g ≤ g * n1 := Nat.le_mul_of_pos_right _ (by omega)
    refine ⟨h2, limN t - eSb X t o n, by rw [hF, nI_sub (by omega)], by omega, by omega, by omega, fun p hp hlk => ?_⟩
    have h8 := (ha (o p) (ho.1 p hp)).1.2.resolve_left hlk
    have z1 := zN_le hI ht ho hp
    have p1 := pE_le hI ht ho hg hs (show p ≤ n by omega)
    rw [hf p hp, z1.2.2.2.1, nI_eq (by omega) (by omega)] at h8
    exact h8
  · rintro ⟨_, Fn, e1, e2, e3, e4, e5⟩
    have hle : eSb X t o n ≤ limN t := by
      rcases Nat.lt_or_ge (limN t) (eSb X t o n) with h5 | h5
      · rw [hF] at e1
        have h6 := nI_subneg h5 (by omega)
        rw [e1] at h6
        exact absurd h6 (nI_pos (by omega))
      · exact h5
    have hFn : Fn = limN t - eSb X t o n := by
      rw [hF, nI_sub hle, nI_eq (by omega) (by omega)] at e1
      exact e1.symm
    obtain ⟨ps, q1, q2⟩ := ord_pos ho
    have hap : ∀ p q, p < q → q < n → pN (eSb X t o) g s p + zN X t (o p) ≤ pN (eSb X t o) g s q := fun p q hpq hq =>
      pN_mono (eSb X t o) g s (zN X t (o p)) hpq (Nat.le_trans (show eSb X t o p + zN X t (o p) ≤ eSb X t o (p + 1) from Nat.le_refl _) (sbf_mono (show p + 1 ≤ q by omega)))
    intro k hk
    obtain ⟨g1, g2⟩ := q1 k hk
    have hkk : aOne X t f k := by
      rw [← g2]
      refine ⟨(hon _ g1).mpr ?_, ?_⟩
      · have h6 : pN (eSb X t o) g s n1 = s + eSb X t o n1 + g * n1 := rfl
        rcases Nat.lt_or_ge (ps k) n1 with h7 | h7
        · have h8 := hap (ps k) n1 h7 (by omega)
          omega
        · rw [show ps k = n1 by omega]
          omega
      · by_cases hlk : X.2.1 4 (o (ps k)) = 0
        · exact Or.inl hlk
        · refine Or.inr ?_
          rw [hf _ g1, e5 _ g1 hlk]
          exact (zN_le hI ht ho g1).2.2.2.1.symm
    refine ⟨hkk, fun j hj hp => ?_⟩
    obtain ⟨g3, g4⟩ := q1 j (by omega)
    have hm := hp.1
    have z1 := zN_le hI ht ho g1
    have z2 := zN_le hI ht ho g3
    have p1 := pE_le hI ht ho hg hs (show ps k ≤ n by omega)
    have p2 := pE_le hI ht ho hg hs (show ps j ≤ n by omega)
    have f1 := hf _ g1
    have f2 := hf _ g3
    rw [g2] at z1 f1
    rw [g4] at z2 f2
    rw [f1, f2, z1.1, z2.1, zm_iff (by omega) (by omega) (by omega) (by omega)] at hm
    rcases Nat.lt_trichotomy (ps k) (ps j) with h5 | h5 | h5
    · have h6 := hap _ _ h5 g3
      rw [g2] at h6; omega
    · rw [h5, g4] at g2; omega
    · have h6 := hap _ _ h5 g1
      rw [g4] at h6; omega
set_option maxRecDepth 100000 in
set_option maxHeartbeats 4000000 in
theorem cN_nsum (st sb : Nat → Nat) (g s : Nat) : ∀ (m p : Nat), cN st sb g s p m = nsum (fun _ => True) (fun p => dN (pN sb g s p) (st p)) p m
  | 0, _ => rfl
  | m + 1, p => by rw [cN, nsum, if_pos trivial, cN_nsum st sb g s m (p + 1)]
set_option maxRecDepth 100000 in
set_option maxHeartbeats 4000000 in
theorem cst_E {n nw t g s : Nat} {o : Nat → Nat} {f : Nat → Int32} (hI : inv X n nw) (ht : t < 2) (ho : ordR X t n o) (hg : g ≤ 200) (hs : s ≤ 200) (hf : ∀ p, p < n → f (o p) = nI (pN (eSb X t o) g s p)) : cst X t n f = nI (coE X t n o g s) := by
  obtain ⟨ps, q1, q2⟩ := ord_pos ho
  have e : ∀ (m i a : Nat), i + m = n → rsum (fun k => iabs (f k - X.2.1 (2 * t) k)) i m (nI a) = nI (a + nsum (fun _ => True) (fun k => dN (pN (eSb X t o) g s (ps k)) (sN X t k)) i m) := fun m => by
    induction m with
    | zero => intro i a _; rfl
    | succ m ih =>
      intro i a hi
      obtain ⟨g1, g2⟩ := q1 i (by omega)
      have z1 := zN_le hI ht ho g1
      have p1 := pE_le hI ht ho hg hs (show ps i ≤ n by omega)
      have f1 := hf _ g1
      rw [g2] at z1 f1
      have h3 : iabs (f i - X.2.1 (2 * t) i) = nI (dN (pN (eSb X t o) g s (ps i)) (sN X t i)) := by
        rw [f1, z1.2.2.2.1]
        exact nI_distB (by omega) (by omega)
      rw [rsum, h3, nI_add, ih (i + 1) _ (by omega), nsum, if_pos trivial, Nat.add_assoc]
  have e2 := e n 0 0 (by omega)
  rw [Nat.zero_add] at e2
  refine e2.trans ?_
  congr 1
  have h5 := nsum_pos (g := fun k => dN (pN (eSb X t o) g s (ps k)) (sN X t k)) ho q1 q2 n (Nat.le_refl n)
  rw [nsum_congr (p := fun _ => True) (p2 := fun k => ps k < n) n 0 (fun q _ hq => ⟨fun _ => trivial, fun _ => (q1 q (by omega)).1⟩)] at h5
  show nsum (fun _ => True) _ 0 n = cN (eSt X t o) (eSb X t o) g s 0 n
  rw [h5, cN_nsum]
  exact nsum_congr2 n 0 fun p _ hp => ⟨Iff.rfl, by show dN (pN (eSb X t o) g s (ps (o p))) (sN X t (o p)) = _; rw [q2 p (by omega)]⟩
set_option maxRecDepth 100000 in
set_option maxHeartbeats 4000000 in
theorem coE_le {n nw t g s : Nat} {o : Nat → Nat} (hI : inv X n nw) (ht : t < 2) (ho : ordR X t n o) (hg : g ≤ 200) (hs : s ≤ 200) : coE X t n o g s ≤ 8000 := by
  have h4 := hI.1
  have h : ∀ (m p : Nat), p + m ≤ n → cN (eSt X t o) (eSb X t o) g s p m ≤ 2000 * m := fun m => by
    induction m with
    | zero => intro p _; exact Nat.le_refl _
    | succ m ih =>
      intro p hp
      have h1 := ih (p + 1) (by omega)
      have h2 := pE_le hI ht ho hg hs (show p ≤ n by omega)
      have h3 := (zN_le hI ht ho (show p < n by omega)).2.2.2.2
      have h5 : eSt X t o p ≤ 200 := h3
      unfold cN dN
      omega
  have h6 := h n 0 (by omega)
  show cN (eSt X t o) (eSb X t o) g s 0 n ≤ 8000
  omega
set_option maxRecDepth 100000 in
set_option maxHeartbeats 4000000 in
theorem cd_le {n nw t g s : Nat} {o : Nat → Nat} (hI : inv X n nw) (ht : t < 2) (ho : ordR X t n o) (h : cdE X t n o g s) : g ≤ limN t ∧ s ≤ limN t := by
  obtain ⟨_, Fn, e1, e2, e3, e4, _⟩ := h
  obtain ⟨hl, hl2⟩ := limN_eq ht
  have hs := eSb_le hI ht ho (Nat.le_refl n)
  have e5 : nI (limN t) - nI (eSb X t o n) = nI Fn := by rw [← hl]; exact e1
  have h6 : Fn ≤ limN t := by
    rcases Nat.lt_or_ge (limN t) (eSb X t o n) with h7 | h7
    · have h8 := nI_subneg h7 (by omega)
      rw [e5] at h8
      exact absurd h8 (nI_pos (by omega))
    · rw [nI_sub h7, nI_eq (by omega) (by omega)] at e5
      omega
  omega
set_option maxRecDepth 100000 in
set_option maxHeartbeats 4000000 in
abbrev shp (X : zX) (k : Nat) : Prop := isN (X.2.1 0 k) 200 ∧ isN (X.2.1 1 k) 200 ∧ isN (X.2.1 2 k) 120 ∧ isN (X.2.1 3 k) 120 ∧ 2 ≤ num (X.2.1 1 k) ∧ 1 ≤ num (X.2.1 3 k) ∧ num (X.2.1 0 k) + num (X.2.1 1 k) ≤ 200 ∧ num (X.2.1 2 k) + num (X.2.1 3 k) ≤ 120 ∧ isN (X.2.1 5 k) 400 ∧ (X.2.1 4 k = 0 ∨ X.2.1 4 k = 1)
set_option maxRecDepth 100000 in
set_option maxHeartbeats 4000000 in
abbrev apt (X : zX) (i j : Nat) : Prop := ¬ (zmeet (X.2.1 0 i) (X.2.1 1 i) (X.2.1 0 j) (X.2.1 1 j) ∧ zmeet (X.2.1 2 i) (X.2.1 3 i) (X.2.1 2 j) (X.2.1 3 j))
set_option maxRecDepth 100000 in
set_option maxHeartbeats 4000000 in
theorem zmeet_comm {a az b bz : Int32} : zmeet a az b bz ↔ zmeet b bz a az := ⟨fun h => ⟨h.2, h.1⟩, fun h => ⟨h.2, h.1⟩⟩
set_option maxRecDepth 100000 in
set_option maxHeartbeats 4000000 in
theorem apt_comm {i j : Nat} (h : apt X i j) : apt X j i := fun h9 => h ⟨zmeet_comm.mp h9.1, zmeet_comm.mp h9.2⟩
set_option maxRecDepth 100000 in
set_option maxHeartbeats 4000000 in
theorem inv_apt {n nw i j : Nat} (hI : inv X n nw) (hi : i < n) (hj : j < n) (hij : i ≠ j) : apt X i j := by
  rcases Nat.lt_or_ge i j with h | h
  · exact hI.2.2.2.2.2.1 i j h hj
  · exact apt_comm (hI.2.2.2.2.2.1 j i (by omega) hi)
set_option maxRecDepth 100000 in
set_option maxHeartbeats 4000000 in
theorem rfirst_neg {p : Nat → Prop} [DecidablePred p] : ∀ (m i : Nat), i + m < 1000 → rfirst p i m = -1 → ∀ j, i ≤ j → j < i + m → ¬ p j
  | 0, i, _, _, j, h1, h2 => absurd h2 (by omega)
  | m + 1, i, hb, h, j, h1, h2 => by
    unfold rfirst at h
    by_cases hp : p i
    · rw [if_pos hp] at h
      exact absurd h (nI_m1 (by omega))
    · rw [if_neg hp] at h
      by_cases e : j = i
      · rw [e]; exact hp
      · exact rfirst_neg m (i + 1) (by omega) h j (by omega) (by omega)
set_option maxRecDepth 100000 in
set_option maxHeartbeats 4000000 in
theorem zon_N {L z : Nat} {s : Int32} (hL : L ≤ 2000) (hz : z ≤ 3000) (h : zon (nI L) s (nI z)) : isN s L ∧ num s + z ≤ L := by
  obtain ⟨h0, h1⟩ := h
  have hzL : z ≤ L := by
    rcases Nat.lt_or_ge L z with h2 | h2
    · have h3 : nI L - nI z < 0 := by
        rw [Int32.lt_iff_toInt_lt, pk_sub_toInt (by omega) (by omega)]
        show (L : Int) - z < 0
        omega
      exact absurd (Int32.lt_of_lt_of_le h3 (Int32.not_lt.mp h0)) h1
    · exact h2
  rw [nI_sub hzL] at h1
  have h2 := isN_of (b := L - z) (by omega) h0 h1
  exact ⟨⟨h2.1, by have := h2.2; omega⟩, by have := h2.2; omega⟩
/- one shape stands anew -/
set_option maxRecDepth 100000 in
set_option maxHeartbeats 4000000 in
theorem inv_one {n nw k : Nat} {X2 : zX} (hI : inv X n nw) (hk : k < n) (h1 : ∀ r, r ≤ 10 → X2.1 r = X.1 r) (h2 : ∀ r, 6 ≤ r → r ≤ 10 → X2.2.1 r = X.2.1 r) (h3 : ∀ r j, r < 6 → j ≠ k → X2.2.1 r j = X.2.1 r j) (hs : shp X2 k) (ha : ∀ j, j < n → j ≠ k → apt X2 j k) : inv X2 n nw := by
  obtain ⟨i1, i2, i3, i4, i5, i6, i7⟩ := hI
  refine ⟨i1, i2, fun r hr => (h1 r (by omega)).trans (i3 r hr), fun r ha hb => (h1 r hb).trans (i4 r ha hb), fun j hj => ?_, fun i j hij hj => ?_, fun w hw => ?_⟩
  · by_cases e : j = k
    · rw [e]; exact hs
    · rw [h3 0 j (by decide) e, h3 1 j (by decide) e, h3 2 j (by decide) e, h3 3 j (by decide) e, h3 4 j (by decide) e, h3 5 j (by decide) e]
      exact i5 j hj
  · show apt X2 i j
    by_cases e : j = k
    · rw [e]; exact ha i (by omega) (by omega)
    · by_cases e2 : i = k
      · rw [e2]; exact apt_comm (ha j hj e)
      · unfold apt
        rw [h3 0 j (by decide) e, h3 1 j (by decide) e, h3 2 j (by decide) e, h3 3 j (by decide) e, h3 0 i (by decide) e2, h3 1 i (by decide) e2, h3 2 i (by decide) e2, h3 3 i (by decide) e2]
        exact i6 i j hij hj
  · rw [h2 6 (by decide) (by decide), h2 7 (by decide) (by decide), h2 8 (by decide) (by decide), h2 9 (by decide) (by decide), h2 10 (by decide) (by decide)]
    exact i7 w hw
set_option maxRecDepth 100000 in
set_option maxHeartbeats 4000000 in
theorem inv_lock {n nw k : Nat} {p : Prop} [Decidable p] (hI : inv X n nw) (hk : k < n) : inv (xrow X 4 (upd (X.2.1 4) k (zb p)) (X.1 4)) n nw := by
  have h := hI.2.2.2.2.1 k hk
  refine inv_one hI hk (fun r _ => ?_) (fun r ha hb => xrow_fn X (by omega) _ _) (fun r j _ hj => ?_) ?_ (fun j hj hne => (show apt X j k from inv_apt hI hj hk hne))
  · by_cases e : r = 4
    · rw [e]; exact xrow_l X 4 _ _
    · exact xrow_ln X e _ _
  · by_cases e : r = 4
    · rw [e, xrow_f, pk_un hj]
    · rw [xrow_fn X e]
  · refine ⟨h.1, h.2.1, h.2.2.1, h.2.2.2.1, h.2.2.2.2.1, h.2.2.2.2.2.1, h.2.2.2.2.2.2.1, h.2.2.2.2.2.2.2.1, h.2.2.2.2.2.2.2.2.1, ?_⟩
    show upd (X.2.1 4) k (zb p) k = 0 ∨ upd (X.2.1 4) k (zb p) k = 1
    rw [pk_us]; unfold zb; split
    · exact Or.inr rfl
    · exact Or.inl rfl
set_option maxRecDepth 100000 in
set_option maxHeartbeats 4000000 in
theorem over_apt {n k : Nat} {l t w h : Int32} (h4 : n ≤ 4) (hr : rfirst (pover X (nI k) l t w h) 0 n = -1) : ∀ j, j < n → j ≠ k → k < 4 → ¬ (zmeet (X.2.1 0 j) (X.2.1 1 j) l w ∧ zmeet (X.2.1 2 j) (X.2.1 3 j) t h) := fun j hj hne hk h9 =>
  rfirst_neg n 0 (by omega) hr j (by omega) (by omega) ⟨fun e => hne ((nI_eq (by omega) (by omega)).mp e), h9⟩
set_option maxRecDepth 100000 in
set_option maxHeartbeats 4000000 in
theorem inv_move {n nw k : Nat} {l t : Int32} {e : Int64} (hI : inv X n nw) (hk : k < n) (hx : zon 200 l (X.2.1 1 k)) (hy : zon 120 t (X.2.1 3 k)) (hr : rfirst (pover X (nI k) l t (X.2.1 1 k) (X.2.1 3 k)) 0 n = -1) : inv (xmv (xrow (xrow X 0 (upd (X.2.1 0) k l) (X.1 0)) 2 (upd (X.2.1 2) k t) (X.1 2)) e) n nw := by
  have h := hI.2.2.2.2.1 k hk
  have h4 := hI.1
  have hw := h.2.1
  have hh := h.2.2.2.1
  have ex : isN l 200 ∧ num l + num (X.2.1 1 k) ≤ 200 := zon_N (L := 200) (z := num (X.2.1 1 k)) (by decide) (by have := hw.2; omega) (by rw [← hw.1]; exact hx)
  have ey : isN t 120 ∧ num t + num (X.2.1 3 k) ≤ 120 := zon_N (L := 120) (z := num (X.2.1 3 k)) (by decide) (by have := hh.2; omega) (by rw [← hh.1]; exact hy)
  have f0 : (xmv (xrow (xrow X 0 (upd (X.2.1 0) k l) (X.1 0)) 2 (upd (X.2.1 2) k t) (X.1 2)) e).2.1 0 k = l := pk_us
  have f2 : (xmv (xrow (xrow X 0 (upd (X.2.1 0) k l) (X.1 0)) 2 (upd (X.2.1 2) k t) (X.1 2)) e).2.1 2 k = t := pk_us
  refine inv_one hI hk (fun r hr => ?_) (fun r ha hb => ?_) (fun r j hr hj => ?_) ?_ (fun j hj hne => ?_)
  · show va_up (va_up X.1 0 (X.1 0)) 2 (X.1 2) r = X.1 r
    unfold va_up
    by_cases e1 : r = 2
    · rw [if_pos e1, e1]
    · rw [if_neg e1]
      by_cases e2 : r = 0
      · rw [if_pos e2, e2]
      · rw [if_neg e2]
  · show va_up (va_up X.2.1 0 _) 2 _ r = X.2.1 r
    unfold va_up
    rw [if_neg (by omega), if_neg (by omega)]
  · show va_up (va_up X.2.1 0 _) 2 _ r j = X.2.1 r j
    unfold va_up
    by_cases e1 : r = 2
    · rw [if_pos e1, e1, pk_un hj]
    · rw [if_neg e1]
      by_cases e2 : r = 0
      · rw [if_pos e2, e2, pk_un hj]
      · rw [if_neg e2]
  · unfold shp
    rw [f0, f2]
    exact ⟨ex.1, h.2.1, ey.1, h.2.2.2.1, h.2.2.2.2.1, h.2.2.2.2.2.1, ex.2, ey.2, h.2.2.2.2.2.2.2.2⟩
  · unfold apt
    rw [f0, f2]
    have h5 := over_apt h4 hr j hj hne (by omega)
    have g0 : (xmv (xrow (xrow X 0 (upd (X.2.1 0) k l) (X.1 0)) 2 (upd (X.2.1 2) k t) (X.1 2)) e).2.1 0 j = X.2.1 0 j := pk_un hne
    have g2 : (xmv (xrow (xrow X 0 (upd (X.2.1 0) k l) (X.1 0)) 2 (upd (X.2.1 2) k t) (X.1 2)) e).2.1 2 j = X.2.1 2 j := pk_un hne
    rw [g0, g2]
    exact h5
set_option maxRecDepth 100000 in
set_option maxHeartbeats 4000000 in
theorem inv_add {n nw : Nat} {l t w h : Int32} (hI : inv X n nw) (hn : n < 4) (hw : ¬ w < 2 ∧ ¬ 200 < w) (hh : ¬ h < 1 ∧ ¬ 120 < h) (hx : zon 200 l w) (hy : zon 120 t h) (hr : rfirst (pover X (-1) l t w h) 0 n = -1) : inv (xadd X n l t w h) (n + 1) nw := by
  obtain ⟨i1, i2, i3, i4, i5, i6, i7⟩ := hI
  have w1 : isN w 200 := isN_of (by decide) (fun h9 => hw.1 (Int32.lt_trans h9 (by decide))) hw.2
  have h1 : isN h 120 := isN_of (by decide) (fun h9 => hh.1 (Int32.lt_trans h9 (by decide))) hh.2
  have w2 : 2 ≤ num w := by
    have h9 := hw.1
    rw [w1.1, show (2 : Int32) = nI 2 from rfl, nI_ltI (by have := w1.2; omega) (by decide)] at h9
    omega
  have h2 : 1 ≤ num h := by
    have h9 := hh.1
    rw [h1.1, show (1 : Int32) = nI 1 from rfl, nI_ltI (by have := h1.2; omega) (by decide)] at h9
    omega
  have ex : isN l 200 ∧ num l + num w ≤ 200 := zon_N (L := 200) (z := num w) (by decide) (by have := w1.2; omega) (by rw [← w1.1]; exact hx)
  have ey : isN t 120 ∧ num t + num h ≤ 120 := zon_N (L := 120) (z := num h) (by decide) (by have := h1.2; omega) (by rw [← h1.1]; exact hy)
  have ho : ∀ j, j < n → ¬ (zmeet (X.2.1 0 j) (X.2.1 1 j) l w ∧ zmeet (X.2.1 2 j) (X.2.1 3 j) t h) := fun j hj h9 =>
    rfirst_neg n 0 (by omega) hr j (by omega) (by omega) ⟨nI_m1 (by omega), h9⟩
  have ln : ∀ r, r < 6 → (xadd X n l t w h).1 r = nI (n + 1) := fun r hr => by
    rcases (show r = 0 ∨ r = 1 ∨ r = 2 ∨ r = 3 ∨ r = 4 ∨ r = 5 by omega) with rfl | rfl | rfl | rfl | rfl | rfl <;> rfl
  have lo : ∀ r, 6 ≤ r → r ≤ 10 → (xadd X n l t w h).1 r = X.1 r ∧ (xadd X n l t w h).2.1 r = X.2.1 r := fun r ha hb => by
    rcases (show r = 6 ∨ r = 7 ∨ r = 8 ∨ r = 9 ∨ r = 10 by omega) with rfl | rfl | rfl | rfl | rfl <;> exact ⟨rfl, rfl⟩
  have old : ∀ j, j ≠ n → (xadd X n l t w h).2.1 0 j = X.2.1 0 j ∧ (xadd X n l t w h).2.1 1 j = X.2.1 1 j ∧ (xadd X n l t w h).2.1 2 j = X.2.1 2 j ∧ (xadd X n l t w h).2.1 3 j = X.2.1 3 j ∧ (xadd X n l t w h).2.1 4 j = X.2.1 4 j ∧ (xadd X n l t w h).2.1 5 j = X.2.1 5 j := fun j hj => ⟨pk_un hj, pk_un hj, pk_un hj, pk_un hj, pk_un hj, pk_un hj⟩
  have new : (xadd X n l t w h).2.1 0 n = l ∧ (xadd X n l t w h).2.1 1 n = w ∧ (xadd X n l t w h).2.1 2 n = t ∧ (xadd X n l t w h).2.1 3 n = h ∧ (xadd X n l t w h).2.1 4 n = 0 ∧ (xadd X n l t w h).2.1 5 n = 0 := ⟨pk_us, pk_us, pk_us, pk_us, pk_us, pk_us⟩
  refine ⟨by omega, i2, ln, fun r ha hb => (lo r ha hb).1.trans (i4 r ha hb), fun j hj => ?_, fun i j hij hj => ?_, fun q hq => ?_⟩
  · show shp (xadd X n l t w h) j
    unfold shp
    by_cases e : j = n
    · rw [e, new.1, new.2.1, new.2.2.1, new.2.2.2.1, new.2.2.2.2.1, new.2.2.2.2.2]
      exact ⟨ex.1, w1, ey.1, h1, w2, h2, ex.2, ey.2, isN_nI (a := 0) (by decide) (by decide), Or.inl rfl⟩
    · have o := old j e
      rw [o.1, o.2.1, o.2.2.1, o.2.2.2.1, o.2.2.2.2.1, o.2.2.2.2.2]
      exact i5 j (by omega)
  · show apt (xadd X n l t w h) i j
    unfold apt
    have o := old i (by omega)
    rw [o.1, o.2.1, o.2.2.1, o.2.2.2.1]
    by_cases e : j = n
    · rw [e, new.1, new.2.1, new.2.2.1, new.2.2.2.1]
      exact ho i (by omega)
    · have o2 := old j e
      rw [o2.1, o2.2.1, o2.2.2.1, o2.2.2.2.1]
      exact i6 i j hij (by omega)
  · rw [(lo 6 (by decide) (by decide)).2, (lo 7 (by decide) (by decide)).2, (lo 8 (by decide) (by decide)).2, (lo 9 (by decide) (by decide)).2, (lo 10 (by decide) (by decide)).2]
    have h9 := i7 q hq
    exact ⟨h9.1, h9.2.1, by omega, by omega, h9.2.2.2.2⟩
set_option maxRecDepth 100000 in
set_option maxHeartbeats 4000000 in
theorem inv_wish {n nw a b : Nat} {kd f : Int32} (hI : inv X n nw) (hn : nw < 8) (ha : a < n) (hb : b < n) (hab : a ≠ b) (hk : zkx kd ∨ zky kd) (hf : ¬ f < 1 ∧ ¬ 9 < f) : inv (xwish X nw kd (nI a) (nI b) f) n (nw + 1) := by
  obtain ⟨i1, i2, i3, i4, i5, i6, i7⟩ := hI
  have f1 : isN f 9 := isN_of (by decide) (fun h9 => hf.1 (Int32.lt_trans h9 (by decide))) hf.2
  have f2 : 1 ≤ num f := by
    have h9 := hf.1
    rw [f1.1, show (1 : Int32) = nI 1 from rfl, nI_ltI (by have := f1.2; omega) (by decide)] at h9
    omega
  have lo : ∀ r, r < 6 → (xwish X nw kd (nI a) (nI b) f).1 r = X.1 r ∧ (xwish X nw kd (nI a) (nI b) f).2.1 r = X.2.1 r := fun r hr => by
    rcases (show r = 0 ∨ r = 1 ∨ r = 2 ∨ r = 3 ∨ r = 4 ∨ r = 5 by omega) with rfl | rfl | rfl | rfl | rfl | rfl <;> exact ⟨rfl, rfl⟩
  refine ⟨i1, by omega, fun r hr => (lo r hr).1.trans (i3 r hr), fun r h1 h2 => ?_, fun j hj => ?_, fun i j hij hj => ?_, fun w hw => ?_⟩
  · rcases (show r = 6 ∨ r = 7 ∨ r = 8 ∨ r = 9 ∨ r = 10 by omega) with rfl | rfl | rfl | rfl | rfl <;> rfl
  · rw [(lo 0 (by decide)).2, (lo 1 (by decide)).2, (lo 2 (by decide)).2, (lo 3 (by decide)).2, (lo 4 (by decide)).2, (lo 5 (by decide)).2]
    exact i5 j hj
  · rw [(lo 0 (by decide)).2, (lo 1 (by decide)).2, (lo 2 (by decide)).2, (lo 3 (by decide)).2]
    exact i6 i j hij hj
  · show isN (upd (X.2.1 7) nw (nI a) w) 3 ∧ isN (upd (X.2.1 8) nw (nI b) w) 3 ∧ num (upd (X.2.1 7) nw (nI a) w) < n ∧ num (upd (X.2.1 8) nw (nI b) w) < n ∧ num (upd (X.2.1 7) nw (nI a) w) ≠ num (upd (X.2.1 8) nw (nI b) w) ∧ isN (upd (X.2.1 9) nw f w) 9 ∧ 1 ≤ num (upd (X.2.1 9) nw f w) ∧ (zkx (upd (X.2.1 6) nw kd w) ∨ zky (upd (X.2.1 6) nw kd w)) ∧ (upd (X.2.1 10) nw 0 w = 0 ∨ upd (X.2.1 10) nw 0 w = 1)
    by_cases e : w = nw
    · subst e
      rw [pk_us, pk_us, pk_us, pk_us, pk_us, num_nI (by omega), num_nI (by omega)]
      exact ⟨isN_nI (by omega) (by decide), isN_nI (by omega) (by decide), ha, hb, hab, f1, f2, hk, Or.inl rfl⟩
    · rw [pk_un e, pk_un e, pk_un e, pk_un e, pk_un e]
      exact i7 w (by omega)
/- all shapes stand anew along one axis, allowed -/
set_option maxRecDepth 100000 in
set_option maxHeartbeats 4000000 in
theorem inv_mv {n nw t c : Nat} {D : Nat → Nat} {X3 : zX} (hI : inv X n nw) (ht : t < 2) (hm : mvR X t n D c X3) (ha : allow X t n (fun j => nI (D j))) (hD : ∀ j, j < n → D j ≤ 2000) : inv X3 n nw := by
  obtain ⟨m1, m2, m3, m4⟩ := hm
  obtain ⟨i1, i2, i3, i4, i5, i6, i7⟩ := hI
  have ln : ∀ r, r ≤ 10 → X3.1 r = X.1 r := fun r hr => by
    by_cases e : r = 2 * t
    · rw [e]; exact m2
    · exact (m1 r hr e).1
  refine ⟨i1, i2, fun r hr => (ln r (by omega)).trans (i3 r hr), fun r h1 h2 => (ln r h2).trans (i4 r h1 h2), fun k hk => ?_, fun i j hij hj => ?_, fun w hw => ?_⟩
  · have h := i5 k hk
    have h5 := (ha k hk).1.1
    have d := hD k hk
    rcases (show t = 0 ∨ t = 1 by omega) with rfl | rfl
    · have e : isN (nI (D k)) 200 ∧ num (nI (D k)) + num (X.2.1 1 k) ≤ 200 := zon_N (L := 200) (z := num (X.2.1 1 k)) (by decide) (by have := h.2.1.2; omega) (by rw [← h.2.1.1]; exact h5)
      show shp X3 k
      unfold shp
      rw [(m1 1 (by decide) (by decide)).2, (m1 2 (by decide) (by decide)).2, (m1 3 (by decide) (by decide)).2, (m1 4 (by decide) (by decide)).2, (m1 5 (by decide) (by decide)).2, show X3.2.1 0 k = nI (D k) from m3 k hk]
      exact ⟨e.1, h.2.1, h.2.2.1, h.2.2.2.1, h.2.2.2.2.1, h.2.2.2.2.2.1, e.2, h.2.2.2.2.2.2.2⟩
    · have e : isN (nI (D k)) 120 ∧ num (nI (D k)) + num (X.2.1 3 k) ≤ 120 := zon_N (L := 120) (z := num (X.2.1 3 k)) (by decide) (by have := h.2.2.2.1.2; omega) (by rw [← h.2.2.2.1.1]; exact h5)
      show shp X3 k
      unfold shp
      rw [(m1 0 (by decide) (by decide)).2, (m1 1 (by decide) (by decide)).2, (m1 3 (by decide) (by decide)).2, (m1 4 (by decide) (by decide)).2, (m1 5 (by decide) (by decide)).2, show X3.2.1 2 k = nI (D k) from m3 k hk]
      exact ⟨h.1, h.2.1, e.1, h.2.2.2.1, h.2.2.2.2.1, h.2.2.2.2.2.1, h.2.2.2.2.2.2.1, e.2, h.2.2.2.2.2.2.2.2⟩
  · have h5 := (ha j hj).2 i hij
    show apt X3 i j
    unfold apt
    rcases (show t = 0 ∨ t = 1 by omega) with rfl | rfl
    · rw [(m1 1 (by decide) (by decide)).2, (m1 2 (by decide) (by decide)).2, (m1 3 (by decide) (by decide)).2, show X3.2.1 0 i = nI (D i) from m3 i (by omega), show X3.2.1 0 j = nI (D j) from m3 j hj]
      exact h5
    · rw [(m1 1 (by decide) (by decide)).2, (m1 0 (by decide) (by decide)).2, (m1 3 (by decide) (by decide)).2, show X3.2.1 2 i = nI (D i) from m3 i (by omega), show X3.2.1 2 j = nI (D j) from m3 j hj]
      exact fun h9 => h5 ⟨h9.2, h9.1⟩
  · rw [(m1 6 (by decide) (by omega)).2, (m1 7 (by decide) (by omega)).2, (m1 8 (by decide) (by omega)).2, (m1 9 (by decide) (by omega)).2, (m1 10 (by decide) (by omega)).2]
    exact i7 w hw
set_option maxRecDepth 100000 in
set_option maxHeartbeats 4000000 in
theorem rng (s : Int32) {n : Nat} (h : n < 2 ^ 31) : (s < 0 ∨ nI n ≤ s) ∨ ∃ k, k < n ∧ s = nI k := by
  rcases pk_ix s h with h1 | h1 | h1
  · exact Or.inl (Or.inl h1)
  · exact Or.inl (Or.inr h1)
  · exact Or.inr h1
set_option maxRecDepth 100000 in
set_option maxHeartbeats 4000000 in
theorem inv_n {n nw : Nat} (hI : inv X n nw) : X.1 0 = nI n := hI.2.2.1 0 (by decide)
set_option maxRecDepth 100000 in
set_option maxHeartbeats 4000000 in
theorem inv_w {n nw : Nat} (hI : inv X n nw) : X.1 6 = nI nw := hI.2.2.2.1 6 (by decide) (by decide)
set_option maxRecDepth 100000 in
set_option maxHeartbeats 4000000 in
theorem inv_half {n nw k : Nat} (hI : inv X n nw) (hk : k < n) : 1 ≤ X.2.1 1 k / 2 := by
  have h := hI.2.2.2.2.1 k hk
  have h2 := h.2.1.2
  rw [h.2.1.1, show (2 : Int32) = nI 2 from rfl, pk_div (by omega) (by decide) (by decide), show (1 : Int32) = nI 1 from rfl, nI_leI (by decide) (by omega)]
  have := h.2.2.2.2.1
  omega
set_option maxRecDepth 100000 in
set_option maxHeartbeats 4000000 in
theorem add_cond {w h : Int32} : (w < 2 ∨ 200 < w ∨ h < 1 ∨ ¬ h ≤ 120) ↔ ¬ ((¬ w < 2 ∧ ¬ 200 < w) ∧ (¬ h < 1 ∧ ¬ 120 < h)) := by
  rw [Int32.not_le]
  by_cases a : w < 2 <;> by_cases b : 200 < w <;> by_cases c : h < 1 <;> by_cases d : 120 < h <;> simp [a, b, c, d]
set_option maxRecDepth 100000 in
set_option maxHeartbeats 4000000 in
theorem inv_x {n nw : Nat} (hI : inv X n nw) : xlen X n := ⟨hI.2.2.1 0 (by decide), hI.2.2.1 1 (by decide), hI.2.2.1 2 (by decide), hI.2.2.1 3 (by decide), hI.2.2.1 4 (by decide), hI.2.2.1 5 (by decide)⟩
set_option maxRecDepth 100000 in
set_option maxHeartbeats 4000000 in
theorem mvh_ok {n k : Nat} {l t : Int32} (h1 : ¬ mvh X n k l t = 108) (h2 : ¬ mvh X n k l t = 115) (h3 : ¬ mvh X n k l t = 111) : zon 200 l (X.2.1 1 k) ∧ zon 120 t (X.2.1 3 k) ∧ rfirst (pover X (nI k) l t (X.2.1 1 k) (X.2.1 3 k)) 0 n = -1 := by
  unfold mvh at h1 h2 h3
  by_cases c1 : ¬ X.2.1 4 k = 0
  · rw [if_pos c1] at h1; exact absurd rfl h1
  · rw [if_neg c1] at h2 h3
    by_cases c2 : zon 200 l (X.2.1 1 k) ∧ zon 120 t (X.2.1 3 k)
    · rw [if_neg (fun h9 => h9 c2)] at h3
      by_cases c3 : rfirst (pover X (nI k) l t (X.2.1 1 k) (X.2.1 3 k)) 0 n = -1
      · exact ⟨c2.1, c2.2, c3⟩
      · rw [if_neg c3] at h3; exact absurd rfl h3
    · rw [if_pos c2] at h2; exact absurd rfl h2
set_option maxRecDepth 100000 in
set_option maxHeartbeats 4000000 in
theorem ex_min {α : Type} {P : α → Prop} (f : α → Nat) : ∀ m a, f a = m → P a → ∃ b, P b ∧ ∀ c, P c → f b ≤ f c := fun m => by
  induction m using Nat.strongRecOn with
  | _ m ih =>
    intro a ha hp
    by_cases h : ∃ c, P c ∧ f c < f a
    · obtain ⟨c, h1, h2⟩ := h
      exact ih (f c) (by omega) c rfl h1
    · exact ⟨a, hp, fun c hc => by
        rcases Nat.lt_or_ge (f c) (f a) with h2 | h2
        · exact absurd ⟨c, hc, h2⟩ h
        · exact h2⟩
set_option maxRecDepth 100000 in
set_option maxHeartbeats 4000000 in
theorem ex_lex {S : (Nat → Nat) → Prop} (h : ∃ D, S D) : ∀ n, ∃ D, S D ∧ ∀ D2, S D2 → lexle n D D2
  | 0 => by
    obtain ⟨D, hD⟩ := h
    exact ⟨D, hD, fun D2 _ => Or.inl fun j hj => absurd hj (by omega)⟩
  | n + 1 => by
    obtain ⟨D, hD, h1⟩ := ex_lex h n
    obtain ⟨D2, ⟨h2, h3⟩, h4⟩ := ex_min (P := fun D2 => S D2 ∧ ∀ j, j < n → D2 j = D j) (fun D2 => D2 n) _ D rfl ⟨hD, fun _ _ => rfl⟩
    refine ⟨D2, h2, fun D3 hD3 => ?_⟩
    rcases h1 D3 hD3 with h5 | ⟨j, h5, h6, h7⟩
    · have h8 := h4 D3 ⟨hD3, fun j hj => (h5 j hj).symm⟩
      rcases Nat.lt_or_ge (D2 n) (D3 n) with h9 | h9
      · exact Or.inr ⟨n, by omega, fun i hi => (h3 i hi).trans (h5 i hi), h9⟩
      · refine Or.inl fun j hj => ?_
        by_cases e : j = n
        · rw [e]; omega
        · exact (h3 j (by omega)).trans (h5 j (by omega))
    · exact Or.inr ⟨j, by omega, fun i hi => (h3 i (by omega)).trans (h6 i hi), by rw [h3 j h5]; exact h7⟩
set_option maxRecDepth 100000 in
set_option maxHeartbeats 4000000 in
theorem res_ex {n M : Nat} {S : (Nat → Nat) → Prop} {v : (Nat → Nat) → Nat × Nat} (hv : ∀ D, S D → (v D).1 ≤ M) (B : bst) : ∃ B2, res n S v B B2 := by
  by_cases h : ∃ D, S D ∧ tid (v D) (B.1, B.2.1)
  · obtain ⟨D0, h0, h1⟩ := h
    obtain ⟨D1, a1, a2⟩ := ex_min (P := S) (fun D => M - (v D).1) _ D0 rfl h0
    obtain ⟨D2, ⟨b1, b2⟩, b3⟩ := ex_min (P := fun D => S D ∧ (v D).1 = (v D1).1) (fun D => (v D).2) _ D1 rfl ⟨a1, rfl⟩
    obtain ⟨D3, ⟨c1, c2⟩, c3⟩ := ex_lex (S := fun D => S D ∧ v D = v D2) ⟨D2, b1, rfl⟩ n
    have hbest : ∀ D, S D → ¬ tid (v D) (v D3) := fun D hD ht => by
      have e1 := a2 D hD
      have e2 := hv D hD
      have e3 := hv D1 a1
      rw [c2] at ht
      unfold tid at ht
      rcases ht with ht | ⟨ht, ht2⟩
      · omega
      · have e4 := b3 D ⟨hD, by omega⟩
        omega
    refine ⟨((v D3).1, (v D3).2, D3), Or.inr ⟨D3, c1, fun _ _ => rfl, rfl, ?_, fun D hD => ⟨hbest D hD, fun e => c3 D ⟨hD, e.trans c2⟩⟩⟩⟩
    have e5 := hbest D0 h0
    unfold tid at *
    omega
  · exact ⟨B, Or.inl ⟨rfl, fun D hD ht => h ⟨D, hD, ht⟩⟩⟩
set_option maxRecDepth 100000 in
set_option maxHeartbeats 4000000 in
theorem ta_td {n nw t g : Nat} (hI : inv X n nw) (ht : t < 2) (h : taR X t n nw g) : ∃ B, tdR X t n nw B ∧ B.1 = g := by
  obtain ⟨T, X1, hT, hS, hg⟩ := h
  obtain ⟨B, hr⟩ := res_ex (n := n) (M := 72) (S := comp T n 0 (Tpv T)) (v := tval T 0 n 0 0) (fun D _ => by
    show 0 + fS T D 0 n ≤ 72
    rw [fS_all hT, Nat.zero_add]; exact fAll_le hT D) (fAll T (Tpv T), 0, Tpv T)
  exact ⟨B, ⟨T, X1, hT, hS, hr⟩, best_all hI ht hT hS hr hg⟩
set_option maxRecDepth 100000 in
set_option maxHeartbeats 4000000 in
theorem td_inv {n nw t : Nat} {B : bst} {X3 : zX} (hI : inv X n nw) (ht : t < 2) (hB : tdR X t n nw B) (hm : mvR X t n B.2.2 B.2.1 X3) : inv X3 n nw := by
  obtain ⟨D, d1, d2, _, _⟩ := td_top hI ht hB
  exact inv_mv hI ht hm (allow_congr (fun j hj => by show nI (D j) = nI (B.2.2 j); rw [(d1 j hj).1]) d2.1.2) (fun j hj => by have := d1 j hj; omega)
set_option maxRecDepth 100000 in
set_option maxHeartbeats 4000000 in
theorem sp_inv {n nw t c g s : Nat} {o : Nat → Nat} {X3 : zX} (hI : inv X n nw) (ht : t < 2) (hv : evR X t n o (some (c, g, s))) (hm : spR X t n o c g s X3) : inv X3 n nw := by
  obtain ⟨D, hD, hm⟩ := hm
  have hc : cdE X t n o g s := hv.2.1
  have hl := cd_le hI ht hv.1 hc
  have hl2 := (limN_eq ht).2
  have hDe : ∀ p, p < n → (fun j => nI (D j)) (o p) = nI (pN (eSb X t o) g s p) := fun p hp => by
    show nI (D (o p)) = _
    rw [hD p hp]
  refine inv_mv hI ht hm ((allow_cand hI ht hc.1 hv.1 (by omega) (by omega) hDe).mpr hc) fun j hj => ?_
  obtain ⟨p, hp, rfl⟩ := hv.1.2.2 j hj
  rw [hD p hp]
  have := pE_le hI ht hv.1 (show g ≤ 200 by omega) (show s ≤ 200 by omega) (show p ≤ n by omega)
  omega
set_option maxRecDepth 100000 in
set_option maxHeartbeats 4000000 in
theorem keep0_33 (X : zX) (f : Nat → Int32) (l : Int32) : keep0 X (xrow X 33 f l) := ⟨fun r hr => ⟨xrow_ln X (by omega) _ _, xrow_fn X (by omega) _ _⟩, rfl⟩
set_option maxRecDepth 100000 in
set_option maxHeartbeats 4000000 in
theorem dist_iff {d : Int32} : (¬ d < 0 ∧ d ≤ 200) ↔ (¬ d < 0 ∧ ¬ 200 < d) := by rw [Int32.not_lt (a := 200)]
end
