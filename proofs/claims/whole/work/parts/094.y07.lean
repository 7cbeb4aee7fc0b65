section
variable {G : zG} {X X1 : zX} {Y : zY} {O : zO}
set_option maxRecDepth 100000 in
set_option maxHeartbeats 4000000 in
def tidyL (X : zX) (t n : Nat) (D : Nat → Int32) : Prop := (∀ k, k < n → isSnap (X.2.1 (2 * t)) (X.2.1 (2 * t + 1)) n k (D k)) ∧ allow X t n D
set_option maxRecDepth 100000 in
set_option maxHeartbeats 4000000 in
abbrev frc (X : zX) (t nw : Nat) (D : Nat → Int32) : Int32 := rsumc (mhit X t D) (X.2.1 9) 0 nw 0
set_option maxRecDepth 100000 in
set_option maxHeartbeats 4000000 in
abbrev cst (X : zX) (t n : Nat) (D : Nat → Int32) : Int32 := rsum (fun k => iabs (D k - X.2.1 (2 * t) k)) 0 n 0
set_option maxRecDepth 100000 in
set_option maxHeartbeats 4000000 in
def lexlt (n : Nat) (D E : Nat → Int32) : Prop := ∃ j, j < n ∧ (∀ i, i < j → D i = E i) ∧ D j < E j
set_option maxRecDepth 100000 in
set_option maxHeartbeats 4000000 in
def btr (X : zX) (t n nw : Nat) (D E : Nat → Int32) : Prop := frc X t nw E < frc X t nw D ∨ frc X t nw D = frc X t nw E ∧ (cst X t n D < cst X t n E ∨ cst X t n D = cst X t n E ∧ lexlt n D E)
set_option maxRecDepth 100000 in
set_option maxHeartbeats 4000000 in
def top (X : zX) (t n nw : Nat) (D : Nat → Int32) : Prop := tidyL X t n D ∧ ∀ E, tidyL X t n E → ¬ btr X t n nw E D
set_option maxRecDepth 100000 in
set_option maxHeartbeats 4000000 in
theorem i_tri (a b : Int32) : a < b ∨ a = b ∨ b < a := by
  rcases Int.lt_trichotomy a.toInt b.toInt with h | h | h
  · exact Or.inl (Int32.lt_iff_toInt_lt.mpr h)
  · exact Or.inr (Or.inl (Int32.toInt_inj.mp h))
  · exact Or.inr (Or.inr (Int32.lt_iff_toInt_lt.mpr h))
set_option maxRecDepth 100000 in
set_option maxHeartbeats 4000000 in
theorem lex_tri (D E : Nat → Int32) : ∀ n, (∀ j, j < n → D j = E j) ∨ lexlt n D E ∨ lexlt n E D
  | 0 => Or.inl fun j hj => absurd hj (by omega)
  | n + 1 => by
    rcases lex_tri D E n with h | ⟨j, h1, h2, h3⟩ | ⟨j, h1, h2, h3⟩
    · rcases i_tri (D n) (E n) with h4 | h4 | h4
      · exact Or.inr (Or.inl ⟨n, by omega, h, h4⟩)
      · refine Or.inl fun j hj => ?_
        by_cases e : j = n
        · rw [e]; exact h4
        · exact h j (by omega)
      · exact Or.inr (Or.inr ⟨n, by omega, fun i hi => (h i hi).symm, h4⟩)
    · exact Or.inr (Or.inl ⟨j, by omega, h2, h3⟩)
    · exact Or.inr (Or.inr ⟨j, by omega, h2, h3⟩)
set_option maxRecDepth 100000 in
set_option maxHeartbeats 4000000 in
theorem top_uniq {t n nw : Nat} {D E : Nat → Int32} (h : top X t n nw D) (h2 : top X t n nw E) : frc X t nw D = frc X t nw E ∧ cst X t n D = cst X t n E ∧ ∀ j, j < n → D j = E j := by
  have h3 := h.2 E h2.1
  have h4 := h2.2 D h.1
  have e1 : frc X t nw D = frc X t nw E := by
    rcases i_tri (frc X t nw D) (frc X t nw E) with h5 | h5 | h5
    · exact absurd (Or.inl h5) h3
    · exact h5
    · exact absurd (Or.inl h5) h4
  have e2 : cst X t n D = cst X t n E := by
    rcases i_tri (cst X t n D) (cst X t n E) with h5 | h5 | h5
    · exact absurd (Or.inr ⟨e1, Or.inl h5⟩) h4
    · exact h5
    · exact absurd (Or.inr ⟨e1.symm, Or.inl h5⟩) h3
  refine ⟨e1, e2, ?_⟩
  rcases lex_tri D E n with h5 | h5 | h5
  · exact h5
  · exact absurd (Or.inr ⟨e1, Or.inr ⟨e2, h5⟩⟩) h4
  · exact absurd (Or.inr ⟨e1.symm, Or.inr ⟨e2.symm, h5⟩⟩) h3
set_option maxRecDepth 100000 in
set_option maxHeartbeats 4000000 in
theorem zm_iff {a az b bz : Nat} (h1 : a ≤ 2000) (h2 : az ≤ 2000) (h3 : b ≤ 2000) (h4 : bz ≤ 2000) : zmeet (nI a) (nI az) (nI b) (nI bz) ↔ b < a + az ∧ a < b + bz := by
  unfold zmeet
  rw [nI_add, nI_add, nI_leI (by omega) (by omega), nI_leI (by omega) (by omega)]
  omega
/- the layouts of a search are the tidy ones -/
set_option maxRecDepth 100000 in
set_option maxHeartbeats 4000000 in
theorem comp_tidy {n nw t : Nat} {T : tsP} {D : Nat → Nat} (hI : inv X n nw) (ht : t < 2) (hT : tsK X1 n T) (hS : tsS X t n nw T) : comp T n 0 (Tpv T) D ↔ tidyL X t n (fun j => nI (D j)) ∧ ∀ j, j < n → D j ≤ 200 := by
  have hz : ∀ j, j < n → X.2.1 (2 * t + 1) j = nI (Tsz T j) ∧ Tsz T j ≤ 200 := fun j hj => by
    have h1 := inv_axis hI ht hj
    have h2 := hS.1 j hj
    rw [h2.2.1]; exact h1.2
  constructor
  · intro h
    have hc : ∀ j, j < n → chN X t n j (D j) := fun j hj => by
      obtain ⟨i, hi, e⟩ := (h.2 j (Nat.zero_le _) hj).1
      exact ((hS.1 j hj).2.2 _).mp ⟨i, hi, e.symm⟩
    refine ⟨⟨fun k hk => (hc k hk).2.1, fun k hk => ⟨⟨(hc k hk).2.2.2, (hc k hk).2.2.1⟩, fun j hj hp => ?_⟩⟩, fun j hj => (hc j hj).1⟩
    obtain ⟨q, hq, e1, e2⟩ := hS.2.1.2 j k hj hk hp.2
    have ho := (h.2 k (Nat.zero_le _) hk).2 q hq e2
    rw [e1, e2] at ho
    have z1 := hz j (by omega)
    have z2 := hz k hk
    have hm := hp.1
    rw [z1.1, z2.1, zm_iff (by have := (hc j (by omega)).1; omega) (by omega) (by have := (hc k hk).1; omega) (by omega)] at hm
    exact ho ⟨hm.2, hm.1⟩
  · rintro ⟨⟨h1, h2⟩, h3⟩
    refine ⟨fun j hj => absurd hj (by omega), fun j _ hj => ⟨?_, fun q hq e hcl => ?_⟩⟩
    · obtain ⟨i, hi, e⟩ := ((hS.1 j hj).2.2 (D j)).mpr ⟨h3 j hj, h1 j hj, (h2 j hj).1.2, (h2 j hj).1.1⟩
      exact ⟨i, hi, e.symm⟩
    · obtain ⟨g1, g2, g3, g4⟩ := hT.2.2.2.1.2.2 q hq
      have z1 := hz (Tbf T q) (by omega)
      have z2 := hz (Tbs T q) g4
      refine (h2 (Tbs T q) g4).2 (Tbf T q) g3 ⟨?_, hS.2.1.1 q hq⟩
      show zmeet (nI (D (Tbf T q))) (X.2.1 (2 * t + 1) (Tbf T q)) (nI (D (Tbs T q))) (X.2.1 (2 * t + 1) (Tbs T q))
      rw [z1.1, z2.1, zm_iff (by have := h3 (Tbf T q) (by omega); omega) (by omega) (by have := h3 (Tbs T q) g4; omega) (by omega)]
      exact ⟨hcl.2, hcl.1⟩
set_option maxRecDepth 100000 in
set_option maxHeartbeats 4000000 in
theorem tidy_N {n nw t : Nat} {E : Nat → Int32} (hI : inv X n nw) (ht : t < 2) (h : tidyL X t n E) : ∀ j, j < n → isN (E j) 200 := fun j hj => chq_N hI ht hj ⟨((h.2 j hj).1).2, ((h.2 j hj).1).1⟩
set_option maxRecDepth 100000 in
set_option maxHeartbeats 4000000 in
theorem allow_congr {n t : Nat} {D E : Nat → Int32} (h : ∀ j, j < n → D j = E j) (ha : allow X t n D) : allow X t n E := fun k hk => by
  have h1 := ha k hk
  refine ⟨?_, fun j hj hp => h1.2 j hj ?_⟩
  · have h2 := h1.1
    unfold aOne at h2 ⊢
    rw [← h k hk]; exact h2
  · unfold aPair at hp ⊢
    rw [h k hk, h j (by omega)]; exact hp
set_option maxRecDepth 100000 in
set_option maxHeartbeats 4000000 in
theorem tidy_congr {n t : Nat} {D E : Nat → Int32} (h : ∀ j, j < n → D j = E j) (ha : tidyL X t n D) : tidyL X t n E :=
  ⟨fun k hk => by rw [← h k hk]; exact ha.1 k hk, allow_congr h ha.2⟩
set_option maxRecDepth 100000 in
set_option maxHeartbeats 4000000 in
theorem frc_congr {n nw t : Nat} {D E : Nat → Int32} (hI : inv X n nw) (h : ∀ j, j < n → D j = E j) : frc X t nw D = frc X t nw E :=
  rsumc_congr _ _ _ fun w _ hw => by
    have hA := inv_A hI (w := w) (by omega)
    unfold mhit
    rw [h _ hA.2.1, h _ hA.2.2.2]
set_option maxRecDepth 100000 in
set_option maxHeartbeats 4000000 in
theorem rsum_congr {f g : Nat → Int32} : ∀ (m i : Nat) (a : Int32), (∀ j, i ≤ j → j < i + m → f j = g j) → rsum f i m a = rsum g i m a
  | 0, _, _, _ => rfl
  | m + 1, i, a, h => by
    rw [rsum, rsum, h i (by omega) (by omega)]
    exact rsum_congr m (i + 1) _ fun j h1 h2 => h j (by omega) (by omega)
set_option maxRecDepth 100000 in
set_option maxHeartbeats 4000000 in
theorem cst_congr {n t : Nat} {D E : Nat → Int32} (h : ∀ j, j < n → D j = E j) : cst X t n D = cst X t n E :=
  rsum_congr _ _ _ fun j _ hj => by
    show iabs (D j - _) = iabs (E j - _)
    rw [h j (by omega)]
set_option maxRecDepth 100000 in
set_option maxHeartbeats 4000000 in
theorem lex_congr {n : Nat} {D D2 E E2 : Nat → Int32} (h : ∀ j, j < n → D j = D2 j) (h2 : ∀ j, j < n → E j = E2 j) (hl : lexlt n D E) : lexlt n D2 E2 := by
  obtain ⟨j, h3, h4, h5⟩ := hl
  refine ⟨j, h3, fun i hi => ?_, ?_⟩
  · rw [← h i (by omega), ← h2 i (by omega)]; exact h4 i hi
  · rw [← h j h3, ← h2 j h3]; exact h5
set_option maxRecDepth 100000 in
set_option maxHeartbeats 4000000 in
theorem btr_congr {n nw t : Nat} {D D2 E E2 : Nat → Int32} (hI : inv X n nw) (h : ∀ j, j < n → D j = D2 j) (h2 : ∀ j, j < n → E j = E2 j) (hb : btr X t n nw D E) : btr X t n nw D2 E2 := by
  unfold btr at hb ⊢
  rw [← frc_congr hI h, ← frc_congr hI h2, ← cst_congr h, ← cst_congr h2]
  exact hb.imp id (fun h3 => ⟨h3.1, h3.2.imp id (fun h4 => ⟨h4.1, lex_congr h h2 h4.2⟩)⟩)
/- cost in numbers -/
set_option maxRecDepth 100000 in
set_option maxHeartbeats 4000000 in
theorem cst_N {n nw t : Nat} {T : tsP} {D : Nat → Nat} (hI : inv X n nw) (ht : t < 2) (hS : tsS X t n nw T) (hD : ∀ j, j < n → D j ≤ 200) : ∀ (m i a : Nat), i + m = n → rsum (fun k => iabs (nI (D k) - X.2.1 (2 * t) k)) i m (nI a) = nI (a + cS T D i m)
  | 0, _, _, _ => rfl
  | m + 1, i, a, hi => by
    have h1 := inv_axis hI ht (show i < n by omega)
    have h2 := hS.1 i (by omega)
    have h3 : iabs (nI (D i) - X.2.1 (2 * t) i) = nI (dN (D i) (Tpv T i)) := by
      rw [h1.1.1, h2.1]
      exact nI_dist (hD i (by omega)) h1.1.2
    rw [rsum, h3, nI_add, cst_N hI ht hS hD m (i + 1) _ (by omega), cS, Nat.add_assoc]
/- a sum over places in another order of counting -/
set_option maxRecDepth 100000 in
set_option maxHeartbeats 4000000 in
theorem nsum_last {p : Nat → Prop} [DecidablePred p] {g : Nat → Nat} : ∀ (m i : Nat), nsum p g i (m + 1) = nsum p g i m + (if p (i + m) then g (i + m) else 0)
  | 0, i => by
    simp only [nsum, Nat.add_zero, Nat.zero_add]
  | m + 1, i => by
    have ih := nsum_last (p := p) (g := g) m (i + 1)
    rw [nsum, ih, nsum, show i + 1 + m = i + (m + 1) by omega]
    omega
set_option maxRecDepth 100000 in
set_option maxHeartbeats 4000000 in
theorem nsum_congr2 {p p2 : Nat → Prop} [DecidablePred p] [DecidablePred p2] {g g2 : Nat → Nat} : ∀ (m i : Nat), (∀ q, i ≤ q → q < i + m → (p2 q ↔ p q) ∧ g2 q = g q) → nsum p2 g2 i m = nsum p g i m
  | 0, _, _ => rfl
  | m + 1, i, h => by
    have h1 := h i (by omega) (by omega)
    have ih := nsum_congr2 m (i + 1) fun q a b => h q (by omega) (by omega)
    rw [nsum, nsum, ih, h1.2]
    by_cases hp : p i
    · rw [if_pos hp, if_pos (h1.1.mpr hp)]
    · rw [if_neg hp, if_neg fun h9 => hp (h1.1.mp h9)]
set_option maxRecDepth 100000 in
set_option maxHeartbeats 4000000 in
theorem nsum_sel {p : Nat → Prop} [DecidablePred p] {g wi : Nat → Nat} : ∀ (nw c : Nat), (∀ q, q < c → wi q < nw) → (∀ q s, q < s → s < c → wi q < wi s) → (∀ w, w < nw → p w → ∃ q, q < c ∧ wi q = w) → nsum p g 0 nw = nsum (fun q => p (wi q)) (fun q => g (wi q)) 0 c
  | 0, 0, _, _, _ => rfl
  | 0, c + 1, h, _, _ => absurd (h c (by omega)) (by omega)
  | nw + 1, c, h, h2, h3 => by
    rw [nsum_last, Nat.zero_add]
    by_cases hc : ∃ q, q < c ∧ wi q = nw
    · obtain ⟨q, hq, e⟩ := hc
      obtain ⟨c2, rfl⟩ : ∃ c2, c = c2 + 1 := ⟨c - 1, by omega⟩
      have hq2 : q = c2 := by
        rcases Nat.lt_or_ge q c2 with h4 | h4
        · have h5 := h2 q c2 h4 (by omega)
          have h6 := h c2 (by omega)
          omega
        · omega
      subst hq2
      have ih := nsum_sel (p := p) (g := g) (wi := wi) nw q (fun s hs => by have h5 := h2 s q hs (by omega); omega) (fun a b hab hb => h2 a b hab (by omega)) (fun w hw hp => by
        obtain ⟨s, hs, e2⟩ := h3 w (by omega) hp
        exact ⟨s, by rcases Nat.lt_or_ge s q with h4 | h4
                     · exact h4
                     · rw [show s = q by omega] at e2; omega, e2⟩)
      rw [nsum_last (p := fun q => p (wi q)), Nat.zero_add, ih, e]
    · have hnp : ¬ p nw := fun hp => hc (h3 nw (by omega) hp)
      rw [if_neg hnp, Nat.add_zero]
      exact nsum_sel nw c (fun q hq => by
        have h5 := h q hq
        rcases Nat.lt_or_ge (wi q) nw with h4 | h4
        · exact h4
        · exact absurd ⟨q, hq, by omega⟩ hc) h2 (fun w hw hp => h3 w (by omega) hp)
set_option maxRecDepth 100000 in
set_option maxHeartbeats 4000000 in
theorem feat_iff {c : Int32} {a za b z2 : Nat} (h1 : a ≤ 2000) (h2 : za ≤ 2000) (h3 : b ≤ 2000) (h4 : z2 ≤ 2000) : feat c (nI a) (nI za) = feat c (nI b) (nI z2) ↔ 2 * a + num (zedge c) * za = 2 * b + num (zedge c) * z2 := by
  unfold feat zedge
  by_cases e1 : c = 108 ∨ c = 116
  · rw [if_pos e1, if_pos e1, if_pos e1, nI_eq (by omega) (by omega), show num 0 = 0 by decide]; omega
  · rw [if_neg e1, if_neg e1, if_neg e1]
    by_cases e2 : c = 99 ∨ c = 109
    · rw [if_pos e2, if_pos e2, if_pos e2, ix1, ix1, nI_add, nI_add, nI_eq (by omega) (by omega), show num 1 = 1 by decide]; omega
    · rw [if_neg e2, if_neg e2, if_neg e2, nI_add, nI_add, nI_eq (by omega) (by omega), show num 2 = 2 by decide]; omega
set_option maxRecDepth 100000 in
set_option maxHeartbeats 4000000 in
theorem akd_sel {c : Int32} {t : Nat} (h : zkx c ∨ zky c) (ht : t < 2) : akd c = nI t ↔ (if zkx c then (120 : Int32) else 121) = zch t := by
  unfold akd
  rcases (show t = 0 ∨ t = 1 by omega) with rfl | rfl
  · by_cases h1 : zkx c
    · rw [if_pos h1, if_pos h1]; exact ⟨fun _ => rfl, fun _ => rfl⟩
    · rw [if_neg h1, if_neg h1, if_pos (h.resolve_left h1)]; exact ⟨fun h9 => absurd h9 (by decide), fun h9 => absurd h9 (by decide)⟩
  · by_cases h1 : zkx c
    · rw [if_pos h1, if_pos h1]; exact ⟨fun h9 => absurd h9 (by decide), fun h9 => absurd h9 (by decide)⟩
    · rw [if_neg h1, if_neg h1, if_pos (h.resolve_left h1)]; exact ⟨fun _ => rfl, fun _ => rfl⟩
set_option maxRecDepth 100000 in
set_option maxHeartbeats 4000000 in
abbrev hitW (X : zX) (t : Nat) (D : Nat → Nat) (w : Nat) : Prop := wsel X t w ∧ 2 * D (wA X w) + num (zedge (X.2.1 6 w)) * num (X.2.1 (2 * t + 1) (wA X w)) = 2 * D (wB X w) + num (zedge (X.2.1 6 w)) * num (X.2.1 (2 * t + 1) (wB X w))
set_option maxRecDepth 100000 in
set_option maxHeartbeats 4000000 in
theorem mhit_W {n nw t w : Nat} {D : Nat → Nat} (hI : inv X n nw) (ht : t < 2) (hw : w < nw) (hD : ∀ j, j < n → D j ≤ 200) : mhit X t (fun j => nI (D j)) w ↔ hitW X t D w := by
  have hA := inv_A hI hw
  have hk := (hI.2.2.2.2.2.2 w hw).2.2.2.2.2.2.2.1
  have a1 := (inv_axis hI ht hA.2.1).2
  have a2 := (inv_axis hI ht hA.2.2.2).2
  have b1 := hD _ hA.2.1
  have b2 := hD _ hA.2.2.2
  have h1 : feat (X.2.1 6 w) (nI (D (wA X w))) (X.2.1 (2 * t + 1) (wA X w)) = feat (X.2.1 6 w) (nI (D (wB X w))) (X.2.1 (2 * t + 1) (wB X w)) ↔ 2 * D (wA X w) + num (zedge (X.2.1 6 w)) * num (X.2.1 (2 * t + 1) (wA X w)) = 2 * D (wB X w) + num (zedge (X.2.1 6 w)) * num (X.2.1 (2 * t + 1) (wB X w)) := by
    have h2 := feat_iff (c := X.2.1 6 w) (a := D (wA X w)) (za := num (X.2.1 (2 * t + 1) (wA X w))) (b := D (wB X w)) (z2 := num (X.2.1 (2 * t + 1) (wB X w))) (by omega) (by have := a1.2; omega) (by omega) (by have := a2.2; omega)
    rw [← a1.1, ← a2.1] at h2
    exact h2
  unfold mhit hitW wsel
  rw [akd_sel hk ht]
  exact ⟨fun h => ⟨⟨h.1, h.2.1⟩, h1.mp h.2.2⟩, fun h => ⟨h.1.1, h.1.2, h1.mpr h.2⟩⟩
/- the strength in numbers -/
set_option maxRecDepth 100000 in
set_option maxHeartbeats 4000000 in
theorem frc_N {n nw t : Nat} {T : tsP} {D : Nat → Nat} (hI : inv X n nw) (ht : t < 2) (hT : tsK X1 n T) (hS : tsS X t n nw T) (hD : ∀ j, j < n → D j ≤ 200) : frc X t nw (fun j => nI (D j)) = nI (fAll T D) := by
  obtain ⟨wi, g1, g2, g3⟩ := hS.2.2
  have e1 : frc X t nw (fun j => nI (D j)) = nI (0 + nsum (hitW X t D) (fun w => num (X.2.1 9 w)) 0 nw) :=
    rsumc_nsum nw 0 0 fun w _ hw => ⟨mhit_W hI ht (by omega) hD, (hI.2.2.2.2.2.2 w (by omega)).2.2.2.2.2.1.1⟩
  rw [e1, Nat.zero_add]
  congr 1
  rw [nsum_sel nw (Tc2 T) (fun q hq => (g1 q hq).1) g2 (fun w hw hp => g3 w hw hp.1)]
  unfold fAll
  refine nsum_congr2 _ _ fun q _ hq => ?_
  obtain ⟨w1, w2, w3, w4, w5, w6⟩ := g1 q (by omega)
  refine ⟨?_, w6.symm⟩
  have hA := inv_A hI w1
  have s1 := (hS.1 _ hA.2.1).2.1
  have s2 := (hS.1 _ hA.2.2.2).2.1
  unfold hitN
  rw [w3, w4, w5]
  show wsel X t (wi q) ∧ 2 * D (wA X (wi q)) + num (zedge (X.2.1 6 (wi q))) * num (X.2.1 (2 * t + 1) (wA X (wi q))) = 2 * D (wB X (wi q)) + num (zedge (X.2.1 6 (wi q))) * num (X.2.1 (2 * t + 1) (wB X (wi q))) ↔ _
  rw [← s1, ← s2]
  rcases Nat.le_total (wA X (wi q)) (wB X (wi q)) with h | h
  · rw [Nat.min_eq_left h, Nat.max_eq_right h]
    exact ⟨fun h9 => h9.2, fun h9 => ⟨w2, h9⟩⟩
  · rw [Nat.min_eq_right h, Nat.max_eq_left h]
    exact ⟨fun h9 => h9.2.symm, fun h9 => ⟨w2, h9.symm⟩⟩
set_option maxRecDepth 100000 in
set_option maxHeartbeats 4000000 in
theorem cS_le {T : tsP} {D : Nat → Nat} : ∀ (m k : Nat), (∀ j, k ≤ j → j < k + m → dN (D j) (Tpv T j) ≤ 200) → cS T D k m ≤ 200 * m
  | 0, _, _ => Nat.le_refl _
  | m + 1, k, h => by
    have h1 := h k (by omega) (by omega)
    have h2 := cS_le m (k + 1) fun j a b => h j (by omega) (by omega)
    unfold cS; omega
set_option maxRecDepth 100000 in
set_option maxHeartbeats 4000000 in
theorem cS_0 {T : tsP} {D : Nat → Nat} : ∀ (m k : Nat), cS T D k m = 0 → ∀ j, k ≤ j → j < k + m → D j = Tpv T j
  | 0, k, _, j, h1, h2 => absurd h2 (by omega)
  | m + 1, k, h, j, h1, h2 => by
    unfold cS at h
    by_cases e : j = k
    · subst e; unfold dN at h; omega
    · exact cS_0 m (k + 1) (by omega) j (by omega) (by omega)
set_option maxRecDepth 100000 in
set_option maxHeartbeats 4000000 in
theorem cS_self {T : tsP} : ∀ (m k : Nat), cS T (Tpv T) k m = 0
  | 0, _ => rfl
  | m + 1, k => by
    have := cS_self (T := T) m (k + 1)
    unfold cS dN; omega
/- what the search finds is the top of all tidy layouts -/
set_option maxRecDepth 100000 in
set_option maxHeartbeats 4000000 in
theorem td_top {n nw t : Nat} {B : bst} (hI : inv X n nw) (ht : t < 2) (hB : tdR X t n nw B) : ∃ D : Nat → Nat, (∀ j, j < n → B.2.2 j = D j ∧ D j ≤ 200) ∧ top X t n nw (fun j => nI (D j)) ∧ frc X t nw (fun j => nI (D j)) = nI B.1 ∧ cst X t n (fun j => nI (D j)) = nI B.2.1 := by
  obtain ⟨T, X1, hT, hS, hr⟩ := hB
  have hv : ∀ D, tval T 0 n 0 0 D = (fAll T D, cS T D 0 n) := fun D => by
    unfold tval
    rw [fS_all hT, Nat.zero_add, Nat.zero_add]
  have hpv : ∀ j, j < n → Tpv T j ≤ 200 := fun j hj => by rw [(hS.1 j hj).1]; exact (inv_axis hI ht hj).1.2
  have hcst : ∀ D : Nat → Nat, (∀ j, j < n → D j ≤ 200) → cst X t n (fun j => nI (D j)) = nI (cS T D 0 n) := fun D hD => by
    have h1 := cst_N hI ht hS hD n 0 0 (by omega)
    rw [Nat.zero_add] at h1
    exact h1
  have hcl : ∀ D : Nat → Nat, (∀ j, j < n → D j ≤ 200) → cS T D 0 n ≤ 800 := fun D hD => by
    have h1 := cS_le (T := T) (D := D) n 0 fun j _ hj => dN_le (hD j (by omega)) (hpv j (by omega))
    have h4 := hI.1
    omega
  have hN : ∀ E, tidyL X t n E → ∃ e : Nat → Nat, (∀ j, j < n → E j = nI (e j)) ∧ (∀ j, j < n → e j ≤ 200) ∧ comp T n 0 (Tpv T) e := fun E hE => by
    have h1 := tidy_N hI ht hE
    have h2 : ∀ j, j < n → E j = nI (num (E j)) := fun j hj => (h1 j hj).1
    exact ⟨fun j => num (E j), h2, fun j hj => (h1 j hj).2, (comp_tidy hI ht hT hS).mpr ⟨tidy_congr h2 hE, fun j hj => (h1 j hj).2⟩⟩
  have main : ∀ D, comp T n 0 (Tpv T) D → (∀ e, comp T n 0 (Tpv T) e → ¬ tid (fAll T e, cS T e 0 n) (fAll T D, cS T D 0 n) ∧ (fAll T e = fAll T D → cS T e 0 n = cS T D 0 n → lexle n D e)) → (∀ j, j < n → D j ≤ 200) ∧ top X t n nw (fun j => nI (D j)) ∧ frc X t nw (fun j => nI (D j)) = nI (fAll T D) ∧ cst X t n (fun j => nI (D j)) = nI (cS T D 0 n) := fun D hD hbest => by
    have h1 := (comp_tidy hI ht hT hS).mp hD
    have hfD := frc_N hI ht hT hS h1.2
    have hcD := hcst D h1.2
    refine ⟨h1.2, ⟨h1.1, fun E hE hb => ?_⟩, hfD, hcD⟩
    obtain ⟨e, h2, h3, h4⟩ := hN E hE
    have hb2 := btr_congr hI h2 (fun j _ => rfl) hb
    have hfe := frc_N hI ht hT hS h3
    have hce := hcst e h3
    have h5 := hbest e h4
    have b1 := fAll_le hT D
    have b2 := fAll_le hT e
    have b3 := hcl D h1.2
    have b4 := hcl e h3
    unfold btr at hb2
    rw [hfD, hfe, hcD, hce, nI_ltI (by omega) (by omega), nI_eq (by omega) (by omega), nI_ltI (by omega) (by omega), nI_eq (by omega) (by omega)] at hb2
    unfold tid at h5
    dsimp only at h5
    rcases hb2 with h6 | ⟨h6, h7 | ⟨h7, j, h8, h9, h10⟩⟩
    · exact h5.1 (Or.inl h6)
    · exact h5.1 (Or.inr ⟨h6, h7⟩)
    · have h11 := h3 j h8
      have h12 := h1.2 j h8
      have h10' : nI (e j) < nI (D j) := h10
      rw [nI_ltI (by omega) (by omega)] at h10'
      have h9' : ∀ i, i < j → e i = D i := fun i hi => by
        have h13 := h3 i (by omega)
        have h14 := h1.2 i (by omega)
        exact (nI_eq (by omega) (by omega)).mp (h9 i hi)
      rcases h5.2 h6 h7 with h15 | ⟨j2, h16, h17, h18⟩
      · have := h15 j h8; omega
      · rcases Nat.lt_trichotomy j j2 with h19 | h19 | h19
        · have := h17 j h19; omega
        · subst h19; omega
        · have := h9' j2 h19; omega
  rcases hr with ⟨e, h⟩ | ⟨D, hD, h1, h2, _, h⟩
  · obtain ⟨m1, m2, m3, m4⟩ := main (Tpv T) (present_comp hI ht hT hS) fun e he => by
      have h1 := h e he
      rw [hv] at h1
      rw [cS_self]
      exact ⟨h1, fun _ h3 => Or.inl fun j hj => (cS_0 n 0 h3 j (by omega) (by omega)).symm⟩
    rw [cS_self] at m4
    rw [e]
    exact ⟨Tpv T, fun j hj => ⟨rfl, m1 j hj⟩, m2, m3, m4⟩
  · obtain ⟨m1, m2, m3, m4⟩ := main D hD fun e he => by
      have h3 := h e he
      rw [hv, hv] at h3
      exact ⟨h3.1, fun a b => h3.2 (by rw [a, b])⟩
    rw [hv] at h2
    have e1 : B.1 = fAll T D := congrArg Prod.fst h2
    have e2 : B.2.1 = cS T D 0 n := congrArg Prod.snd h2
    exact ⟨D, fun j hj => ⟨h1 j hj, m1 j hj⟩, m2, by rw [e1]; exact m3, by rw [e2]; exact m4⟩
end
