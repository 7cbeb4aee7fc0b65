/- a row's first c places: strictly rising, and the values that have p -/
set_option maxRecDepth 100000 in
set_option maxHeartbeats 4000000 in
def slist (f : Nat → Int32) (c : Nat) (p : Int32 → Prop) : Prop := (∀ a b, a < b → b < c → f a < f b) ∧ (∀ j, j < c → p (f j)) ∧ ∀ v, p v → ∃ j, j < c ∧ f j = v
set_option maxRecDepth 100000 in
set_option maxHeartbeats 4000000 in
theorem slist_congr {f : Nat → Int32} {c : Nat} {p q : Int32 → Prop} (hq : ∀ w, q w ↔ p w) (h : slist f c p) : slist f c q :=
  ⟨h.1, fun j hj => (hq _).mpr (h.2.1 j hj), fun v hv => h.2.2 v ((hq v).mp hv)⟩
set_option maxRecDepth 100000 in
set_option maxHeartbeats 4000000 in
theorem slist_ins {a : rst} {p q : Int32 → Prop} {v : Int32} (h : slist a.1 a.2 p) (hq : ∀ w, q w ↔ p w ∨ w = v) : slist (insNew v a).1 (insNew v a).2 q := by
  obtain ⟨h1, h2, h3⟩ := h
  unfold insNew
  split
  · rename_i hc
    obtain ⟨j, _, hj, e⟩ := (rany_iff _ _).mp hc
    refine ⟨h1, fun j hj => (hq _).mpr (Or.inl (h2 j hj)), fun w hw => ?_⟩
    rcases (hq w).mp hw with h4 | h4
    · exact h3 w h4
    · exact ⟨j, by omega, by rw [h4]; exact e⟩
  · rename_i hc
    have hne : ∀ x, x < a.2 → a.1 x ≠ v := fun x hx h4 => hc ((rany_iff _ _).mpr ⟨x, Nat.zero_le _, by omega, h4⟩)
    obtain ⟨s, hs, hat, hlo, hhi⟩ := rins_at v a.2 a.1
    have hlo2 : ∀ j, j < s → a.1 j < v := fun j hj => by
      rcases hlo with h4 | h4
      · omega
      · have h5 : a.1 (s - 1) < v := Int32.lt_of_le_of_ne (Int32.not_lt.mp h4) (hne (s - 1) (by omega))
        rcases Nat.lt_or_ge j (s - 1) with h6 | h6
        · exact Int32.lt_trans (h1 j (s - 1) h6 (by omega)) h5
        · rw [show j = s - 1 by omega]; exact h5
    have hA : ∀ j, j < s → rins a.1 v a.2 j = a.1 j := fun j hj => by rw [hat, if_pos hj]
    have hB : rins a.1 v a.2 s = v := by rw [hat, if_neg (Nat.lt_irrefl s), if_pos rfl]
    have hC : ∀ j, s < j → j < a.2 + 1 → rins a.1 v a.2 j = a.1 (j - 1) := fun j h4 h5 => by rw [hat, if_neg (by omega), if_neg (by omega), if_pos (by omega)]
    refine ⟨fun x y hxy hy => ?_, fun j hj => ?_, fun w hw => ?_⟩
    · have hy2 : y < a.2 + 1 := hy
      show rins a.1 v a.2 x < rins a.1 v a.2 y
      rcases Nat.lt_or_ge y s with h4 | h4
      · rw [hA x (by omega), hA y h4]; exact h1 x y hxy (by omega)
      · rcases Decidable.em (y = s) with h5 | h5
        · rw [h5, hB, hA x (by omega)]; exact hlo2 x (by omega)
        · rw [hC y (by omega) hy2]
          rcases Nat.lt_or_ge x s with h6 | h6
          · rw [hA x h6]; exact Int32.lt_trans (hlo2 x h6) (hhi (y - 1) (by omega) (by omega))
          · rcases Decidable.em (x = s) with h7 | h7
            · rw [h7, hB]; exact hhi (y - 1) (by omega) (by omega)
            · rw [hC x (by omega) (by omega)]; exact h1 (x - 1) (y - 1) (by omega) (by omega)
    · have hj2 : j < a.2 + 1 := hj
      show q (rins a.1 v a.2 j)
      rcases Nat.lt_or_ge j s with h4 | h4
      · rw [hA j h4]; exact (hq _).mpr (Or.inl (h2 j (by omega)))
      · rcases Decidable.em (j = s) with h5 | h5
        · rw [h5, hB]; exact (hq _).mpr (Or.inr rfl)
        · rw [hC j (by omega) hj2]; exact (hq _).mpr (Or.inl (h2 (j - 1) (by omega)))
    · show ∃ j, j < a.2 + 1 ∧ rins a.1 v a.2 j = w
      rcases (hq w).mp hw with h4 | h4
      · obtain ⟨j, hj, e⟩ := h3 w h4
        rcases Nat.lt_or_ge j s with h5 | h5
        · exact ⟨j, by omega, (hA j h5).trans e⟩
        · exact ⟨j + 1, by omega, (hC (j + 1) (by omega) (by omega)).trans e⟩
      · exact ⟨s, by omega, hB.trans h4.symm⟩
/- a snap by the edge d of another shape -/
set_option maxRecDepth 100000 in
set_option maxHeartbeats 4000000 in
def snOk (s0 z0 zk : Int32) (d : Nat) (w : Int32) : Prop := 2 * s0 + nI d * (z0 - zk) - (2 * s0 + nI d * (z0 - zk)) / 2 * 2 = 0 ∧ w = (2 * s0 + nI d * (z0 - zk)) / 2
set_option maxRecDepth 100000 in
set_option maxHeartbeats 4000000 in
theorem slist_E {s0 z0 zk : Int32} : ∀ (m e : Nat) (a : rst) (p : Int32 → Prop), slist a.1 a.2 p → slist (snE s0 z0 zk e m a).1 (snE s0 z0 zk e m a).2 (fun w => p w ∨ ∃ d, e ≤ d ∧ d < e + m ∧ snOk s0 z0 zk d w)
  | 0, e, a, p, h => slist_congr (fun w => ⟨fun h2 => h2.elim id (fun ⟨d, h3, h4, _⟩ => absurd h4 (by omega)), Or.inl⟩) h
  | m + 1, e, a, p, h => by
    unfold snE
    split
    · rename_i hc
      refine slist_congr (fun w => ?_) (slist_E m (e + 1) _ (fun w => p w ∨ w = (2 * s0 + nI e * (z0 - zk)) / 2) (slist_ins h (fun w => Iff.rfl)))
      constructor
      · rintro (h2 | ⟨d, h3, h4, h5⟩)
        · exact Or.inl (Or.inl h2)
        · rcases Decidable.em (d = e) with h6 | h6
          · subst h6; exact Or.inl (Or.inr h5.2)
          · exact Or.inr ⟨d, by omega, by omega, h5⟩
      · rintro ((h2 | h2) | ⟨d, h3, h4, h5⟩)
        · exact Or.inl h2
        · exact Or.inr ⟨e, Nat.le_refl _, by omega, hc, h2⟩
        · exact Or.inr ⟨d, by omega, by omega, h5⟩
    · rename_i hc
      refine slist_congr (fun w => ?_) (slist_E m (e + 1) a p h)
      constructor
      · rintro (h2 | ⟨d, h3, h4, h5⟩)
        · exact Or.inl h2
        · rcases Decidable.em (d = e) with h6 | h6
          · subst h6; exact absurd h5.1 hc
          · exact Or.inr ⟨d, by omega, by omega, h5⟩
      · rintro (h2 | ⟨d, h3, h4, h5⟩)
        · exact Or.inl h2
        · exact Or.inr ⟨d, by omega, by omega, h5⟩
set_option maxRecDepth 100000 in
set_option maxHeartbeats 4000000 in
theorem slist_O {st sz : Nat → Int32} {k : Nat} : ∀ (m i : Nat) (a : rst) (p : Int32 → Prop), slist a.1 a.2 p → slist (snO st sz k i m a).1 (snO st sz k i m a).2 (fun w => p w ∨ ∃ j, i ≤ j ∧ j < i + m ∧ j ≠ k ∧ ∃ d, d < 3 ∧ snOk (st j) (sz j) (sz k) d w)
  | 0, i, a, p, h => slist_congr (fun w => ⟨fun h2 => h2.elim id (fun ⟨d, h3, h4, _⟩ => absurd h4 (by omega)), Or.inl⟩) h
  | m + 1, i, a, p, h => by
    unfold snO
    split
    · rename_i hc
      refine slist_congr (fun w => ?_) (slist_O m (i + 1) a p h)
      constructor
      · rintro (h2 | ⟨j, h3, h4, h5, h6⟩)
        · exact Or.inl h2
        · exact Or.inr ⟨j, by omega, by omega, h5, h6⟩
      · rintro (h2 | ⟨j, h3, h4, h5, h6⟩)
        · exact Or.inl h2
        · exact Or.inr ⟨j, by omega, by omega, h5, h6⟩
    · rename_i hc
      refine slist_congr (fun w => ?_) (slist_O m (i + 1) _ _ (slist_E 3 0 a p h))
      constructor
      · rintro (h2 | ⟨j, h3, h4, h5, d, h6, h7⟩)
        · exact Or.inl (Or.inl h2)
        · rcases Decidable.em (j = i) with h8 | h8
          · subst h8; exact Or.inl (Or.inr ⟨d, Nat.zero_le _, by omega, h7⟩)
          · exact Or.inr ⟨j, by omega, by omega, h5, d, h6, h7⟩
      · rintro ((h2 | ⟨d, _, h6, h7⟩) | ⟨j, h3, h4, h5, h6⟩)
        · exact Or.inl h2
        · exact Or.inr ⟨i, Nat.le_refl _, by omega, hc, d, by omega, h7⟩
        · exact Or.inr ⟨j, by omega, by omega, h5, h6⟩
/- the snaps of a shape k along an axis -/
set_option maxRecDepth 100000 in
set_option maxHeartbeats 4000000 in
def isSnap (S Z : Nat → Int32) (n k : Nat) (v : Int32) : Prop := v = S k ∨ ∃ j, j < n ∧ j ≠ k ∧ ∃ d, d < 3 ∧ snOk (S j) (Z j) (Z k) d v
set_option maxRecDepth 100000 in
set_option maxHeartbeats 4000000 in
theorem snAll_slist (f S Z : Nat → Int32) (n k : Nat) : slist (snAll f S Z n k).1 (snAll f S Z n k).2 (isSnap S Z n k) := by
  unfold snAll
  refine slist_congr (fun w => ?_) (slist_O n 0 (rins f (S k) 0, 1) (fun w => w = S k) ⟨fun a b h1 h2 => absurd h2 (by show ¬ b < 1; omega), fun j hj => ?_, fun v hv => ⟨0, by show 0 < 1; omega, ?_⟩⟩)
  · unfold isSnap
    constructor
    · rintro (h2 | ⟨j, h3, h4, h5⟩)
      · exact Or.inl h2
      · exact Or.inr ⟨j, Nat.zero_le _, by omega, h4, h5⟩
    · rintro (h2 | ⟨j, _, h3, h4, h5⟩)
      · exact Or.inl h2
      · exact Or.inr ⟨j, by omega, h4, h5⟩
  · have hj2 : j < 1 := hj
    show rins f (S k) 0 j = S k
    rw [show j = 0 by omega]; show upd f 0 (S k) 0 = S k; exact if_pos rfl
  · show rins f (S k) 0 0 = v
    rw [hv]; show upd f 0 (S k) 0 = S k; exact if_pos rfl
set_option maxRecDepth 100000 in
set_option maxHeartbeats 4000000 in
theorem snO_len0 {st sz : Nat → Int32} {k : Nat} : ∀ (m i : Nat) (a : rst), (snO st sz k i m a).2 ≤ a.2 + 3 * m
  | 0, _, a => Nat.le_refl _
  | m + 1, i, a => by
    unfold snO
    refine Nat.le_trans (snO_len0 m (i + 1) _) ?_
    split
    · omega
    · have := snE_len (st i) (sz i) (sz k) 3 0 a; omega
set_option maxRecDepth 100000 in
set_option maxHeartbeats 4000000 in
theorem snO_len {st sz : Nat → Int32} {k : Nat} : ∀ (m i : Nat) (a : rst), i ≤ k → k < i + m → (snO st sz k i m a).2 + 3 ≤ a.2 + 3 * m
  | 0, _, a, h1, h2 => absurd h2 (by omega)
  | m + 1, i, a, h1, h2 => by
    unfold snO
    rcases Decidable.em (i = k) with h3 | h3
    · rw [if_pos h3]
      have := snO_len0 (st := st) (sz := sz) (k := k) m (i + 1) a
      omega
    · rw [if_neg h3]
      have h4 := snO_len (st := st) (sz := sz) (k := k) m (i + 1) (snE (st i) (sz i) (sz k) 0 3 a) (by omega) (by omega)
      have h5 := snE_len (st i) (sz i) (sz k) 3 0 a
      omega
set_option maxRecDepth 100000 in
set_option maxHeartbeats 4000000 in
theorem snAll_len (f S Z : Nat → Int32) {n k : Nat} (h4 : n ≤ 4) (hk : k < n) : (snAll f S Z n k).2 ≤ 10 := by
  have h := snO_len (st := S) (sz := Z) (k := k) n 0 (rins f (S k) 0, 1) (Nat.zero_le _) (by omega)
  show (snO S Z k 0 n (rins f (S k) 0, 1)).2 ≤ 10
  have h2 : (snO S Z k 0 n (rins f (S k) 0, 1)).2 + 3 ≤ 1 + 3 * n := h
  omega
/- two such lists of the same values are the same -/
set_option maxRecDepth 100000 in
set_option maxHeartbeats 4000000 in
theorem slist_head {f g : Nat → Int32} {c d : Nat} {p : Int32 → Prop} (h : slist f c p) (h2 : slist g d p) : ∀ j, j < c → j < d → f j = g j := by
  intro j
  induction j using Nat.strongRecOn with
  | ind j ih =>
    intro hj hd
    obtain ⟨x, hx, ex⟩ := h2.2.2 _ (h.2.1 j hj)
    obtain ⟨y, hy, ey⟩ := h.2.2 _ (h2.2.1 j hd)
    rcases Nat.lt_or_ge x j with h3 | h3
    · have h4 := ih x h3 (by omega) (by omega)
      have h5 := h.1 x j h3 hj
      rw [h4, ex] at h5; exact absurd h5 Int32.lt_irrefl
    · rcases Nat.lt_or_ge y j with h6 | h6
      · have h4 := ih y h6 (by omega) (by omega)
        have h5 := h2.1 y j h6 hd
        rw [← h4, ey] at h5; exact absurd h5 Int32.lt_irrefl
      · rcases Decidable.em (x = j) with h7 | h7
        · rw [← ex, h7]
        · rcases Decidable.em (y = j) with h8 | h8
          · rw [← ey, h8]
          · have h9 := h2.1 j x (by omega) hx
            have h10 := h.1 j y (by omega) hy
            rw [ex] at h9; rw [ey] at h10
            exact absurd (Int32.lt_trans h9 h10) Int32.lt_irrefl
set_option maxRecDepth 100000 in
set_option maxHeartbeats 4000000 in
theorem slist_len {f g : Nat → Int32} {c d : Nat} {p : Int32 → Prop} (h : slist f c p) (h2 : slist g d p) : c ≤ d := by
  rcases Nat.lt_or_ge d c with h3 | h3
  · exfalso
    obtain ⟨x, hx, ex⟩ := h2.2.2 _ (h.2.1 d h3)
    have h4 := slist_head h h2 x (by omega) hx
    have h5 := h.1 x d hx h3
    rw [h4, ex] at h5; exact absurd h5 Int32.lt_irrefl
  · exact h3
