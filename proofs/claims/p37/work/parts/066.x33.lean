set_option maxRecDepth 100000 in
set_option maxHeartbeats 4000000 in
theorem cnt_congr {p q : Nat → Bool} : ∀ m, (∀ i, i < m → p i = q i) → cnt p m = cnt q m
  | 0, _ => rfl
  | m + 1, h => by
    unfold cnt
    rw [h m (Nat.lt_succ_self m), cnt_congr m (fun i hi => h i (by omega))]
set_option maxRecDepth 100000 in
set_option maxHeartbeats 4000000 in
theorem cnt_all {p : Nat → Bool} {k : Nat} (h : ∀ i, i < k → p i = true) : ∀ m, k ≤ m → k ≤ cnt p m
  | 0, hk => by omega
  | m + 1, hk => by
    unfold cnt
    rcases Nat.lt_or_ge m k with h1 | h1
    · have h2 : k = m + 1 := by omega
      have h3 : ∀ j, j ≤ m + 1 → j ≤ cnt p j := fun j => by
        induction j with
        | zero => intro _; exact Nat.zero_le _
        | succ j ih =>
          intro hj
          unfold cnt
          rw [if_pos (h j (by omega))]
          have := ih (by omega)
          omega
      have h4 := h3 m (by omega)
      rw [if_pos (h m (by omega))]; omega
    · have := cnt_all h m h1
      omega
set_option maxRecDepth 100000 in
set_option maxHeartbeats 4000000 in
theorem cnt_tail {p : Nat → Bool} {k : Nat} : ∀ m, (∀ i, k ≤ i → i < m → ¬ p i = true) → cnt p m ≤ k
  | 0, _ => Nat.zero_le _
  | m + 1, h => by
    unfold cnt
    rcases Nat.lt_or_ge m k with h1 | h1
    · have := cnt_le p m
      split <;> omega
    · rw [if_neg (h m h1 (Nat.lt_succ_self m))]
      have := cnt_tail m (fun i hi hi2 => h i hi (by omega))
      omega
set_option maxRecDepth 100000 in
set_option maxHeartbeats 4000000 in
theorem cnt_not {p q : Nat → Bool} : ∀ m, (∀ i, i < m → (q i = true ↔ ¬ p i = true)) → cnt p m + cnt q m = m
  | 0, _ => rfl
  | m + 1, h => by
    have h1 := cnt_not (p := p) (q := q) m (fun i hi => h i (by omega))
    have h2 := h m (Nat.lt_succ_self m)
    unfold cnt
    rcases Decidable.em (p m = true) with h3 | h3
    · rw [if_pos h3, if_neg (fun h4 => (h2.mp h4) h3)]; omega
    · rw [if_neg h3, if_pos (h2.mpr h3)]; omega
set_option maxRecDepth 100000 in
set_option maxHeartbeats 4000000 in
theorem cnt_rins (P : Int32 → Bool) (v : Int32) : ∀ (k : Nat) (f : Nat → Int32), cnt (fun i => P (rins f v k i)) (k + 1) = cnt (fun i => P (f i)) k + (if P v = true then 1 else 0)
  | 0, f => by
    show cnt (fun i => P (upd f 0 v i)) 1 = 0 + _
    unfold cnt cnt
    rw [show upd f 0 v 0 = v from if_pos rfl]
  | k + 1, f => by
    rcases Decidable.em (v < f k) with h | h
    · rw [show rins f v (k + 1) = rins (upd f (k + 1) (f k)) v k from if_pos h]
      obtain ⟨s, hs, hat, _, _⟩ := rins_at v k (upd f (k + 1) (f k))
      have h1 := cnt_rins P v k (upd f (k + 1) (f k))
      have h2 : rins (upd f (k + 1) (f k)) v k (k + 1) = f k := by
        rw [hat, if_neg (show ¬ k + 1 < s by omega), if_neg (show ¬ k + 1 = s by omega), if_neg (show ¬ k + 1 ≤ k by omega)]
        exact if_pos rfl
      have h3 : cnt (fun i => P (upd f (k + 1) (f k) i)) k = cnt (fun i => P (f i)) k := cnt_congr k (fun i hi => congrArg P (if_neg (by omega)))
      show cnt (fun i => P (rins (upd f (k + 1) (f k)) v k i)) (k + 1) + (if P (rins (upd f (k + 1) (f k)) v k (k + 1)) = true then 1 else 0) = cnt (fun i => P (f i)) k + (if P (f k) = true then 1 else 0) + _
      rw [h1, h2, h3]; omega
    · rw [show rins f v (k + 1) = upd f (k + 1) v from if_neg h]
      have h3 : cnt (fun i => P (upd f (k + 1) v i)) (k + 1) = cnt (fun i => P (f i)) (k + 1) := cnt_congr (k + 1) (fun i hi => congrArg P (if_neg (by omega)))
      show cnt (fun i => P (upd f (k + 1) v i)) (k + 1) + (if P (upd f (k + 1) v (k + 1)) = true then 1 else 0) = _
      rw [h3, show upd f (k + 1) v (k + 1) = v from if_pos rfl]
/- not falling -/
set_option maxRecDepth 100000 in
set_option maxHeartbeats 4000000 in
def nd (f : Nat → Int32) (k : Nat) : Prop := ∀ i j, i < j → j < k → f i ≤ f j
set_option maxRecDepth 100000 in
set_option maxHeartbeats 4000000 in
theorem nd_rins {f : Nat → Int32} {k : Nat} {v : Int32} (h : nd f k) : nd (rins f v k) (k + 1) := by
  obtain ⟨s, hs, hat, hlo, hhi⟩ := rins_at v k f
  have hA : ∀ j, j < s → rins f v k j = f j := fun j hj => by rw [hat, if_pos hj]
  have hB : rins f v k s = v := by rw [hat, if_neg (Nat.lt_irrefl s), if_pos rfl]
  have hC : ∀ j, s < j → j < k + 1 → rins f v k j = f (j - 1) := fun j h4 h5 => by rw [hat, if_neg (show ¬ j < s by omega), if_neg (show ¬ j = s by omega), if_pos (show j ≤ k by omega)]
  have hL : ∀ j, j < s → f j ≤ v := fun j hj => by
    rcases hlo with h4 | h4
    · omega
    · have h5 : f (s - 1) ≤ v := Int32.not_lt.mp h4
      rcases Nat.lt_or_ge j (s - 1) with h6 | h6
      · exact Int32.le_trans (h j (s - 1) h6 (by omega)) h5
      · rw [show j = s - 1 by omega]; exact h5
  have hle : ∀ j, s ≤ j → j < k → v ≤ f j := fun j h1 h2 => Int32.le_of_lt (hhi j h1 h2)
  intro i j hij hj
  rcases Nat.lt_or_ge j s with h4 | h4
  · rw [hA i (by omega), hA j h4]; exact h i j hij (by omega)
  · rcases Decidable.em (j = s) with h5 | h5
    · rw [h5, hB, hA i (by omega)]; exact hL i (by omega)
    · rw [hC j (by omega) hj]
      rcases Nat.lt_or_ge i s with h6 | h6
      · rw [hA i h6]; exact Int32.le_trans (hL i h6) (hle (j - 1) (by omega) (by omega))
      · rcases Decidable.em (i = s) with h7 | h7
        · rw [h7, hB]; exact hle (j - 1) (by omega) (by omega)
        · rw [hC i (by omega) (by omega)]; exact h (i - 1) (j - 1) (by omega) (by omega)
/- the start with which the shape in the place p stays -/
set_option maxRecDepth 100000 in
set_option maxHeartbeats 4000000 in
def wZ (st sb : Nat → Nat) (g p : Nat) : Int := (st p : Int) - (pN sb g 0 p : Nat)
set_option maxRecDepth 100000 in
set_option maxHeartbeats 4000000 in
theorem toInt_sub2 {a b : Nat} (ha : a ≤ 2000) (hb : b ≤ 2000) : (nI a - nI b).toInt = (a : Int) - (b : Int) := by
  rw [Int32.toInt_sub, nI_toInt (by omega), nI_toInt (by omega)]
  unfold Int.bmod
  dsimp only
  split <;> omega
set_option maxRecDepth 100000 in
set_option maxHeartbeats 4000000 in
theorem cN_snoc (st sb : Nat → Nat) (g s : Nat) : ∀ (m p : Nat), cN st sb g s p (m + 1) = cN st sb g s p m + dN (pN sb g s (p + m)) (st (p + m))
  | 0, p => by show _ + 0 = 0 + _; rw [Nat.zero_add]; rfl
  | m + 1, p => by
    have h := cN_snoc st sb g s m (p + 1)
    show dN (pN sb g s p) (st p) + cN st sb g s (p + 1) (m + 1) = dN (pN sb g s p) (st p) + cN st sb g s (p + 1) m + _
    rw [h, show p + 1 + m = p + (m + 1) by omega]; omega
/- one further: the cost grows by those that are passed, falls by those ahead -/
set_option maxRecDepth 100000 in
set_option maxHeartbeats 4000000 in
theorem cN_step (st sb : Nat → Nat) (g s : Nat) : ∀ m, cN st sb g (s + 1) 0 m + cnt (fun p => decide ((s : Int) < wZ st sb g p)) m = cN st sb g s 0 m + cnt (fun p => decide (wZ st sb g p ≤ (s : Int))) m
  | 0 => rfl
  | m + 1 => by
    have h := cN_step st sb g s m
    rw [cN_snoc, cN_snoc]
    show _ + (cnt _ m + (if decide ((s : Int) < wZ st sb g m) = true then 1 else 0)) = _ + (cnt _ m + (if decide (wZ st sb g m ≤ (s : Int)) = true then 1 else 0))
    rw [Nat.zero_add]
    rcases Decidable.em (wZ st sb g m ≤ (s : Int)) with h1 | h1
    · rw [if_neg (by rw [decide_eq_true_iff]; omega), if_pos (decide_eq_true h1)]
      unfold wZ at h1
      unfold dN
      unfold pN at h1 ⊢
      omega
    · rw [if_pos (decide_eq_true (by omega)), if_neg (by rw [decide_eq_true_iff]; exact h1)]
      unfold wZ at h1
      unfold dN
      unfold pN at h1 ⊢
      omega
/- the lower median costs least, and less than every lower one -/
set_option maxRecDepth 100000 in
set_option maxHeartbeats 4000000 in
theorem median {st sb : Nat → Nat} {g n : Nat} {f : Nat → Int32} {M : Int} (hn : 1 ≤ n) (hs : nd f n) (hc : ∀ P : Int32 → Bool, cnt (fun i => P (f i)) n = cnt (fun p => P (Int32.ofInt (wZ st sb g p))) n) (hw : ∀ p, p < n → (Int32.ofInt (wZ st sb g p)).toInt = wZ st sb g p) (hM : (f ((n - 1) / 2)).toInt = M) (s : Nat) : (M ≤ s → cN st sb g s 0 n ≤ cN st sb g (s + 1) 0 n) ∧ ((s : Int) < M → cN st sb g (s + 1) 0 n < cN st sb g s 0 n) := by
  have h1 := cN_step st sb g s n
  have h2 := cnt_not (p := fun p => decide (wZ st sb g p ≤ (s : Int))) (q := fun p => decide ((s : Int) < wZ st sb g p)) n (fun i hi => by
    show decide _ = true ↔ ¬ decide _ = true
    rw [decide_eq_true_iff, decide_eq_true_iff]; omega)
  have h3 : cnt (fun i => decide ((f i).toInt ≤ (s : Int))) n = cnt (fun p => decide (wZ st sb g p ≤ (s : Int))) n :=
    (hc (fun v => decide (v.toInt ≤ (s : Int)))).trans (cnt_congr n (fun i hi => by show decide ((Int32.ofInt (wZ st sb g i)).toInt ≤ (s : Int)) = _; rw [hw i hi]))
  have hle : ∀ i j, i ≤ j → j < n → (f i).toInt ≤ (f j).toInt := fun i j hij hj => by
    rcases Nat.lt_or_ge i j with h4 | h4
    · exact Int32.le_iff_toInt_le.mp (hs i j h4 hj)
    · rw [show i = j by omega]; exact Int.le_refl _
  constructor
  · intro h4
    have h5 := cnt_all (p := fun i => decide ((f i).toInt ≤ (s : Int))) (k := (n - 1) / 2 + 1) (fun i hi => decide_eq_true (Int.le_trans (hle i ((n - 1) / 2) (by omega) (by omega)) (by rw [hM]; exact h4))) n (by omega)
    omega
  · intro h4
    have h5 := cnt_tail (p := fun i => decide ((f i).toInt ≤ (s : Int))) (k := (n - 1) / 2) n (fun i hi hi2 => by
      have h6 := hle ((n - 1) / 2) i hi hi2
      rw [decide_eq_true_iff]
      omega)
    omega
set_option maxRecDepth 100000 in
set_option maxHeartbeats 4000000 in
theorem up_from {c : Nat → Nat} {a : Nat} (h : ∀ s, a ≤ s → c s ≤ c (s + 1)) : ∀ m, c a ≤ c (a + m)
  | 0 => Nat.le_refl _
  | m + 1 => Nat.le_trans (up_from h m) (h (a + m) (by omega))
set_option maxRecDepth 100000 in
set_option maxHeartbeats 4000000 in
theorem down_to {c : Nat → Nat} {b : Nat} (h : ∀ s, s < b → c (s + 1) < c s) : ∀ m, m < b → c b < c (b - (m + 1))
  | 0, hm => by have := h (b - 1) (by omega); rw [show b - 1 + 1 = b by omega] at this; exact this
  | m + 1, hm => by
    have h1 := down_to h m (by omega)
    have h2 := h (b - (m + 1 + 1)) (by omega)
    rw [show b - (m + 1 + 1) + 1 = b - (m + 1) by omega] at h2
    omega
set_option maxRecDepth 100000 in
set_option maxHeartbeats 4000000 in
def clampN (b : Int) (L : Nat) : Nat := if b < 0 then 0 else if (L : Int) < b then L else b.toNat
/- the median drawn into 0 .. L costs least there, and is the lowest that does -/
set_option maxRecDepth 100000 in
set_option maxHeartbeats 4000000 in
theorem clamp_best {c : Nat → Nat} {M : Int} (h : ∀ s : Nat, (M ≤ s → c s ≤ c (s + 1)) ∧ ((s : Int) < M → c (s + 1) < c s)) (L : Nat) : clampN M L ≤ L ∧ ∀ s, s ≤ L → c (clampN M L) < c s ∨ c (clampN M L) = c s ∧ clampN M L ≤ s ∨ c (clampN M L) < c s := by
  unfold clampN
  split
  · rename_i h1
    refine ⟨Nat.zero_le _, fun s hs => ?_⟩
    have h2 := up_from (c := c) (a := 0) (fun s _ => (h s).1 (by omega)) s
    rw [Nat.zero_add] at h2
    omega
  · rename_i h1
    split
    · rename_i h2
      refine ⟨Nat.le_refl _, fun s hs => ?_⟩
      rcases Nat.lt_or_ge s L with h3 | h3
      · have h4 := down_to (c := c) (b := L) (fun s hs => (h s).2 (by omega)) (L - s - 1) (by omega)
        rw [show L - (L - s - 1 + 1) = s by omega] at h4
        omega
      · rw [show s = L by omega]; omega
    · rename_i h2
      refine ⟨by omega, fun s hs => ?_⟩
      rcases Nat.lt_or_ge s M.toNat with h3 | h3
      · have h4 := down_to (c := c) (b := M.toNat) (fun s hs => (h s).2 (by omega)) (M.toNat - s - 1) (by omega)
        rw [show M.toNat - (M.toNat - s - 1 + 1) = s by omega] at h4
        omega
      · have h4 := up_from (c := c) (a := M.toNat) (fun s hs => (h s).1 (by omega)) (s - M.toNat)
        rw [show M.toNat + (s - M.toNat) = s by omega] at h4
        omega
