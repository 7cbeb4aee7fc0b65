section
variable {X : zX}
set_option maxRecDepth 100000 in
set_option maxHeartbeats 4000000 in
def eqn (n : Nat) (f f2 : Nat → Int32) : Prop := ∀ i, i < n → f i = f2 i
set_option maxRecDepth 100000 in
set_option maxHeartbeats 4000000 in
theorem eqn_upd {n i : Nat} {f f2 : Nat → Int32} (h : eqn n f f2) (v : Int32) : eqn n (upd f i v) (upd f2 i v) := fun j hj => by
  show (if j = i then v else f j) = (if j = i then v else f2 j)
  rw [h j hj]
set_option maxRecDepth 100000 in
set_option maxHeartbeats 4000000 in
theorem gIn_congr {n b s : Nat} {r : Int32} : ∀ (m i : Nat) (a a2 : gst), i + m ≤ n → eqn n a.1 a2.1 → a.2 = a2.2 → eqn n (gIn b s r i m a).1 (gIn b s r i m a2).1 ∧ (gIn b s r i m a).2 = (gIn b s r i m a2).2
  | 0, _, _, _, _, h, e => ⟨h, e⟩
  | m + 1, i, a, a2, hi, h, e => by
    unfold gIn
    rw [← h i (by omega)]
    refine gIn_congr m (i + 1) _ _ (by omega) ?_ ?_
    · split
      · exact eqn_upd h r
      · exact h
    · split
      · show (va_up a.2.1 a.2.2 i, a.2.2 + 1) = (va_up a2.2.1 a2.2.2 i, a2.2.2 + 1)
        rw [e]
      · exact e
set_option maxRecDepth 100000 in
set_option maxHeartbeats 4000000 in
theorem gOut_congr {n b : Nat} {r : Int32} : ∀ (m i : Nat) (a a2 : gst), eqn n a.1 a2.1 → a.2 = a2.2 → eqn n (gOut b n r i m a).1 (gOut b n r i m a2).1 ∧ (gOut b n r i m a).2 = (gOut b n r i m a2).2
  | 0, _, _, _, h, e => ⟨h, e⟩
  | m + 1, i, a, a2, h, e => by
    unfold gOut
    rw [← e]
    split
    · have h1 := gIn_congr (b := b) (s := a.2.1 i) (r := r) n 0 a a2 (by omega) h e
      exact gOut_congr m (i + 1) _ _ h1.1 h1.2
    · exact ⟨h, e⟩
set_option maxRecDepth 100000 in
set_option maxHeartbeats 4000000 in
theorem gGo_congr {n b : Nat} : ∀ (m i : Nat) (f f2 : Nat → Int32) (c : Nat), i + m ≤ n → eqn n f f2 → (gGo b n i m f c).2 = (gGo b n i m f2 c).2
  | 0, _, _, _, _, _, _ => rfl
  | m + 1, i, f, f2, c, hi, h => by
    unfold gGo
    rw [← h i (by omega)]
    split
    · exact gGo_congr m (i + 1) _ _ _ (by omega) (gOut_congr 4 0 (upd f i (nI i), fun _ => i, 1) (upd f2 i (nI i), fun _ => i, 1) (eqn_upd h (nI i)) rfl).1
    · exact gGo_congr m (i + 1) _ _ _ (by omega) h
set_option maxRecDepth 100000 in
set_option maxHeartbeats 4000000 in
theorem gjoin_congr {n : Nat} {u v lo : Int32} : ∀ (m i : Nat) (f f2 : Nat → Int32), i + m ≤ n → eqn n f f2 → eqn n (gjoin u v lo i m f) (gjoin u v lo i m f2)
  | 0, _, _, _, _, h => h
  | m + 1, i, f, f2, hi, h => by
    unfold gjoin
    rw [← h i (by omega)]
    refine gjoin_congr m (i + 1) _ _ (by omega) ?_
    split
    · exact eqn_upd h lo
    · exact h
set_option maxRecDepth 100000 in
set_option maxHeartbeats 4000000 in
theorem gJin_congr {n b k : Nat} (hk : k < n) : ∀ (m i : Nat) (a a2 : (Nat → Int32) × Int32), i + m ≤ n → eqn n a.1 a2.1 → a.2 = a2.2 → eqn n (gJin b n k i m a).1 (gJin b n k i m a2).1 ∧ (gJin b n k i m a).2 = (gJin b n k i m a2).2
  | 0, _, _, _, _, h, e => ⟨h, e⟩
  | m + 1, i, a, a2, hi, h, e => by
    unfold gJin
    rw [← h i (by omega), ← h k hk]
    refine gJin_congr hk m (i + 1) _ _ (by omega) ?_ ?_
    · split
      · exact gjoin_congr n 0 _ _ (by omega) h
      · exact h
    · split
      · show a.2 + (-1) = a2.2 + (-1)
        rw [e]
      · exact e
set_option maxRecDepth 100000 in
set_option maxHeartbeats 4000000 in
theorem gJout_congr {n b : Nat} : ∀ (m k : Nat) (a a2 : (Nat → Int32) × Int32), k + m ≤ n → eqn n a.1 a2.1 → a.2 = a2.2 → (gJout b n k m a).2 = (gJout b n k m a2).2
  | 0, _, _, _, _, _, e => e
  | m + 1, k, a, a2, hk, h, e => by
    unfold gJout
    have h1 := gJin_congr (b := b) (show k < n by omega) k 0 a a2 (by omega) h e
    exact gJout_congr m (k + 1) _ _ (by omega) h1.1 h1.2
set_option maxRecDepth 100000 in
set_option maxHeartbeats 4000000 in
theorem gfill_eqn {v : Nat → Int32} {n : Nat} : ∀ (m i : Nat) (f : Nat → Int32), i + m = n → (∀ j, j < i → f j = v j) → eqn n (gfill v i m f) v
  | 0, i, f, hi, h => fun j hj => h j (by omega)
  | m + 1, i, f, hi, h => by
    unfold gfill
    refine gfill_eqn m (i + 1) _ (by omega) (fun j hj => ?_)
    show (if j = i then v i else f j) = v j
    rcases Decidable.em (j = i) with h1 | h1
    · rw [if_pos h1, h1]
    · rw [if_neg h1]; exact h j (by omega)
set_option maxRecDepth 100000 in
set_option maxHeartbeats 4000000 in
theorem counts_dec : ∀ n, n < 5 → ∀ b, b < 64 → nI (gGo b n 0 n (fun _ => -1) 0).2 = (gJout b n 0 n (nI, nI n)).2 := by decide +kernel
/- both ways of counting the groups agree -/
set_option maxRecDepth 100000 in
set_option maxHeartbeats 4000000 in
theorem counts_agree {n b : Nat} (h4 : n ≤ 4) (hb : b < 64) : nI (grGo X n b).2 = (grJoin X n b).2 := by
  have e1 : (grGo X n b).2 = (gGo b n 0 n (fun _ => -1) 0).2 := gGo_congr n 0 _ (fun _ => -1) 0 (by omega) (gfill_eqn n 0 _ (by omega) (fun j hj => absurd hj (Nat.not_lt_zero _)))
  have e2 : (grJoin X n b).2 = (gJout b n 0 n (nI, nI n)).2 := gJout_congr n 0 (gfill nI 0 n (X.2.1 30), nI n) (nI, nI n) (by omega) (gfill_eqn n 0 _ (by omega) (fun j hj => absurd hj (Nat.not_lt_zero _))) rfl
  rw [e1, e2]
  exact counts_dec n (by omega) b hb
end
