section
variable {X : zX}
set_option maxRecDepth 100000 in
set_option maxHeartbeats 4000000 in
theorem imax_comm (x y : Int32) : imax x y = imax y x := by
  unfold imax
  rcases Decidable.em (x < y) with h | h
  · rw [if_pos h, if_neg (fun h2 => Int32.lt_irrefl (Int32.lt_trans h h2))]
  · rw [if_neg h]
    rcases Decidable.em (y < x) with h2 | h2
    · rw [if_pos h2]
    · rw [if_neg h2]
      exact Int32.le_antisymm (Int32.not_lt.mp h2) (Int32.not_lt.mp h)
set_option maxRecDepth 100000 in
set_option maxHeartbeats 4000000 in
theorem zgap_comm (a az b bz : Int32) : zgap a az b bz = zgap b bz a az := by
  unfold zgap
  rw [imax_comm (b - (a + az))]
set_option maxRecDepth 100000 in
set_option maxHeartbeats 4000000 in
theorem zdist_comm (k j : Nat) : zdist X k j = zdist X j k := by
  unfold zdist
  rw [zgap_comm (X.2.1 0 k), zgap_comm (X.2.1 2 k)]
set_option maxRecDepth 100000 in
set_option maxHeartbeats 4000000 in
theorem tbl_comm (b : Nat) {i j : Nat} (h : i ≠ j) : tbl b i j = tbl b j i := by
  unfold tbl
  rcases Nat.lt_or_ge i j with h1 | h1
  · rw [if_pos h1, if_neg (show ¬ j < i by omega)]
  · rw [if_neg (show ¬ i < j by omega), if_pos (show j < i by omega)]
set_option maxRecDepth 100000 in
set_option maxHeartbeats 4000000 in
theorem tbl_bits : ∀ p q r s t u : Bool, (p.toNat + 2 * q.toNat + 4 * r.toNat + 8 * s.toNat + 16 * t.toNat + 32 * u.toNat < 64) ∧ tbl (p.toNat + 2 * q.toNat + 4 * r.toNat + 8 * s.toNat + 16 * t.toNat + 32 * u.toNat) 0 1 = p ∧ tbl (p.toNat + 2 * q.toNat + 4 * r.toNat + 8 * s.toNat + 16 * t.toNat + 32 * u.toNat) 0 2 = q ∧ tbl (p.toNat + 2 * q.toNat + 4 * r.toNat + 8 * s.toNat + 16 * t.toNat + 32 * u.toNat) 1 2 = r ∧ tbl (p.toNat + 2 * q.toNat + 4 * r.toNat + 8 * s.toNat + 16 * t.toNat + 32 * u.toNat) 0 3 = s ∧ tbl (p.toNat + 2 * q.toNat + 4 * r.toNat + 8 * s.toNat + 16 * t.toNat + 32 * u.toNat) 1 3 = t ∧ tbl (p.toNat + 2 * q.toNat + 4 * r.toNat + 8 * s.toNat + 16 * t.toNat + 32 * u.toNat) 2 3 = u := by
  intro p q r s t u
  cases p <;> cases q <;> cases r <;> cases s <;> cases t <;> cases u <;> decide
/- the links of every distance are a table -/
set_option maxRecDepth 100000 in
set_option maxHeartbeats 4000000 in
theorem linked_ex (X : zX) {n : Nat} (h4 : n ≤ 4) (d : Int32) : ∃ b, b < 64 ∧ linked X n d b := by
  obtain ⟨h0, h1, h2, h3, h5, h6, h7⟩ := tbl_bits (decide (zdist X 0 1 ≤ d)) (decide (zdist X 0 2 ≤ d)) (decide (zdist X 1 2 ≤ d)) (decide (zdist X 0 3 ≤ d)) (decide (zdist X 1 3 ≤ d)) (decide (zdist X 2 3 ≤ d))
  refine ⟨_, h0, ?_⟩
  have hlt : ∀ i j, i < j → j < 4 → (zdist X i j ≤ d ↔ tbl ((decide (zdist X 0 1 ≤ d)).toNat + 2 * (decide (zdist X 0 2 ≤ d)).toNat + 4 * (decide (zdist X 1 2 ≤ d)).toNat + 8 * (decide (zdist X 0 3 ≤ d)).toNat + 16 * (decide (zdist X 1 3 ≤ d)).toNat + 32 * (decide (zdist X 2 3 ≤ d)).toNat) i j = true) := fun i j hij hj => by
    rcases (show (i = 0 ∧ j = 1) ∨ (i = 0 ∧ j = 2) ∨ (i = 1 ∧ j = 2) ∨ (i = 0 ∧ j = 3) ∨ (i = 1 ∧ j = 3) ∨ (i = 2 ∧ j = 3) by omega) with ⟨rfl, rfl⟩ | ⟨rfl, rfl⟩ | ⟨rfl, rfl⟩ | ⟨rfl, rfl⟩ | ⟨rfl, rfl⟩ | ⟨rfl, rfl⟩
    · rw [h1]; exact decide_eq_true_iff.symm
    · rw [h2]; exact decide_eq_true_iff.symm
    · rw [h3]; exact decide_eq_true_iff.symm
    · rw [h5]; exact decide_eq_true_iff.symm
    · rw [h6]; exact decide_eq_true_iff.symm
    · rw [h7]; exact decide_eq_true_iff.symm
  intro i j hi hj hne
  rcases Nat.lt_or_ge i j with h8 | h8
  · exact hlt i j h8 (by omega)
  · rw [zdist_comm, tbl_comm _ hne]
    exact hlt j i (by omega) (by omega)
end
