section
set_option maxRecDepth 100000 in
set_option maxHeartbeats 4000000 in
def gleB (n b b2 : Nat) : Bool := (List.range n).all fun j => (List.range j).all fun i => !(tbl b i j) || tbl b2 i j
set_option maxRecDepth 100000 in
set_option maxHeartbeats 4000000 in
theorem gcn_le4 : ∀ n, n < 5 → ∀ b, b < 64 → gcn n b ≤ 4 := by decide +kernel
set_option maxRecDepth 100000 in
set_option maxHeartbeats 4000000 in
theorem gcn_all : ((List.range 5).all fun n => (List.range 64).all fun b => (List.range 64).all fun b2 => !(gleB n b b2) || Nat.ble (gcn n b2) (gcn n b)) = true := by decide +kernel
set_option maxRecDepth 100000 in
set_option maxHeartbeats 4000000 in
theorem gcn_mono {n b b2 : Nat} (h4 : n ≤ 4) (hb : b < 64) (hb2 : b2 < 64) (h : ∀ i j, i < j → j < n → tbl b i j = true → tbl b2 i j = true) : gcn n b2 ≤ gcn n b := by
  have h1 := List.all_eq_true.mp gcn_all n (List.mem_range.mpr (by omega))
  have h2 := List.all_eq_true.mp h1 b (List.mem_range.mpr hb)
  have h3 := List.all_eq_true.mp h2 b2 (List.mem_range.mpr hb2)
  have h5 : gleB n b b2 = true := by
    unfold gleB
    refine List.all_eq_true.mpr fun j hj => List.all_eq_true.mpr fun i hi => ?_
    have h6 := h i j (List.mem_range.mp hi) (List.mem_range.mp hj)
    cases e : tbl b i j with
    | false => rfl
    | true => rw [h6 e]; rfl
  rw [h5] at h3
  exact Nat.le_of_ble_eq_true (by simpa using h3)
end
