section
set_option maxRecDepth 100000 in
set_option maxHeartbeats 4000000 in
def gleB (n b b2 : Nat) : Bool := (List.range n).all fun j => (List.range j).all fun i => !(tbl b i j) || tbl b2 i j
set_option maxRecDepth 100000 in
set_option maxHeartbeats 4000000 in
theorem gcn_le4 : ∀ n, n < 5 → ∀ b, b < 64 → gcn n b ≤ 4 := by decide +kernel
set_option maxRecDepth 100000 in
set_option maxHeartbeats 4000000 in
theorem gcn_all : ((List.range 5).all fun n => (List.range 64).all fun b => (List.range 64).all fun b2 => !(gleB n b b2) || Nat.ble (gcn n b2) (gcn n b)) = true := by decide +kernel
set_option maxRecDepth 100000 in
set_option maxHeartbeats 4000000 in
theorem gcn_mono {n b b2 : Nat} (h4 : n ≤ 4) (hb : b < 64) (hb2 : b2 < 64) (h : ∀ i j, i < j → j < n → tbl b i j = true → tbl b2 i j = true) : gcn n b2 ≤ gcn n b := by
  have h1 := List.all_eq_true.mp gcn_all n (List.mem_range.mpr (by omega))
  have h2 := List.all_eq_true.mp h1 b (List.mem_range.mpr hb)
  have h3 := List.all_eq_true.mp h2 b2 (List.mem_range.mpr hb2)
  have h5 : gleB n b b2 = true := by
    unfold gleB
    refine List.all_eq_true.mpr fun j hj => List.all_eq_true.mpr fun i hi => ?_
    have h6 := h i j (List.mem_range.mp hi) (List.mem_range.mp hj)
    cases e : tbl b i j with
    | false => rfl
    | true => rw [h6 e]; rfl
  rw [h5] at h3
  exact Nat.le_of_ble_eq_true (by simpa using h3)
variable {X X1 : zX}
set_option maxRecDepth 100000 in
set_option maxHeartbeats 4000000 in
theorem rfirst_congr {p q : Nat → Prop} [DecidablePred p] [DecidablePred q] (h : ∀ j, p j ↔ q j) : ∀ (m i : Nat), rfirst p i m = rfirst q i m
  | 0, _ => rfl
  | m + 1, i => by
    rw [rfirst, rfirst, rfirst_congr h m (i + 1)]
    by_cases hp : p i
    · rw [if_pos hp, if_pos ((h i).mp hp)]
    · rw [if_neg hp, if_neg fun h9 => hp ((h i).mpr h9)]
set_option maxRecDepth 100000 in
set_option maxHeartbeats 4000000 in
theorem pover_keep (hk : keep0 X X1) (s l t w h : Int32) (k : Nat) : pover X1 s l t w h k ↔ pover X s l t w h k := by
  have e0 := keep0_f hk (r := 0) (by omega) k
  have e1 := keep0_f hk (r := 1) (by omega) k
  have e2 := keep0_f hk (r := 2) (by omega) k
  have e3 := keep0_f hk (r := 3) (by omega) k
  unfold pover
  rw [e0, e1, e2, e3]
set_option maxRecDepth 100000 in
set_option maxHeartbeats 4000000 in
theorem mvh_1 {n k : Nat} {l t : Int32} (h : ¬ X.2.1 4 k = 0) : mvh X n k l t = 108 := by
  unfold mvh
  exact if_pos h
set_option maxRecDepth 100000 in
set_option maxHeartbeats 4000000 in
theorem mvh_2 {n k : Nat} {l t : Int32} (h : X.2.1 4 k = 0) (h2 : ¬ (zon 200 l (X.2.1 1 k) ∧ zon 120 t (X.2.1 3 k))) : mvh X n k l t = 115 := by
  unfold mvh
  exact (if_neg fun h9 => h9 h).trans (if_pos h2)
set_option maxRecDepth 100000 in
set_option maxHeartbeats 4000000 in
theorem mvh_3 {n k : Nat} {l t : Int32} (h : X.2.1 4 k = 0) (h2 : zon 200 l (X.2.1 1 k) ∧ zon 120 t (X.2.1 3 k)) : mvh X n k l t = if rfirst (pover X (nI k) l t (X.2.1 1 k) (X.2.1 3 k)) 0 n = -1 then 110 else 111 := by
  unfold mvh
  exact (if_neg fun h9 => h9 h).trans (if_neg fun h9 => h9 h2)
set_option maxRecDepth 100000 in
set_option maxHeartbeats 4000000 in
theorem mvh_keep {n k : Nat} {l t : Int32} (hk : keep0 X X1) : mvh X1 n k l t = mvh X n k l t := by
  have e1 := keep0_f hk (r := 1) (by omega) k
  have e3 := keep0_f hk (r := 3) (by omega) k
  have e4 := keep0_f hk (r := 4) (by omega) k
  have er : rfirst (pover X1 (nI k) l t (X1.2.1 1 k) (X1.2.1 3 k)) 0 n = rfirst (pover X (nI k) l t (X.2.1 1 k) (X.2.1 3 k)) 0 n := by
    rw [e1, e3]
    exact rfirst_congr (pover_keep hk _ _ _ _ _) n 0
  by_cases h1 : X.2.1 4 k = 0
  · by_cases h2 : zon 200 l (X.2.1 1 k) ∧ zon 120 t (X.2.1 3 k)
    · rw [mvh_3 h1 h2, mvh_3 (e4.trans h1) (by rw [e1, e3]; exact h2), er]
    · rw [mvh_2 h1 h2, mvh_2 (e4.trans h1) (by rw [e1, e3]; exact h2)]
  · rw [mvh_1 h1, mvh_1 (fun h9 => h1 (e4.symm.trans h9))]
end
