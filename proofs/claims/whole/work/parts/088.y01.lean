section
variable {G : zG} {X X1 : zX} {Y : zY} {O : zO}
/- the reference's state speaks of the same slide -/
set_option maxRecDepth 100000 in
set_option maxHeartbeats 4000000 in
def rel (X : zX) (Y : zY) (n nw : Nat) : Prop := Y.2.1 1 = nI n ∧ Y.2.1 2 = nI nw ∧ (∀ k, k < n → Y.1 0 (2 * k) = X.2.1 0 k ∧ Y.1 0 (2 * k + 1) = X.2.1 2 k ∧ Y.1 1 (2 * k) = X.2.1 1 k ∧ Y.1 1 (2 * k + 1) = X.2.1 3 k ∧ Y.1 2 k = X.2.1 5 k ∧ Y.1 3 k = X.2.1 4 k) ∧ (∀ k, n ≤ k → k < 4 → Y.1 2 k = 0 ∧ Y.1 3 k = 0) ∧ (∀ w, w < nw → Y.1 4 w = X.2.1 6 w ∧ Y.1 5 w = X.2.1 7 w ∧ Y.1 6 w = X.2.1 8 w ∧ Y.1 7 w = X.2.1 9 w ∧ Y.1 8 w = X.2.1 10 w) ∧ (∀ w, nw ≤ w → w < 8 → Y.1 8 w = 0) ∧ Y.2.2 = X.2.2.2 ∧ n ≤ 4 ∧ nw ≤ 8
set_option maxRecDepth 100000 in
set_option maxHeartbeats 4000000 in
theorem rel_thr {n nw : Nat} (h : rel X Y n nw) (v : Int32) : rel X (yint Y 0 v) n nw := h
set_option maxRecDepth 100000 in
set_option maxHeartbeats 4000000 in
theorem rel_4 {n nw : Nat} (h : rel X Y n nw) : n ≤ 4 := h.2.2.2.2.2.2.2.1
set_option maxRecDepth 100000 in
set_option maxHeartbeats 4000000 in
theorem rel_8 {n nw : Nat} (h : rel X Y n nw) : nw ≤ 8 := h.2.2.2.2.2.2.2.2
/- what lasts of the reference between calls -/
set_option maxRecDepth 100000 in
set_option maxHeartbeats 4000000 in
def keepY (Y Y2 : zY) : Prop := (∀ j, j ≤ 8 → Y2.1 j = Y.1 j) ∧ Y2.2.1 1 = Y.2.1 1 ∧ Y2.2.1 2 = Y.2.1 2 ∧ Y2.2.2 = Y.2.2
set_option maxRecDepth 100000 in
set_option maxHeartbeats 4000000 in
theorem keepY_refl (Y : zY) : keepY Y Y := ⟨fun _ _ => rfl, rfl, rfl, rfl⟩
set_option maxRecDepth 100000 in
set_option maxHeartbeats 4000000 in
theorem keepY_trans {Y Y2 Y3 : zY} (h : keepY Y Y2) (h2 : keepY Y2 Y3) : keepY Y Y3 := ⟨fun j hj => (h2.1 j hj).trans (h.1 j hj), h2.2.1.trans h.2.1, h2.2.2.1.trans h.2.2.1, h2.2.2.2.trans h.2.2.2⟩
set_option maxRecDepth 100000 in
set_option maxHeartbeats 4000000 in
theorem keepY_arr {Y Y2 : zY} (h : keepY Y Y2) {j : Nat} (hj : 9 ≤ j) (f : Nat → Int32) : keepY Y (yarr Y2 j f) := ⟨fun i hi => (if_neg (by omega)).trans (h.1 i hi), h.2⟩
set_option maxRecDepth 100000 in
set_option maxHeartbeats 4000000 in
theorem keepY_int {Y Y2 : zY} (h : keepY Y Y2) {j : Nat} (hj : j = 0 ∨ 3 ≤ j) (v : Int32) : keepY Y (yint Y2 j v) := ⟨h.1, (if_neg (by omega)).trans h.2.1, (if_neg (by omega)).trans h.2.2.1, h.2.2.2⟩
set_option maxRecDepth 100000 in
set_option maxHeartbeats 4000000 in
theorem rel_kY {n nw : Nat} {Y2 : zY} (h : rel X Y n nw) (hk : keepY Y Y2) : rel X Y2 n nw := by
  obtain ⟨h1, h2, h3, h4, h5, h6, h7, h8, h9⟩ := h
  obtain ⟨k1, k2, k3, k4⟩ := hk
  unfold rel
  rw [k1 0 (by omega), k1 1 (by omega), k1 2 (by omega), k1 3 (by omega), k1 4 (by omega), k1 5 (by omega), k1 6 (by omega), k1 7 (by omega), k1 8 (by omega), k2, k3, k4]
  exact ⟨h1, h2, h3, h4, h5, h6, h7, h8, h9⟩
set_option maxRecDepth 100000 in
set_option maxHeartbeats 4000000 in
theorem rel_keep {n nw : Nat} {X2 : zX} (h : rel X Y n nw) (hk : keep0 X X2) : rel X2 Y n nw := by
  obtain ⟨h1, h2, h3, h4, h5, h6, h7, h8, h9⟩ := h
  unfold rel
  rw [(hk.1 0 (by omega)).2, (hk.1 1 (by omega)).2, (hk.1 2 (by omega)).2, (hk.1 3 (by omega)).2, (hk.1 4 (by omega)).2, (hk.1 5 (by omega)).2, (hk.1 6 (by omega)).2, (hk.1 7 (by omega)).2, (hk.1 8 (by omega)).2, (hk.1 9 (by omega)).2, (hk.1 10 (by omega)).2, hk.2]
  exact ⟨h1, h2, h3, h4, h5, h6, h7, h8, h9⟩
set_option maxRecDepth 100000 in
set_option maxHeartbeats 4000000 in
theorem rel_s {n nw k t : Nat} (h : rel X Y n nw) (hk : k < n) (ht : t < 2) : Y.1 0 (2 * k + t) = X.2.1 (2 * t) k := by
  have h2 := h.2.2.1 k hk
  rcases (show t = 0 ∨ t = 1 by omega) with rfl | rfl
  · exact h2.1
  · exact h2.2.1
set_option maxRecDepth 100000 in
set_option maxHeartbeats 4000000 in
theorem rel_z {n nw k t : Nat} (h : rel X Y n nw) (hk : k < n) (ht : t < 2) : Y.1 1 (2 * k + t) = X.2.1 (2 * t + 1) k := by
  have h2 := h.2.2.1 k hk
  rcases (show t = 0 ∨ t = 1 by omega) with rfl | rfl
  · exact h2.2.2.1
  · exact h2.2.2.2.1
set_option maxRecDepth 100000 in
set_option maxHeartbeats 4000000 in
theorem imax_le {x y : Int32} (h : x ≤ y) : y = imax x y := by
  unfold imax; split
  · rfl
  · rename_i h2; exact Int32.le_antisymm (Int32.not_lt.mp h2) h
set_option maxRecDepth 100000 in
set_option maxHeartbeats 4000000 in
theorem imax_gt {x y : Int32} (h : ¬ x ≤ y) : x = imax x y := by
  unfold imax; rw [if_neg]; intro h2; exact h (Int32.le_of_lt h2)
set_option maxRecDepth 100000 in
set_option maxHeartbeats 4000000 in
theorem ix2 (k t : Nat) : 2 * nI k + nI t = nI (2 * k + t) := by rw [show (2 : Int32) = nI 2 from rfl, nI_mul, nI_add]
set_option maxRecDepth 100000 in
set_option maxHeartbeats 4000000 in
theorem nosh_in {n k : Nat} (h4 : n ≤ 8) (hk : k < n) : ¬ nI k < 0 ∧ ¬ nI n - 1 < nI k := by
  obtain ⟨m, rfl⟩ : ∃ m, n = m + 1 := ⟨n - 1, by omega⟩
  refine ⟨nI_pos (by omega), ?_⟩
  rw [nI_pred]
  exact nI_nlt (by omega) (by omega)
set_option maxRecDepth 100000 in
set_option maxHeartbeats 4000000 in
theorem nosh_out {n : Nat} {s : Int32} (h4 : n ≤ 8) (h : s < 0 ∨ nI n ≤ s) : ¬ (¬ s < 0 ∧ ¬ nI n - 1 < s) := by
  rintro ⟨h1, h2⟩
  have h3 := h.resolve_left h1
  apply h2
  rw [Int32.lt_iff_toInt_lt]
  rw [Int32.le_iff_toInt_le, nI_toInt (by omega)] at h3
  have e : (nI n - 1).toInt = (n : Int) - 1 := by
    rcases (show n = 0 ∨ n = 1 ∨ n = 2 ∨ n = 3 ∨ n = 4 ∨ n = 5 ∨ n = 6 ∨ n = 7 ∨ n = 8 by omega) with rfl | rfl | rfl | rfl | rfl | rfl | rfl | rfl | rfl <;> decide
  omega
set_option maxRecDepth 100000 in
set_option maxHeartbeats 4000000 in
theorem c_X9_in {v lo hi : Int32} : ZM G mX9_in 0 0 0 [.int v, .int lo, .int hi] (zw X1 Y O) (zEq (some (.int (zb (¬ v < lo ∧ ¬ hi < v)))) (zw X1 Y O)) := by
  refine ZM.go pX9 rfl rfl (zle rfl) (zl := [some (.int v), some (.int lo), some (.int hi)]) rfl ?_
  refine z_iload_n (i := 0) dX9_in_0 rfl rfl (q := 1) rfl ?_
  refine z_iload_n (i := 1) dX9_in_1 rfl rfl (q := 2) rfl ?_
  refine z_icmp_lt (tgt := 14) dX9_in_2 (by decide) (q := 5) rfl (fun h2 => ?_) (fun h2 => ?_)
  · refine z_iconst (v := 0) dX9_in_14 rfl (q := 15) rfl ?_
    exact z_zret dX9_in_15 rfl (by first | rfl | assumption | decide) ⟨zle rfl, zle rfl⟩ (by first | exact zr1 ⟨by assumption, by assumption⟩ | exact zr0 (fun h9 => h9.1 (by assumption)) | exact zr0 (fun h9 => h9.2 (by assumption)))
  · refine z_iload_n (i := 0) dX9_in_5 rfl rfl (q := 6) rfl ?_
    refine z_iload_n (i := 2) dX9_in_6 rfl rfl (q := 7) rfl ?_
    refine z_icmp_gt (tgt := 14) dX9_in_7 (by decide) (q := 10) rfl (fun h7 => ?_) (fun h7 => ?_)
    · refine z_iconst (v := 0) dX9_in_14 rfl (q := 15) rfl ?_
      exact z_zret dX9_in_15 rfl (by first | rfl | assumption | decide) ⟨zle rfl, zle rfl⟩ (by first | exact zr1 ⟨by assumption, by assumption⟩ | exact zr0 (fun h9 => h9.1 (by assumption)) | exact zr0 (fun h9 => h9.2 (by assumption)))
    · refine z_iconst (v := 1) dX9_in_10 rfl (q := 11) rfl ?_
      refine z_goto (tgt := 15) dX9_in_11 (by decide) ?_
      exact z_zret dX9_in_15 rfl (by first | rfl | assumption | decide) ⟨zle rfl, zle rfl⟩ (by first | exact zr1 ⟨by assumption, by assumption⟩ | exact zr0 (fun h9 => h9.1 (by assumption)) | exact zr0 (fun h9 => h9.2 (by assumption)))
set_option maxRecDepth 100000 in
set_option maxHeartbeats 4000000 in
theorem c_X9_most {x y : Int32} : ZM G mX9_most 0 0 0 [.int x, .int y] (zw X1 Y O) (zEq (some (.int (imax x y))) (zw X1 Y O)) := by
  refine ZM.go pX9 rfl rfl (zle rfl) (zl := [some (.int x), some (.int y)]) rfl ?_
  refine z_iload_n (i := 0) dX9_most_0 rfl rfl (q := 1) rfl ?_
  refine z_iload_n (i := 1) dX9_most_1 rfl rfl (q := 2) rfl ?_
  refine z_icmp_le (tgt := 9) dX9_most_2 (by decide) (q := 5) rfl (fun h2 => ?_) (fun h2 => ?_)
  · refine z_iload_n (i := 1) dX9_most_9 rfl rfl (q := 10) rfl ?_
    exact z_iret dX9_most_10 rfl ⟨zle rfl, zle rfl⟩ ⟨by first | rw [← imax_le h2] | rw [← imax_gt h2], rfl⟩
  · refine z_iload_n (i := 0) dX9_most_5 rfl rfl (q := 6) rfl ?_
    refine z_goto (tgt := 10) dX9_most_6 (by decide) ?_
    exact z_iret dX9_most_10 rfl ⟨zle rfl, zle rfl⟩ ⟨by first | rw [← imax_le h2] | rw [← imax_gt h2], rfl⟩
set_option maxRecDepth 100000 in
set_option maxHeartbeats 4000000 in
theorem c_X9_without {x : Int32} : ZM G mX9_without 0 0 0 [.int x] (zw X1 Y O) (zEq (some (.int (iabs x))) (zw X1 Y O)) := by
  refine ZM.go pX9 rfl rfl (zle rfl) (zl := [some (.int x)]) rfl ?_
  refine z_iload_n (i := 0) dX9_without_0 rfl rfl (q := 1) rfl ?_
  refine z_if_ge (tgt := 9) dX9_without_1 (by decide) (q := 4) rfl (fun h1 => ?_) (fun h1 => ?_)
  · refine z_iload_n (i := 0) dX9_without_9 rfl rfl (q := 10) rfl ?_
    exact z_iret dX9_without_10 rfl ⟨zle rfl, zle rfl⟩ ⟨by unfold iabs; first | (rw [if_pos (by assumption)]; done) | (rw [if_neg (by assumption), Int32.zero_sub]; done), rfl⟩
  · refine z_iload_n (i := 0) dX9_without_4 rfl rfl (q := 5) rfl ?_
    refine z_ineg dX9_without_5 (q := 6) rfl ?_
    refine z_goto (tgt := 10) dX9_without_6 (by decide) ?_
    exact z_iret dX9_without_10 rfl ⟨zle rfl, zle rfl⟩ ⟨by unfold iabs; first | (rw [if_pos (by assumption)]; done) | (rw [if_neg (by assumption), Int32.zero_sub]; done), rfl⟩
set_option maxRecDepth 100000 in
set_option maxHeartbeats 4000000 in
theorem c_X9_fails_t {e : Int32} (h0 : Y.2.1 0 = 0) (he : ¬ e = 0) : ZM G mX9_fails 0 0 0 [.ref 77, .int 1, .int e] (zw X1 Y O) (zEq (some (.int 1)) (zw X1 (yint Y 0 e) O)) := by
  refine ZM.go pX9 rfl rfl (zle rfl) (zl := [some (.ref 77), some (.int 1), some (.int e)]) rfl ?_
  refine z_iload_n (i := 1) dX9_fails_0 rfl rfl (q := 1) rfl ?_
  refine z_if_eq (tgt := 16) dX9_fails_1 (by decide) (q := 4) rfl (fun h1 => absurd h1 (by decide)) (fun h1 => ?_)
  refine z_aload_n (i := 0) dX9_fails_4 rfl rfl (q := 5) rfl ?_
  refine z_get dX9_fails_5 fX9_60 (wm _ _ _) rfl (q := 8) rfl ?_
  refine z_if_ne (tgt := 16) dX9_fails_8 (by decide) (q := 11) rfl (fun h8 => absurd h0 h8) (fun h8 => ?_)
  refine z_aload_n (i := 0) dX9_fails_11 rfl rfl (q := 12) rfl ?_
  refine z_iload_n (i := 2) dX9_fails_12 rfl rfl (q := 13) rfl ?_
  refine z_put dX9_fails_13 fX9_60 (wm _ _ _) (zle rfl) (zfit_int _) (q := 16) rfl ?_
  refine Z.eqw (wmi_thrown _ _ _ _) ?_
  refine z_aload_n (i := 0) dX9_fails_16 rfl rfl (q := 17) rfl ?_
  refine z_get dX9_fails_17 fX9_60 (wm _ _ _) rfl (q := 20) rfl ?_
  refine z_if_eq (tgt := 27) dX9_fails_20 (by decide) (q := 23) rfl (fun h20 => absurd (show e = 0 from h20) he) (fun h20 => ?_)
  refine z_iconst (v := 1) dX9_fails_23 rfl (q := 24) rfl ?_
  refine z_goto (tgt := 28) dX9_fails_24 (by decide) ?_
  exact z_zret dX9_fails_28 rfl (by first | rfl | assumption | decide) ⟨zle rfl, zle rfl⟩ ⟨rfl, rfl⟩
set_option maxRecDepth 100000 in
set_option maxHeartbeats 4000000 in
theorem c_X9_fails_f {e : Int32} (h0 : Y.2.1 0 = 0) : ZM G mX9_fails 0 0 0 [.ref 77, .int 0, .int e] (zw X1 Y O) (zEq (some (.int 0)) (zw X1 Y O)) := by
  refine ZM.go pX9 rfl rfl (zle rfl) (zl := [some (.ref 77), some (.int 0), some (.int e)]) rfl ?_
  refine z_iload_n (i := 1) dX9_fails_0 rfl rfl (q := 1) rfl ?_
  refine z_if_eq (tgt := 16) dX9_fails_1 (by decide) (q := 4) rfl (fun h1 => ?_) (fun h1 => absurd h1 (by decide))
  refine z_aload_n (i := 0) dX9_fails_16 rfl rfl (q := 17) rfl ?_
  refine z_get dX9_fails_17 fX9_60 (wm _ _ _) rfl (q := 20) rfl ?_
  refine z_if_eq (tgt := 27) dX9_fails_20 (by decide) (q := 23) rfl (fun h20 => ?_) (fun h20 => absurd h0 h20)
  refine z_iconst (v := 0) dX9_fails_27 rfl (q := 28) rfl ?_
  exact z_zret dX9_fails_28 rfl (by first | rfl | assumption | decide) ⟨zle rfl, zle rfl⟩ ⟨rfl, rfl⟩
set_option maxRecDepth 100000 in
set_option maxHeartbeats 4000000 in
theorem c_X9_noShape_in {n nw k : Nat} (hR : rel X Y n nw) (hk : k < n) : ZM G mX9_noShape 1 0 0 [.ref 77, .int (nI k)] (zw X1 Y O) (zEq (some (.int 0)) (zw X1 Y O)) := by
  refine ZM.go pX9 rfl rfl (zle rfl) (zl := [some (.ref 77), some (.int (nI k))]) rfl ?_
  refine z_iload_n (i := 1) dX9_noShape_0 rfl rfl (q := 1) rfl ?_
  refine z_iconst (v := 0) dX9_noShape_1 rfl (q := 2) rfl ?_
  refine z_aload_n (i := 0) dX9_noShape_2 rfl rfl (q := 3) rfl ?_
  refine z_get dX9_noShape_3 fX9_64 (wm _ _ _) rfl (q := 6) rfl ?_
  refine z_iconst (v := 1) dX9_noShape_6 rfl (q := 7) rfl ?_
  refine z_isub dX9_noShape_7 (q := 8) rfl ?_
  rw [hR.1]
  refine z_callSF (As := [_, _, _]) dX9_noShape_8 kX9_67 (c_X9_in ) rfl (zle rfl) ⟨zle rfl, zle rfl⟩ ⟨zle rfl, zle rfl⟩ (q := 11) rfl ?_
  refine z_if_ne (tgt := 18) dX9_noShape_11 (by decide) (q := 14) rfl (fun h11 => ?_) (fun h11 => absurd (nosh_in (Nat.le_trans (rel_4 hR) (by decide)) hk) (zb_0.mp h11))
  refine z_iconst (v := 0) dX9_noShape_18 rfl (q := 19) rfl ?_
  exact z_zret dX9_noShape_19 rfl (by first | rfl | assumption | decide) ⟨zle rfl, zle rfl⟩ ⟨rfl, rfl⟩
set_option maxRecDepth 100000 in
set_option maxHeartbeats 4000000 in
theorem c_X9_noShape_out {n nw : Nat} {s : Int32} (hR : rel X Y n nw) (h : s < 0 ∨ nI n ≤ s) : ZM G mX9_noShape 1 0 0 [.ref 77, .int s] (zw X1 Y O) (zEq (some (.int 1)) (zw X1 Y O)) := by
  refine ZM.go pX9 rfl rfl (zle rfl) (zl := [some (.ref 77), some (.int s)]) rfl ?_
  refine z_iload_n (i := 1) dX9_noShape_0 rfl rfl (q := 1) rfl ?_
  refine z_iconst (v := 0) dX9_noShape_1 rfl (q := 2) rfl ?_
  refine z_aload_n (i := 0) dX9_noShape_2 rfl rfl (q := 3) rfl ?_
  refine z_get dX9_noShape_3 fX9_64 (wm _ _ _) rfl (q := 6) rfl ?_
  refine z_iconst (v := 1) dX9_noShape_6 rfl (q := 7) rfl ?_
  refine z_isub dX9_noShape_7 (q := 8) rfl ?_
  rw [hR.1]
  refine z_callSF (As := [_, _, _]) dX9_noShape_8 kX9_67 (c_X9_in ) rfl (zle rfl) ⟨zle rfl, zle rfl⟩ ⟨zle rfl, zle rfl⟩ (q := 11) rfl ?_
  refine z_if_ne (tgt := 18) dX9_noShape_11 (by decide) (q := 14) rfl (fun h11 => absurd (zb_1.mp h11) (nosh_out (Nat.le_trans (rel_4 hR) (by decide)) h)) (fun h11 => ?_)
  refine z_iconst (v := 1) dX9_noShape_14 rfl (q := 15) rfl ?_
  refine z_goto (tgt := 19) dX9_noShape_15 (by decide) ?_
  exact z_zret dX9_noShape_19 rfl (by first | rfl | assumption | decide) ⟨zle rfl, zle rfl⟩ ⟨rfl, rfl⟩
set_option maxRecDepth 100000 in
set_option maxHeartbeats 4000000 in
theorem c_X9_room {t : Nat} (ht : t < 2) : ZM G mX9_room 0 0 0 [.int (nI t)] (zw X1 Y O) (zEq (some (.int (zlim t))) (zw X1 Y O)) := by
  rcases (show t = 0 ∨ t = 1 by omega) with rfl | rfl
  · refine ZM.go pX9 rfl rfl (zle rfl) (zl := [some (.int (nI 0))]) rfl ?_
    refine z_iload_n (i := 0) dX9_room_0 rfl rfl (q := 1) rfl ?_
    refine z_if_ne (tgt := 10) dX9_room_1 (by decide) (q := 4) rfl (fun h1 => absurd h1 (by decide)) (fun h1 => ?_)
    refine z_sipush (v := 200) dX9_room_4 rfl (q := 7) rfl ?_
    refine z_goto (tgt := 12) dX9_room_7 (by decide) ?_
    exact z_iret dX9_room_12 rfl ⟨zle rfl, zle rfl⟩ ⟨rfl, rfl⟩
  · refine ZM.go pX9 rfl rfl (zle rfl) (zl := [some (.int (nI 1))]) rfl ?_
    refine z_iload_n (i := 0) dX9_room_0 rfl rfl (q := 1) rfl ?_
    refine z_if_ne (tgt := 10) dX9_room_1 (by decide) (q := 4) rfl (fun h1 => ?_) (fun h1 => absurd h1 (by decide))
    refine z_bipush (v := 120) dX9_room_10 rfl (q := 12) rfl ?_
    exact z_iret dX9_room_12 rfl ⟨zle rfl, zle rfl⟩ ⟨rfl, rfl⟩
set_option maxRecDepth 100000 in
set_option maxHeartbeats 4000000 in
theorem c_X9_axisOf {t : Nat} (ht : t < 2) : ZM G mX9_axisOf 0 0 0 [.int (zch t)] (zw X1 Y O) (zEq (some (.int (nI t))) (zw X1 Y O)) := by
  rcases (show t = 0 ∨ t = 1 by omega) with rfl | rfl
  · refine ZM.go pX9 rfl rfl (zle rfl) (zl := [some (.int (zch 0))]) rfl ?_
    refine z_iload_n (i := 0) dX9_axisOf_0 rfl rfl (q := 1) rfl ?_
    refine z_bipush (v := 120) dX9_axisOf_1 rfl (q := 3) rfl ?_
    refine z_icmp_ne (tgt := 10) dX9_axisOf_3 (by decide) (q := 6) rfl (fun h3 => absurd h3 (by decide)) (fun h3 => ?_)
    refine z_iconst (v := 0) dX9_axisOf_6 rfl (q := 7) rfl ?_
    refine z_goto (tgt := 21) dX9_axisOf_7 (by decide) ?_
    exact z_iret dX9_axisOf_21 rfl ⟨zle rfl, zle rfl⟩ ⟨rfl, rfl⟩
  · refine ZM.go pX9 rfl rfl (zle rfl) (zl := [some (.int (zch 1))]) rfl ?_
    refine z_iload_n (i := 0) dX9_axisOf_0 rfl rfl (q := 1) rfl ?_
    refine z_bipush (v := 120) dX9_axisOf_1 rfl (q := 3) rfl ?_
    refine z_icmp_ne (tgt := 10) dX9_axisOf_3 (by decide) (q := 6) rfl (fun h3 => ?_) (fun h3 => absurd h3 (by decide))
    refine z_iload_n (i := 0) dX9_axisOf_10 rfl rfl (q := 11) rfl ?_
    refine z_bipush (v := 121) dX9_axisOf_11 rfl (q := 13) rfl ?_
    refine z_icmp_ne (tgt := 20) dX9_axisOf_13 (by decide) (q := 16) rfl (fun h13 => absurd h13 (by decide)) (fun h13 => ?_)
    refine z_iconst (v := 1) dX9_axisOf_16 rfl (q := 17) rfl ?_
    refine z_goto (tgt := 21) dX9_axisOf_17 (by decide) ?_
    exact z_iret dX9_axisOf_21 rfl ⟨zle rfl, zle rfl⟩ ⟨rfl, rfl⟩
set_option maxRecDepth 100000 in
set_option maxHeartbeats 4000000 in
theorem c_X9_axisOf_no {c : Int32} (h1 : ¬ c = 120) (h2 : ¬ c = 121) : ZM G mX9_axisOf 0 0 0 [.int c] (zw X1 Y O) (zEq (some (.int (-1))) (zw X1 Y O)) := by
  refine ZM.go pX9 rfl rfl (zle rfl) (zl := [some (.int c)]) rfl ?_
  refine z_iload_n (i := 0) dX9_axisOf_0 rfl rfl (q := 1) rfl ?_
  refine z_bipush (v := 120) dX9_axisOf_1 rfl (q := 3) rfl ?_
  refine z_icmp_ne (tgt := 10) dX9_axisOf_3 (by decide) (q := 6) rfl (fun h3 => ?_) (fun h3 => absurd h3 h1)
  refine z_iload_n (i := 0) dX9_axisOf_10 rfl rfl (q := 11) rfl ?_
  refine z_bipush (v := 121) dX9_axisOf_11 rfl (q := 13) rfl ?_
  refine z_icmp_ne (tgt := 20) dX9_axisOf_13 (by decide) (q := 16) rfl (fun h13 => ?_) (fun h13 => absurd h13 h2)
  refine z_iconst (v := (-1)) dX9_axisOf_20 rfl (q := 21) rfl ?_
  exact z_iret dX9_axisOf_21 rfl ⟨zle rfl, zle rfl⟩ ⟨rfl, rfl⟩
set_option maxRecDepth 100000 in
set_option maxHeartbeats 4000000 in
theorem c_X9_at {n nw k t : Nat} (hR : rel X Y n nw) (hk : k < n) (ht : t < 2) : ZM G mX9_at 0 0 0 [.ref 77, .int (nI k), .int (nI t)] (zw X1 Y O) (zEq (some (.int (X.2.1 (2 * t) k))) (zw X1 Y O)) := by
  have h4 := rel_4 hR
  refine ZM.go pX9 rfl rfl (zle rfl) (zl := [some (.ref 77), some (.int (nI k)), some (.int (nI t))]) rfl ?_
  refine z_aload_n (i := 0) dX9_at_0 rfl rfl (q := 1) rfl ?_
  refine z_get dX9_at_1 fX9_7 (wm _ _ _) rfl (q := 4) rfl ?_
  refine z_iconst (v := 2) dX9_at_4 rfl (q := 5) rfl ?_
  refine z_iload_n (i := 1) dX9_at_5 rfl rfl (q := 6) rfl ?_
  refine z_imul dX9_at_6 (q := 7) rfl ?_
  refine z_iload_n (i := 2) dX9_at_7 rfl rfl (q := 8) rfl ?_
  refine z_iadd dX9_at_8 (q := 9) rfl ?_
  rw [ix2]
  refine z_iald dX9_at_9 (wma_start _ _ _) (zin (by omega) (by decide)) (q := 10) rfl ?_
  rw [nI_clamp (by omega), rel_s hR hk ht]
  exact z_iret dX9_at_10 rfl ⟨zle rfl, zle rfl⟩ ⟨rfl, rfl⟩
set_option maxRecDepth 100000 in
set_option maxHeartbeats 4000000 in
theorem c_X9_sizeAt {n nw k t : Nat} (hR : rel X Y n nw) (hk : k < n) (ht : t < 2) : ZM G mX9_sizeAt 0 0 0 [.ref 77, .int (nI k), .int (nI t)] (zw X1 Y O) (zEq (some (.int (X.2.1 (2 * t + 1) k))) (zw X1 Y O)) := by
  have h4 := rel_4 hR
  refine ZM.go pX9 rfl rfl (zle rfl) (zl := [some (.ref 77), some (.int (nI k)), some (.int (nI t))]) rfl ?_
  refine z_aload_n (i := 0) dX9_sizeAt_0 rfl rfl (q := 1) rfl ?_
  refine z_get dX9_sizeAt_1 fX9_13 (wm _ _ _) rfl (q := 4) rfl ?_
  refine z_iconst (v := 2) dX9_sizeAt_4 rfl (q := 5) rfl ?_
  refine z_iload_n (i := 1) dX9_sizeAt_5 rfl rfl (q := 6) rfl ?_
  refine z_imul dX9_sizeAt_6 (q := 7) rfl ?_
  refine z_iload_n (i := 2) dX9_sizeAt_7 rfl rfl (q := 8) rfl ?_
  refine z_iadd dX9_sizeAt_8 (q := 9) rfl ?_
  rw [ix2]
  refine z_iald dX9_sizeAt_9 (wma_size _ _ _) (zin (by omega) (by decide)) (q := 10) rfl ?_
  rw [nI_clamp (by omega), rel_z hR hk ht]
  exact z_iret dX9_sizeAt_10 rfl ⟨zle rfl, zle rfl⟩ ⟨rfl, rfl⟩
set_option maxRecDepth 100000 in
set_option maxHeartbeats 4000000 in
theorem c_X9_at0 {n nw k : Nat} (hR : rel X Y n nw) (hk : k < n) : ZM G mX9_at 0 0 0 [.ref 77, .int (nI k), .int 0] (zw X1 Y O) (zEq (some (.int (X.2.1 0 k))) (zw X1 Y O)) := c_X9_at (t := 0) hR hk (by decide)
set_option maxRecDepth 100000 in
set_option maxHeartbeats 4000000 in
theorem c_X9_at1 {n nw k : Nat} (hR : rel X Y n nw) (hk : k < n) : ZM G mX9_at 0 0 0 [.ref 77, .int (nI k), .int 1] (zw X1 Y O) (zEq (some (.int (X.2.1 2 k))) (zw X1 Y O)) := c_X9_at (t := 1) hR hk (by decide)
set_option maxRecDepth 100000 in
set_option maxHeartbeats 4000000 in
theorem c_X9_sizeAt0 {n nw k : Nat} (hR : rel X Y n nw) (hk : k < n) : ZM G mX9_sizeAt 0 0 0 [.ref 77, .int (nI k), .int 0] (zw X1 Y O) (zEq (some (.int (X.2.1 1 k))) (zw X1 Y O)) := c_X9_sizeAt (t := 0) hR hk (by decide)
set_option maxRecDepth 100000 in
set_option maxHeartbeats 4000000 in
theorem c_X9_sizeAt1 {n nw k : Nat} (hR : rel X Y n nw) (hk : k < n) : ZM G mX9_sizeAt 0 0 0 [.ref 77, .int (nI k), .int 1] (zw X1 Y O) (zEq (some (.int (X.2.1 3 k))) (zw X1 Y O)) := c_X9_sizeAt (t := 1) hR hk (by decide)
set_option maxRecDepth 100000 in
set_option maxHeartbeats 4000000 in
theorem c_X9_isOn {t : Nat} {s z : Int32} (ht : t < 2) : ZM G mX9_isOn 1 0 0 [.int (nI t), .int s, .int z] (zw X1 Y O) (zEq (some (.int (zb (zon (zlim t) s z)))) (zw X1 Y O)) := by
  refine ZM.go pX9 rfl rfl (zle rfl) (zl := [some (.int (nI t)), some (.int s), some (.int z)]) rfl ?_
  refine z_iload_n (i := 1) dX9_isOn_0 rfl rfl (q := 1) rfl ?_
  refine z_if_lt (tgt := 18) dX9_isOn_1 (by decide) (q := 4) rfl (fun h1 => ?_) (fun h1 => ?_)
  · refine z_iconst (v := 0) dX9_isOn_18 rfl (q := 19) rfl ?_
    exact z_zret dX9_isOn_19 rfl (by first | rfl | assumption | decide) ⟨zle rfl, zle rfl⟩ (by first | exact zr1 ⟨by assumption, by assumption⟩ | exact zr0 (fun h9 => h9.1 (by assumption)) | exact zr0 (fun h9 => h9.2 (by assumption)))
  · refine z_iload_n (i := 1) dX9_isOn_4 rfl rfl (q := 5) rfl ?_
    refine z_iload_n (i := 0) dX9_isOn_5 rfl rfl (q := 6) rfl ?_
    refine z_callSF (As := [_]) dX9_isOn_6 kX9_71 (c_X9_room ht) rfl (zle rfl) ⟨zle rfl, zle rfl⟩ ⟨zle rfl, zle rfl⟩ (q := 9) rfl ?_
    refine z_iload_n (i := 2) dX9_isOn_9 rfl rfl (q := 10) rfl ?_
    refine z_isub dX9_isOn_10 (q := 11) rfl ?_
    refine z_icmp_gt (tgt := 18) dX9_isOn_11 (by decide) (q := 14) rfl (fun h11 => ?_) (fun h11 => ?_)
    · refine z_iconst (v := 0) dX9_isOn_18 rfl (q := 19) rfl ?_
      exact z_zret dX9_isOn_19 rfl (by first | rfl | assumption | decide) ⟨zle rfl, zle rfl⟩ (by first | exact zr1 ⟨by assumption, by assumption⟩ | exact zr0 (fun h9 => h9.1 (by assumption)) | exact zr0 (fun h9 => h9.2 (by assumption)))
    · refine z_iconst (v := 1) dX9_isOn_14 rfl (q := 15) rfl ?_
      refine z_goto (tgt := 19) dX9_isOn_15 (by decide) ?_
      exact z_zret dX9_isOn_19 rfl (by first | rfl | assumption | decide) ⟨zle rfl, zle rfl⟩ (by first | exact zr1 ⟨by assumption, by assumption⟩ | exact zr0 (fun h9 => h9.1 (by assumption)) | exact zr0 (fun h9 => h9.2 (by assumption)))
set_option maxRecDepth 100000 in
set_option maxHeartbeats 4000000 in
theorem c_X9_isOn0 {s z : Int32} : ZM G mX9_isOn 1 0 0 [.int 0, .int s, .int z] (zw X1 Y O) (zEq (some (.int (zb (zon 200 s z)))) (zw X1 Y O)) := c_X9_isOn (t := 0) (by decide)
set_option maxRecDepth 100000 in
set_option maxHeartbeats 4000000 in
theorem c_X9_isOn1 {s z : Int32} : ZM G mX9_isOn 1 0 0 [.int 1, .int s, .int z] (zw X1 Y O) (zEq (some (.int (zb (zon 120 s z)))) (zw X1 Y O)) := c_X9_isOn (t := 1) (by decide)
set_option maxRecDepth 100000 in
set_option maxHeartbeats 4000000 in
theorem c_X9_meet {a az b bz : Int32} : ZM G mX9_meet 0 0 0 [.int a, .int az, .int b, .int bz] (zw X1 Y O) (zEq (some (.int (zb (zmeet b bz a az)))) (zw X1 Y O)) := by
  refine ZM.go pX9 rfl rfl (zle rfl) (zl := [some (.int a), some (.int az), some (.int b), some (.int bz)]) rfl ?_
  refine z_iload_n (i := 0) dX9_meet_0 rfl rfl (q := 1) rfl ?_
  refine z_iload_n (i := 2) dX9_meet_1 rfl rfl (q := 2) rfl ?_
  refine z_iload_n (i := 3) dX9_meet_2 rfl rfl (q := 3) rfl ?_
  refine z_iadd dX9_meet_3 (q := 4) rfl ?_
  refine z_icmp_ge (tgt := 18) dX9_meet_4 (by decide) (q := 7) rfl (fun h4 => ?_) (fun h4 => ?_)
  · refine z_iconst (v := 0) dX9_meet_18 rfl (q := 19) rfl ?_
    exact z_zret dX9_meet_19 rfl (by first | rfl | assumption | decide) ⟨zle rfl, zle rfl⟩ (by first | exact zr1 ⟨by assumption, by assumption⟩ | exact zr0 (fun h9 => h9.1 (by assumption)) | exact zr0 (fun h9 => h9.2 (by assumption)))
  · refine z_iload_n (i := 2) dX9_meet_7 rfl rfl (q := 8) rfl ?_
    refine z_iload_n (i := 0) dX9_meet_8 rfl rfl (q := 9) rfl ?_
    refine z_iload_n (i := 1) dX9_meet_9 rfl rfl (q := 10) rfl ?_
    refine z_iadd dX9_meet_10 (q := 11) rfl ?_
    refine z_icmp_ge (tgt := 18) dX9_meet_11 (by decide) (q := 14) rfl (fun h11 => ?_) (fun h11 => ?_)
    · refine z_iconst (v := 0) dX9_meet_18 rfl (q := 19) rfl ?_
      exact z_zret dX9_meet_19 rfl (by first | rfl | assumption | decide) ⟨zle rfl, zle rfl⟩ (by first | exact zr1 ⟨by assumption, by assumption⟩ | exact zr0 (fun h9 => h9.1 (by assumption)) | exact zr0 (fun h9 => h9.2 (by assumption)))
    · refine z_iconst (v := 1) dX9_meet_14 rfl (q := 15) rfl ?_
      refine z_goto (tgt := 19) dX9_meet_15 (by decide) ?_
      exact z_zret dX9_meet_19 rfl (by first | rfl | assumption | decide) ⟨zle rfl, zle rfl⟩ (by first | exact zr1 ⟨by assumption, by assumption⟩ | exact zr0 (fun h9 => h9.1 (by assumption)) | exact zr0 (fun h9 => h9.2 (by assumption)))
set_option maxRecDepth 100000 in
set_option maxHeartbeats 4000000 in
theorem z_X9_overlapped_3 {n nw : Nat} {s l t w h : Int32} (hR : rel X Y n nw) : ∀ (m i : Nat) , i + m = n → Z G mX9_overlapped (zrm 1 0 0) 0 0 3 [some (.ref 77), some (.int s), some (.int l), some (.int t), some (.int w), some (.int h), some (.int (nI i))] [] (zw X1 Y O) (zEq (some (.int (rfirst (pover X s l t w h) i m))) (zw X1 Y O)) := by
  intro m
  induction m with
  | zero =>
    intro i  hi
    have h4 := rel_4 hR
    refine z_iload dX9_overlapped_3 rfl (q := 5) rfl ?_
    refine z_aload_n (i := 0) dX9_overlapped_5 rfl rfl (q := 6) rfl ?_
    refine z_get dX9_overlapped_6 fX9_64 (wm _ _ _) rfl (q := 9) rfl ?_
    rw [hR.1]
    refine z_icmp_ge (tgt := 73) dX9_overlapped_9 (by decide) (q := 12) rfl (fun h9 => ?_) (fun h9 => absurd (zge_t (by omega)) h9)
    refine z_iconst (v := (-1)) dX9_overlapped_73 rfl (q := 74) rfl ?_
    exact z_iret dX9_overlapped_74 rfl ⟨zle rfl, zle rfl⟩ ⟨rfl, rfl⟩
  | succ m ih =>
    intro i  hi
    have h4 := rel_4 hR
    refine z_iload dX9_overlapped_3 rfl (q := 5) rfl ?_
    refine z_aload_n (i := 0) dX9_overlapped_5 rfl rfl (q := 6) rfl ?_
    refine z_get dX9_overlapped_6 fX9_64 (wm _ _ _) rfl (q := 9) rfl ?_
    rw [hR.1]
    refine z_icmp_ge (tgt := 73) dX9_overlapped_9 (by decide) (q := 12) rfl (fun h9 => absurd h9 (zge_f (by omega) (by omega))) (fun h9 => ?_)
    refine z_iload dX9_overlapped_12 rfl (q := 14) rfl ?_
    refine z_iload_n (i := 1) dX9_overlapped_14 rfl rfl (q := 15) rfl ?_
    refine z_icmp_eq (tgt := 67) dX9_overlapped_15 (by decide) (q := 18) rfl (fun h15 => ?_) (fun h15 => ?_)
    · rw [rfirst, if_neg (by first | exact fun h9 => h9.1 h15 | exact fun h9 => h38 h9.2.1 | exact fun h9 => h61 h9.2.2)]
      refine z_iinc dX9_overlapped_67 rfl rfl (zle rfl) rfl (q := 70) rfl ?_
      refine z_goto (tgt := 3) dX9_overlapped_70 (by decide) ?_
      refine Z.eql (zl2 := [some (.ref 77), some (.int s), some (.int l), some (.int t), some (.int w), some (.int h), some (.int (nI (i + 1)))]) (by first | (rw [← nI_1 i]; done) | (rw [← nI_1 i]; rfl)) ?_
      exact ih (i + 1) (by omega)
    · refine z_iload_n (i := 2) dX9_overlapped_18 rfl rfl (q := 19) rfl ?_
      refine z_iload dX9_overlapped_19 rfl (q := 21) rfl ?_
      refine z_aload_n (i := 0) dX9_overlapped_21 rfl rfl (q := 22) rfl ?_
      refine z_iload dX9_overlapped_22 rfl (q := 24) rfl ?_
      refine z_iconst (v := 0) dX9_overlapped_24 rfl (q := 25) rfl ?_
      refine z_callVF (As := [_, _]) dX9_overlapped_25 kX9_75 (c_X9_at0 hR (by omega)) (wm _ _ _) rfl rfl (zle rfl) ⟨zle rfl, zle rfl⟩ ⟨zle rfl, zle rfl⟩ (q := 28) rfl ?_
      refine z_aload_n (i := 0) dX9_overlapped_28 rfl rfl (q := 29) rfl ?_
      refine z_iload dX9_overlapped_29 rfl (q := 31) rfl ?_
      refine z_iconst (v := 0) dX9_overlapped_31 rfl (q := 32) rfl ?_
      refine z_callVF (As := [_, _]) dX9_overlapped_32 kX9_79 (c_X9_sizeAt0 hR (by omega)) (wm _ _ _) rfl rfl (zle rfl) ⟨zle rfl, zle rfl⟩ ⟨zle rfl, zle rfl⟩ (q := 35) rfl ?_
      refine z_callSF (As := [_, _, _, _]) dX9_overlapped_35 kX9_82 (c_X9_meet ) rfl (zle rfl) ⟨zle rfl, zle rfl⟩ ⟨zle rfl, zle rfl⟩ (q := 38) rfl ?_
      refine z_if_eq (tgt := 67) dX9_overlapped_38 (by decide) (q := 41) rfl (fun h38 => ?_) (fun h38 => ?_)
      · replace h38 := zb_0.mp h38
        rw [rfirst, if_neg (by first | exact fun h9 => h9.1 h15 | exact fun h9 => h38 h9.2.1 | exact fun h9 => h61 h9.2.2)]
        refine z_iinc dX9_overlapped_67 rfl rfl (zle rfl) rfl (q := 70) rfl ?_
        refine z_goto (tgt := 3) dX9_overlapped_70 (by decide) ?_
        refine Z.eql (zl2 := [some (.ref 77), some (.int s), some (.int l), some (.int t), some (.int w), some (.int h), some (.int (nI (i + 1)))]) (by first | (rw [← nI_1 i]; done) | (rw [← nI_1 i]; rfl)) ?_
        exact ih (i + 1) (by omega)
      · replace h38 := zb_1.mp h38
        refine z_iload_n (i := 3) dX9_overlapped_41 rfl rfl (q := 42) rfl ?_
        refine z_iload dX9_overlapped_42 rfl (q := 44) rfl ?_
        refine z_aload_n (i := 0) dX9_overlapped_44 rfl rfl (q := 45) rfl ?_
        refine z_iload dX9_overlapped_45 rfl (q := 47) rfl ?_
        refine z_iconst (v := 1) dX9_overlapped_47 rfl (q := 48) rfl ?_
        refine z_callVF (As := [_, _]) dX9_overlapped_48 kX9_75 (c_X9_at1 hR (by omega)) (wm _ _ _) rfl rfl (zle rfl) ⟨zle rfl, zle rfl⟩ ⟨zle rfl, zle rfl⟩ (q := 51) rfl ?_
        refine z_aload_n (i := 0) dX9_overlapped_51 rfl rfl (q := 52) rfl ?_
        refine z_iload dX9_overlapped_52 rfl (q := 54) rfl ?_
        refine z_iconst (v := 1) dX9_overlapped_54 rfl (q := 55) rfl ?_
        refine z_callVF (As := [_, _]) dX9_overlapped_55 kX9_79 (c_X9_sizeAt1 hR (by omega)) (wm _ _ _) rfl rfl (zle rfl) ⟨zle rfl, zle rfl⟩ ⟨zle rfl, zle rfl⟩ (q := 58) rfl ?_
        refine z_callSF (As := [_, _, _, _]) dX9_overlapped_58 kX9_82 (c_X9_meet ) rfl (zle rfl) ⟨zle rfl, zle rfl⟩ ⟨zle rfl, zle rfl⟩ (q := 61) rfl ?_
        refine z_if_eq (tgt := 67) dX9_overlapped_61 (by decide) (q := 64) rfl (fun h61 => ?_) (fun h61 => ?_)
        · replace h61 := zb_0.mp h61
          rw [rfirst, if_neg (by first | exact fun h9 => h9.1 h15 | exact fun h9 => h38 h9.2.1 | exact fun h9 => h61 h9.2.2)]
          refine z_iinc dX9_overlapped_67 rfl rfl (zle rfl) rfl (q := 70) rfl ?_
          refine z_goto (tgt := 3) dX9_overlapped_70 (by decide) ?_
          refine Z.eql (zl2 := [some (.ref 77), some (.int s), some (.int l), some (.int t), some (.int w), some (.int h), some (.int (nI (i + 1)))]) (by first | (rw [← nI_1 i]; done) | (rw [← nI_1 i]; rfl)) ?_
          exact ih (i + 1) (by omega)
        · replace h61 := zb_1.mp h61
          refine z_iload dX9_overlapped_64 rfl (q := 66) rfl ?_
          exact z_iret dX9_overlapped_66 rfl ⟨zle rfl, zle rfl⟩ ⟨by rw [rfirst, if_pos ⟨h15, h38, h61⟩], rfl⟩
set_option maxRecDepth 100000 in
set_option maxHeartbeats 4000000 in
theorem c_X9_overlapped {n nw : Nat} {s l t w h : Int32} (hR : rel X Y n nw) : ZM G mX9_overlapped 1 0 0 [.ref 77, .int s, .int l, .int t, .int w, .int h] (zw X1 Y O) (zEq (some (.int (rfirst (pover X s l t w h) 0 n))) (zw X1 Y O)) := by
  refine ZM.go pX9 rfl rfl (zle rfl) (zl := [some (.ref 77), some (.int s), some (.int l), some (.int t), some (.int w), some (.int h), none]) rfl ?_
  refine z_iconst (v := 0) dX9_overlapped_0 rfl (q := 1) rfl ?_
  refine z_istore dX9_overlapped_1 (zle rfl) rfl (q := 3) rfl ?_
  exact z_X9_overlapped_3 hR n 0 (by omega)
set_option maxRecDepth 100000 in
set_option maxHeartbeats 4000000 in
theorem c_X9_moveNow {n nw k : Nat} (hR : rel X Y n nw) (hk : k < n) {l t : Int32} : ZM G mX9_moveNow 2 0 0 [.ref 77, .int (nI k), .int l, .int t] (zw X1 Y O) (zEq (some (.int (mvh X n k l t))) (zw X1 Y O)) := by
  have h4 := rel_4 hR
  refine ZM.go pX9 rfl rfl (zle rfl) (zl := [some (.ref 77), some (.int (nI k)), some (.int l), some (.int t)]) rfl ?_
  refine z_aload_n (i := 0) dX9_moveNow_0 rfl rfl (q := 1) rfl ?_
  refine z_get dX9_moveNow_1 fX9_19 (wm _ _ _) rfl (q := 4) rfl ?_
  refine z_iload_n (i := 1) dX9_moveNow_4 rfl rfl (q := 5) rfl ?_
  refine z_zald dX9_moveNow_5 (wma_isLocked _ _ _) (zin (by omega) (by decide)) (q := 6) rfl ?_
  rw [nI_clamp (by omega), (hR.2.2.1 k hk).2.2.2.2.2]
  refine z_if_eq (tgt := 12) dX9_moveNow_6 (by decide) (q := 9) rfl (fun h6 => ?_) (fun h6 => ?_)
  · refine z_iconst (v := 0) dX9_moveNow_12 rfl (q := 13) rfl ?_
    refine z_iload_n (i := 2) dX9_moveNow_13 rfl rfl (q := 14) rfl ?_
    refine z_aload_n (i := 0) dX9_moveNow_14 rfl rfl (q := 15) rfl ?_
    refine z_iload_n (i := 1) dX9_moveNow_15 rfl rfl (q := 16) rfl ?_
    refine z_iconst (v := 0) dX9_moveNow_16 rfl (q := 17) rfl ?_
    refine z_callVF (As := [_, _]) dX9_moveNow_17 kX9_79 (c_X9_sizeAt0 hR (by omega)) (wm _ _ _) rfl rfl (zle rfl) ⟨zle rfl, zle rfl⟩ ⟨zle rfl, zle rfl⟩ (q := 20) rfl ?_
    refine z_callSF (As := [_, _, _]) dX9_moveNow_20 kX9_86 (c_X9_isOn0) rfl (zle rfl) ⟨zle rfl, zle rfl⟩ ⟨zle rfl, zle rfl⟩ (q := 23) rfl ?_
    refine z_if_eq (tgt := 40) dX9_moveNow_23 (by decide) (q := 26) rfl (fun h23 => ?_) (fun h23 => ?_)
    · replace h23 := zb_0.mp h23
      refine z_bipush (v := 115) dX9_moveNow_40 rfl (q := 42) rfl ?_
      exact z_zret dX9_moveNow_42 rfl rfl ⟨zle rfl, zle rfl⟩ (by constructor <;> simp_all [mvh, zon, zlim, -Int32.not_le, -Int32.not_lt])
    · replace h23 := zb_1.mp h23
      refine z_iconst (v := 1) dX9_moveNow_26 rfl (q := 27) rfl ?_
      refine z_iload_n (i := 3) dX9_moveNow_27 rfl rfl (q := 28) rfl ?_
      refine z_aload_n (i := 0) dX9_moveNow_28 rfl rfl (q := 29) rfl ?_
      refine z_iload_n (i := 1) dX9_moveNow_29 rfl rfl (q := 30) rfl ?_
      refine z_iconst (v := 1) dX9_moveNow_30 rfl (q := 31) rfl ?_
      refine z_callVF (As := [_, _]) dX9_moveNow_31 kX9_79 (c_X9_sizeAt1 hR (by omega)) (wm _ _ _) rfl rfl (zle rfl) ⟨zle rfl, zle rfl⟩ ⟨zle rfl, zle rfl⟩ (q := 34) rfl ?_
      refine z_callSF (As := [_, _, _]) dX9_moveNow_34 kX9_86 (c_X9_isOn1) rfl (zle rfl) ⟨zle rfl, zle rfl⟩ ⟨zle rfl, zle rfl⟩ (q := 37) rfl ?_
      refine z_if_ne (tgt := 43) dX9_moveNow_37 (by decide) (q := 40) rfl (fun h37 => ?_) (fun h37 => ?_)
      · replace h37 := zb_1.mp h37
        refine z_aload_n (i := 0) dX9_moveNow_43 rfl rfl (q := 44) rfl ?_
        refine z_iload_n (i := 1) dX9_moveNow_44 rfl rfl (q := 45) rfl ?_
        refine z_iload_n (i := 2) dX9_moveNow_45 rfl rfl (q := 46) rfl ?_
        refine z_iload_n (i := 3) dX9_moveNow_46 rfl rfl (q := 47) rfl ?_
        refine z_aload_n (i := 0) dX9_moveNow_47 rfl rfl (q := 48) rfl ?_
        refine z_iload_n (i := 1) dX9_moveNow_48 rfl rfl (q := 49) rfl ?_
        refine z_iconst (v := 0) dX9_moveNow_49 rfl (q := 50) rfl ?_
        refine z_callVF (As := [_, _]) dX9_moveNow_50 kX9_79 (c_X9_sizeAt0 hR (by omega)) (wm _ _ _) rfl rfl (zle rfl) ⟨zle rfl, zle rfl⟩ ⟨zle rfl, zle rfl⟩ (q := 53) rfl ?_
        refine z_aload_n (i := 0) dX9_moveNow_53 rfl rfl (q := 54) rfl ?_
        refine z_iload_n (i := 1) dX9_moveNow_54 rfl rfl (q := 55) rfl ?_
        refine z_iconst (v := 1) dX9_moveNow_55 rfl (q := 56) rfl ?_
        refine z_callVF (As := [_, _]) dX9_moveNow_56 kX9_79 (c_X9_sizeAt1 hR (by omega)) (wm _ _ _) rfl rfl (zle rfl) ⟨zle rfl, zle rfl⟩ ⟨zle rfl, zle rfl⟩ (q := 59) rfl ?_
        refine z_callVF (As := [_, _, _, _, _]) dX9_moveNow_59 kX9_93 (c_X9_overlapped hR) (wm _ _ _) rfl rfl (zle rfl) ⟨zle rfl, zle rfl⟩ ⟨zle rfl, zle rfl⟩ (q := 62) rfl ?_
        refine z_iconst (v := (-1)) dX9_moveNow_62 rfl (q := 63) rfl ?_
        refine z_icmp_ne (tgt := 71) dX9_moveNow_63 (by decide) (q := 66) rfl (fun h63 => ?_) (fun h63 => ?_)
        · refine z_bipush (v := 111) dX9_moveNow_71 rfl (q := 73) rfl ?_
          exact z_zret dX9_moveNow_73 rfl rfl ⟨zle rfl, zle rfl⟩ (by constructor <;> simp_all [mvh, zon, zlim, -Int32.not_le, -Int32.not_lt])
        · refine z_bipush (v := 110) dX9_moveNow_66 rfl (q := 68) rfl ?_
          refine z_goto (tgt := 73) dX9_moveNow_68 (by decide) ?_
          exact z_zret dX9_moveNow_73 rfl rfl ⟨zle rfl, zle rfl⟩ (by constructor <;> simp_all [mvh, zon, zlim, -Int32.not_le, -Int32.not_lt])
      · replace h37 := zb_0.mp h37
        refine z_bipush (v := 115) dX9_moveNow_40 rfl (q := 42) rfl ?_
        exact z_zret dX9_moveNow_42 rfl rfl ⟨zle rfl, zle rfl⟩ (by constructor <;> simp_all [mvh, zon, zlim, -Int32.not_le, -Int32.not_lt])
  · refine z_bipush (v := 108) dX9_moveNow_9 rfl (q := 11) rfl ?_
    exact z_zret dX9_moveNow_11 rfl rfl ⟨zle rfl, zle rfl⟩ (by constructor <;> simp_all [mvh, zon, zlim, -Int32.not_le, -Int32.not_lt])
set_option maxRecDepth 100000 in
set_option maxHeartbeats 4000000 in
theorem c_X9_needed {n nw k : Nat} (hR : rel X Y n nw) (hk : k < n) (hw : 1 ≤ X.2.1 1 k / 2) : ZM G mX9_needed 1 0 0 [.ref 77, .int (nI k)] (zw X1 Y O) (zEq (some (.int (zneed (X.2.1 1 k) (X.2.1 5 k)))) (zw X1 Y O)) := by
  have h4 := rel_4 hR
  refine ZM.go pX9 rfl rfl (zle rfl) (zl := [some (.ref 77), some (.int (nI k)), none]) rfl ?_
  refine z_aload_n (i := 0) dX9_needed_0 rfl rfl (q := 1) rfl ?_
  refine z_iload_n (i := 1) dX9_needed_1 rfl rfl (q := 2) rfl ?_
  refine z_iconst (v := 0) dX9_needed_2 rfl (q := 3) rfl ?_
  refine z_callVF (As := [_, _]) dX9_needed_3 kX9_79 (c_X9_sizeAt0 hR (by omega)) (wm _ _ _) rfl rfl (zle rfl) ⟨zle rfl, zle rfl⟩ ⟨zle rfl, zle rfl⟩ (q := 6) rfl ?_
  refine z_iconst (v := 2) dX9_needed_6 rfl (q := 7) rfl ?_
  refine z_idiv dX9_needed_7 (by decide) (q := 8) rfl ?_
  refine z_istore_n (i := 2) dX9_needed_8 rfl (zle rfl) rfl (q := 9) rfl ?_
  refine z_iconst (v := 5) dX9_needed_9 rfl (q := 10) rfl ?_
  refine z_aload_n (i := 0) dX9_needed_10 rfl rfl (q := 11) rfl ?_
  refine z_get dX9_needed_11 fX9_16 (wm _ _ _) rfl (q := 14) rfl ?_
  refine z_iload_n (i := 1) dX9_needed_14 rfl rfl (q := 15) rfl ?_
  refine z_iald dX9_needed_15 (wma_letters _ _ _) (zin (by omega) (by decide)) (q := 16) rfl ?_
  rw [nI_clamp (by omega), (hR.2.2.1 k hk).2.2.2.2.1]
  refine z_iload_n (i := 2) dX9_needed_16 rfl rfl (q := 17) rfl ?_
  refine z_iadd dX9_needed_17 (q := 18) rfl ?_
  refine z_iconst (v := 1) dX9_needed_18 rfl (q := 19) rfl ?_
  refine z_isub dX9_needed_19 (q := 20) rfl ?_
  refine z_iload_n (i := 2) dX9_needed_20 rfl rfl (q := 21) rfl ?_
  refine z_idiv dX9_needed_21 (fun h0 => absurd hw (by rw [show X.2.1 1 k / 2 = 0 from h0]; decide)) (q := 22) rfl ?_
  refine z_imul dX9_needed_22 (q := 23) rfl ?_
  exact z_iret dX9_needed_23 rfl ⟨zle rfl, zle rfl⟩ ⟨by unfold zneed; rw [Int32.mul_comm], rfl⟩
set_option maxRecDepth 100000 in
set_option maxHeartbeats 4000000 in
theorem c_X9_fitsNow {n nw k : Nat} (hR : rel X Y n nw) (hk : k < n) (hw : 1 ≤ X.2.1 1 k / 2) : ZM G mX9_fitsNow 2 0 0 [.ref 77, .int (nI k)] (zw X1 Y O) (zEq (some (.int (zb (zneed (X.2.1 1 k) (X.2.1 5 k) ≤ X.2.1 3 k)))) (zw X1 Y O)) := by
  have h4 := rel_4 hR
  refine ZM.go pX9 rfl rfl (zle rfl) (zl := [some (.ref 77), some (.int (nI k))]) rfl ?_
  refine z_aload_n (i := 0) dX9_fitsNow_0 rfl rfl (q := 1) rfl ?_
  refine z_iload_n (i := 1) dX9_fitsNow_1 rfl rfl (q := 2) rfl ?_
  refine z_callVF (As := [_]) dX9_fitsNow_2 kX9_116 (c_X9_needed hR hk hw) (wm _ _ _) rfl rfl (zle rfl) ⟨zle rfl, zle rfl⟩ ⟨zle rfl, zle rfl⟩ (q := 5) rfl ?_
  refine z_aload_n (i := 0) dX9_fitsNow_5 rfl rfl (q := 6) rfl ?_
  refine z_iload_n (i := 1) dX9_fitsNow_6 rfl rfl (q := 7) rfl ?_
  refine z_iconst (v := 1) dX9_fitsNow_7 rfl (q := 8) rfl ?_
  refine z_callVF (As := [_, _]) dX9_fitsNow_8 kX9_79 (c_X9_sizeAt1 hR (by omega)) (wm _ _ _) rfl rfl (zle rfl) ⟨zle rfl, zle rfl⟩ ⟨zle rfl, zle rfl⟩ (q := 11) rfl ?_
  refine z_icmp_gt (tgt := 18) dX9_fitsNow_11 (by decide) (q := 14) rfl (fun h11 => ?_) (fun h11 => ?_)
  · refine z_iconst (v := 0) dX9_fitsNow_18 rfl (q := 19) rfl ?_
    exact z_zret dX9_fitsNow_19 rfl rfl ⟨zle rfl, zle rfl⟩ (by first | exact zr1 (Int32.not_lt.mp (by assumption)) | exact zr0 (Int32.not_le.mpr (by assumption)))
  · refine z_iconst (v := 1) dX9_fitsNow_14 rfl (q := 15) rfl ?_
    refine z_goto (tgt := 19) dX9_fitsNow_15 (by decide) ?_
    exact z_zret dX9_fitsNow_19 rfl rfl ⟨zle rfl, zle rfl⟩ (by first | exact zr1 (Int32.not_lt.mp (by assumption)) | exact zr0 (Int32.not_le.mpr (by assumption)))
set_option maxRecDepth 100000 in
set_option maxHeartbeats 4000000 in
theorem c_X9_way {n nw k : Nat} (hR : rel X Y n nw) (hk : k < n) (hw : 1 ≤ X.2.1 1 k / 2) : ZM G mX9_way 2 0 0 [.ref 77, .int (nI k)] (zw X1 Y O) (zEq (some (.int (rfirst (pover X (nI k) (X.2.1 0 k) (X.2.1 2 k) (X.2.1 1 k) (zneed (X.2.1 1 k) (X.2.1 5 k))) 0 n))) (zw X1 Y O)) := by
  have h4 := rel_4 hR
  refine ZM.go pX9 rfl rfl (zle rfl) (zl := [some (.ref 77), some (.int (nI k))]) rfl ?_
  refine z_aload_n (i := 0) dX9_way_0 rfl rfl (q := 1) rfl ?_
  refine z_iload_n (i := 1) dX9_way_1 rfl rfl (q := 2) rfl ?_
  refine z_aload_n (i := 0) dX9_way_2 rfl rfl (q := 3) rfl ?_
  refine z_iload_n (i := 1) dX9_way_3 rfl rfl (q := 4) rfl ?_
  refine z_iconst (v := 0) dX9_way_4 rfl (q := 5) rfl ?_
  refine z_callVF (As := [_, _]) dX9_way_5 kX9_75 (c_X9_at0 hR (by omega)) (wm _ _ _) rfl rfl (zle rfl) ⟨zle rfl, zle rfl⟩ ⟨zle rfl, zle rfl⟩ (q := 8) rfl ?_
  refine z_aload_n (i := 0) dX9_way_8 rfl rfl (q := 9) rfl ?_
  refine z_iload_n (i := 1) dX9_way_9 rfl rfl (q := 10) rfl ?_
  refine z_iconst (v := 1) dX9_way_10 rfl (q := 11) rfl ?_
  refine z_callVF (As := [_, _]) dX9_way_11 kX9_75 (c_X9_at1 hR (by omega)) (wm _ _ _) rfl rfl (zle rfl) ⟨zle rfl, zle rfl⟩ ⟨zle rfl, zle rfl⟩ (q := 14) rfl ?_
  refine z_aload_n (i := 0) dX9_way_14 rfl rfl (q := 15) rfl ?_
  refine z_iload_n (i := 1) dX9_way_15 rfl rfl (q := 16) rfl ?_
  refine z_iconst (v := 0) dX9_way_16 rfl (q := 17) rfl ?_
  refine z_callVF (As := [_, _]) dX9_way_17 kX9_79 (c_X9_sizeAt0 hR (by omega)) (wm _ _ _) rfl rfl (zle rfl) ⟨zle rfl, zle rfl⟩ ⟨zle rfl, zle rfl⟩ (q := 20) rfl ?_
  refine z_aload_n (i := 0) dX9_way_20 rfl rfl (q := 21) rfl ?_
  refine z_iload_n (i := 1) dX9_way_21 rfl rfl (q := 22) rfl ?_
  refine z_callVF (As := [_]) dX9_way_22 kX9_116 (c_X9_needed hR hk hw) (wm _ _ _) rfl rfl (zle rfl) ⟨zle rfl, zle rfl⟩ ⟨zle rfl, zle rfl⟩ (q := 25) rfl ?_
  refine z_callVF (As := [_, _, _, _, _]) dX9_way_25 kX9_93 (c_X9_overlapped hR) (wm _ _ _) rfl rfl (zle rfl) ⟨zle rfl, zle rfl⟩ ⟨zle rfl, zle rfl⟩ (q := 28) rfl ?_
  exact z_iret dX9_way_28 rfl ⟨zle rfl, zle rfl⟩ ⟨rfl, rfl⟩
set_option maxRecDepth 100000 in
set_option maxHeartbeats 4000000 in
theorem c_X9_growNow {n nw k : Nat} (hR : rel X Y n nw) (hk : k < n) (hw : 1 ≤ X.2.1 1 k / 2) : ZM G mX9_growNow 3 0 0 [.ref 77, .int (nI k)] (zw X1 Y O) (zEq (some (.int (grh X n k))) (zw X1 Y O)) := by
  have h4 := rel_4 hR
  refine ZM.go pX9 rfl rfl (zle rfl) (zl := [some (.ref 77), some (.int (nI k))]) rfl ?_
  refine z_aload_n (i := 0) dX9_growNow_0 rfl rfl (q := 1) rfl ?_
  refine z_iload_n (i := 1) dX9_growNow_1 rfl rfl (q := 2) rfl ?_
  refine z_callVF (As := [_]) dX9_growNow_2 kX9_119 (c_X9_fitsNow hR hk hw) (wm _ _ _) rfl rfl (zle rfl) ⟨zle rfl, zle rfl⟩ ⟨zle rfl, zle rfl⟩ (q := 5) rfl ?_
  refine z_if_eq (tgt := 11) dX9_growNow_5 (by decide) (q := 8) rfl (fun h5 => ?_) (fun h5 => ?_)
  · replace h5 := zb_0.mp h5
    refine z_aload_n (i := 0) dX9_growNow_11 rfl rfl (q := 12) rfl ?_
    refine z_get dX9_growNow_12 fX9_19 (wm _ _ _) rfl (q := 15) rfl ?_
    refine z_iload_n (i := 1) dX9_growNow_15 rfl rfl (q := 16) rfl ?_
    refine z_zald dX9_growNow_16 (wma_isLocked _ _ _) (zin (by omega) (by decide)) (q := 17) rfl ?_
    rw [nI_clamp (by omega), (hR.2.2.1 k hk).2.2.2.2.2]
    refine z_if_eq (tgt := 23) dX9_growNow_17 (by decide) (q := 20) rfl (fun h17 => ?_) (fun h17 => ?_)
    · refine z_iconst (v := 1) dX9_growNow_23 rfl (q := 24) rfl ?_
      refine z_aload_n (i := 0) dX9_growNow_24 rfl rfl (q := 25) rfl ?_
      refine z_iload_n (i := 1) dX9_growNow_25 rfl rfl (q := 26) rfl ?_
      refine z_iconst (v := 1) dX9_growNow_26 rfl (q := 27) rfl ?_
      refine z_callVF (As := [_, _]) dX9_growNow_27 kX9_75 (c_X9_at1 hR (by omega)) (wm _ _ _) rfl rfl (zle rfl) ⟨zle rfl, zle rfl⟩ ⟨zle rfl, zle rfl⟩ (q := 30) rfl ?_
      refine z_aload_n (i := 0) dX9_growNow_30 rfl rfl (q := 31) rfl ?_
      refine z_iload_n (i := 1) dX9_growNow_31 rfl rfl (q := 32) rfl ?_
      refine z_callVF (As := [_]) dX9_growNow_32 kX9_116 (c_X9_needed hR hk hw) (wm _ _ _) rfl rfl (zle rfl) ⟨zle rfl, zle rfl⟩ ⟨zle rfl, zle rfl⟩ (q := 35) rfl ?_
      refine z_callSF (As := [_, _, _]) dX9_growNow_35 kX9_86 (c_X9_isOn1) rfl (zle rfl) ⟨zle rfl, zle rfl⟩ ⟨zle rfl, zle rfl⟩ (q := 38) rfl ?_
      refine z_if_ne (tgt := 46) dX9_growNow_38 (by decide) (q := 41) rfl (fun h38 => ?_) (fun h38 => ?_)
      · replace h38 := zb_1.mp h38
        refine z_aload_n (i := 0) dX9_growNow_46 rfl rfl (q := 47) rfl ?_
        refine z_iload_n (i := 1) dX9_growNow_47 rfl rfl (q := 48) rfl ?_
        refine z_callVF (As := [_]) dX9_growNow_48 kX9_122 (c_X9_way hR hk hw) (wm _ _ _) rfl rfl (zle rfl) ⟨zle rfl, zle rfl⟩ ⟨zle rfl, zle rfl⟩ (q := 51) rfl ?_
        refine z_iconst (v := (-1)) dX9_growNow_51 rfl (q := 52) rfl ?_
        refine z_icmp_ne (tgt := 60) dX9_growNow_52 (by decide) (q := 55) rfl (fun h52 => ?_) (fun h52 => ?_)
        · refine z_bipush (v := 111) dX9_growNow_60 rfl (q := 62) rfl ?_
          exact z_zret dX9_growNow_62 rfl rfl ⟨zle rfl, zle rfl⟩ (by constructor <;> simp_all [grh, zon, zlim, -Int32.not_le, -Int32.not_lt])
        · refine z_bipush (v := 110) dX9_growNow_55 rfl (q := 57) rfl ?_
          refine z_goto (tgt := 62) dX9_growNow_57 (by decide) ?_
          exact z_zret dX9_growNow_62 rfl rfl ⟨zle rfl, zle rfl⟩ (by constructor <;> simp_all [grh, zon, zlim, -Int32.not_le, -Int32.not_lt])
      · replace h38 := zb_0.mp h38
        refine z_bipush (v := 115) dX9_growNow_41 rfl (q := 43) rfl ?_
        refine z_goto (tgt := 62) dX9_growNow_43 (by decide) ?_
        exact z_zret dX9_growNow_62 rfl rfl ⟨zle rfl, zle rfl⟩ (by constructor <;> simp_all [grh, zon, zlim, -Int32.not_le, -Int32.not_lt])
    · refine z_bipush (v := 108) dX9_growNow_20 rfl (q := 22) rfl ?_
      exact z_zret dX9_growNow_22 rfl rfl ⟨zle rfl, zle rfl⟩ (by constructor <;> simp_all [grh, zon, zlim, -Int32.not_le, -Int32.not_lt])
  · replace h5 := zb_1.mp h5
    refine z_bipush (v := 102) dX9_growNow_8 rfl (q := 10) rfl ?_
    exact z_zret dX9_growNow_10 rfl rfl ⟨zle rfl, zle rfl⟩ (by constructor <;> simp_all [grh, zon, zlim, -Int32.not_le, -Int32.not_lt])
end
