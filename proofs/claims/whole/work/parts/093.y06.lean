section
variable {G : zG} {X X1 : zX} {Y : zY} {O : zO}
set_option maxRecDepth 100000 in
set_option maxHeartbeats 4000000 in
theorem z_X9_covered_9 {n nw : Nat} (hR : rel X Y n nw) : ∀ (m i : Nat) (a : Int32), i + m = n → Z G mX9_covered (zrm 1 0 0) 0 0 9 [some (.ref 77), some (.int a), some (.int (nI i))] [] (zw X1 Y O) (zEq (some (.float (FP.fdiv (FP.i2f (rsum (fun k => X.2.1 1 k * X.2.1 3 k) i m a)) 1186693120))) (zw X1 Y O)) := by
  intro m
  induction m with
  | zero =>
    intro i a hi
    have h4 := rel_4 hR
    refine z_iload_n (i := 2) dX9_covered_9 rfl rfl (q := 10) rfl ?_
    refine z_aload_n (i := 0) dX9_covered_10 rfl rfl (q := 11) rfl ?_
    refine z_get dX9_covered_11 fX9_64 (wm _ _ _) rfl (q := 14) rfl ?_
    rw [hR.1]
    refine z_icmp_ge (tgt := 39) dX9_covered_14 (by decide) (q := 17) rfl (fun h14 => ?_) (fun h14 => absurd (zge_t (by omega)) h14)
    refine z_iload_n (i := 1) dX9_covered_39 rfl rfl (q := 40) rfl ?_
    refine z_i2f dX9_covered_40 (q := 41) rfl ?_
    refine z_ldcf dX9_covered_41 kfX9_232 (q := 43) rfl ?_
    refine z_fdiv dX9_covered_43 (n_cov _) (q := 44) rfl ?_
    exact z_fret dX9_covered_44 rfl ⟨zle rfl, zle rfl⟩ ⟨rfl, rfl⟩
  | succ m ih =>
    intro i a hi
    have h4 := rel_4 hR
    refine z_iload_n (i := 2) dX9_covered_9 rfl rfl (q := 10) rfl ?_
    refine z_aload_n (i := 0) dX9_covered_10 rfl rfl (q := 11) rfl ?_
    refine z_get dX9_covered_11 fX9_64 (wm _ _ _) rfl (q := 14) rfl ?_
    rw [hR.1]
    refine z_icmp_ge (tgt := 39) dX9_covered_14 (by decide) (q := 17) rfl (fun h14 => absurd h14 (zge_f (by omega) (by omega))) (fun h14 => ?_)
    refine z_iload_n (i := 1) dX9_covered_17 rfl rfl (q := 18) rfl ?_
    refine z_aload_n (i := 0) dX9_covered_18 rfl rfl (q := 19) rfl ?_
    refine z_iload_n (i := 2) dX9_covered_19 rfl rfl (q := 20) rfl ?_
    refine z_iconst (v := 0) dX9_covered_20 rfl (q := 21) rfl ?_
    refine z_callVF (As := [_, _]) dX9_covered_21 kX9_79 (c_X9_sizeAt0 hR (by omega)) (wm _ _ _) rfl rfl (zle rfl) ⟨zle rfl, zle rfl⟩ ⟨zle rfl, zle rfl⟩ (q := 24) rfl ?_
    refine z_aload_n (i := 0) dX9_covered_24 rfl rfl (q := 25) rfl ?_
    refine z_iload_n (i := 2) dX9_covered_25 rfl rfl (q := 26) rfl ?_
    refine z_iconst (v := 1) dX9_covered_26 rfl (q := 27) rfl ?_
    refine z_callVF (As := [_, _]) dX9_covered_27 kX9_79 (c_X9_sizeAt1 hR (by omega)) (wm _ _ _) rfl rfl (zle rfl) ⟨zle rfl, zle rfl⟩ ⟨zle rfl, zle rfl⟩ (q := 30) rfl ?_
    refine z_imul dX9_covered_30 (q := 31) rfl ?_
    refine z_iadd dX9_covered_31 (q := 32) rfl ?_
    refine z_istore_n (i := 1) dX9_covered_32 rfl (zle rfl) rfl (q := 33) rfl ?_
    refine z_iinc dX9_covered_33 rfl rfl (zle rfl) rfl (q := 36) rfl ?_
    refine z_goto (tgt := 9) dX9_covered_36 (by decide) ?_
    refine Z.eql (zl2 := [some (.ref 77), _, some (.int (nI (i + 1)))]) (by first | (rw [← nI_1 i]; done) | (rw [← nI_1 i]; rfl)) ?_
    exact ih (i + 1) _ (by omega)
set_option maxRecDepth 100000 in
set_option maxHeartbeats 4000000 in
theorem c_X9_covered {n nw : Nat} (hR : rel X Y n nw) : ZM G mX9_covered 1 0 0 [.ref 77] (zw X1 Y O) (zEq (some (.float (FP.fdiv (FP.i2f (rsum (fun k => X.2.1 1 k * X.2.1 3 k) 0 n 0)) 1186693120))) (zw X1 (yint Y 0 0) O)) := by
  have h4 := rel_4 hR
  have hR0 : rel X (yint Y 0 0) n nw := rel_thr hR 0
  refine ZM.go pX9 rfl rfl (zle rfl) (zl := [some (.ref 77), none, none]) rfl ?_
  refine z_aload_n (i := 0) dX9_covered_0 rfl rfl (q := 1) rfl ?_
  refine z_iconst (v := 0) dX9_covered_1 rfl (q := 2) rfl ?_
  refine z_put dX9_covered_2 fX9_60 (wm _ _ _) (zle rfl) (zfit_int _) (q := 5) rfl ?_
  refine Z.eqw (wmi_thrown _ _ _ _) ?_
  refine z_iconst (v := 0) dX9_covered_5 rfl (q := 6) rfl ?_
  refine z_istore_n (i := 1) dX9_covered_6 rfl (zle rfl) rfl (q := 7) rfl ?_
  refine z_iconst (v := 0) dX9_covered_7 rfl (q := 8) rfl ?_
  refine z_istore_n (i := 2) dX9_covered_8 rfl (zle rfl) rfl (q := 9) rfl ?_
  exact z_X9_covered_9 hR0 n 0 0 (by omega)
set_option maxRecDepth 100000 in
set_option maxHeartbeats 4000000 in
def msum (X : zX) : Nat → Int32
  | 0 => 0
  | k + 1 => rsum (zdist X k) 0 k (msum X k)
set_option maxRecDepth 100000 in
set_option maxHeartbeats 4000000 in
theorem tri_le : ∀ n, n ≤ 4 → tri n ≤ 6 := by decide
set_option maxRecDepth 100000 in
set_option maxHeartbeats 4000000 in
theorem mean_same {n : Nat} (h4 : n ≤ 4) : msum X n = rs2 (zdist X) 0 n 0 := by
  rcases (show n = 0 ∨ n = 1 ∨ n = 2 ∨ n = 3 ∨ n = 4 by omega) with rfl | rfl | rfl | rfl | rfl
  · rfl
  · rfl
  · show 0 + zdist X 1 0 = 0 + zdist X 0 1
    rw [zdist_comm 1 0]
  · show 0 + zdist X 1 0 + zdist X 2 0 + zdist X 2 1 = 0 + zdist X 0 1 + zdist X 0 2 + zdist X 1 2
    rw [zdist_comm 1 0, zdist_comm 2 0, zdist_comm 2 1]
  · show 0 + zdist X 1 0 + zdist X 2 0 + zdist X 2 1 + zdist X 3 0 + zdist X 3 1 + zdist X 3 2 = 0 + zdist X 0 1 + zdist X 0 2 + zdist X 0 3 + zdist X 1 2 + zdist X 1 3 + zdist X 2 3
    rw [zdist_comm 1 0, zdist_comm 2 0, zdist_comm 2 1, zdist_comm 3 0, zdist_comm 3 1, zdist_comm 3 2]
    ac_rfl
set_option maxRecDepth 100000 in
set_option maxHeartbeats 4000000 in
theorem tri_same : ∀ n, n ≤ 4 → tri n = rc2 n 0 := by decide
set_option maxRecDepth 100000 in
set_option maxHeartbeats 4000000 in
theorem tri_136 : ∀ n, n ≤ 4 → ¬ tri n = 0 → nI (tri n) = 1 ∨ nI (tri n) = 3 ∨ nI (tri n) = 6 := by decide
set_option maxRecDepth 100000 in
set_option maxHeartbeats 4000000 in
theorem z_X9_mean_22 {n nw i : Nat} {P : zRes → zWorld → Prop} (hR : rel X Y n nw) (hi : i < n) : ∀ (m j : Nat) (a : Int32) (p : Nat), j + m = i → Z G mX9_meanDistance (zrm 3 0 0) 0 0 47 [some (.ref 77), some (.int (rsum (zdist X i) j m a)), some (.int (nI (p + m))), some (.int (nI i)), some (.int (nI i))] [] (zw X1 Y O) P → Z G mX9_meanDistance (zrm 3 0 0) 0 0 22 [some (.ref 77), some (.int a), some (.int (nI p)), some (.int (nI i)), some (.int (nI j))] [] (zw X1 Y O) P := by
  have h4 := rel_4 hR
  intro m
  induction m with
  | zero =>
    intro j a p hj hx
    rw [show j = i by omega]
    simp only [rsum, Nat.add_zero] at hx
    refine z_iload dX9_meanDistance_22 rfl (q := 24) rfl ?_
    refine z_iload_n (i := 3) dX9_meanDistance_24 rfl rfl (q := 25) rfl ?_
    refine z_icmp_ge (tgt := 47) dX9_meanDistance_25 (by decide) (q := 28) rfl (fun h25 => ?_) (fun h25 => absurd (zge_t (by omega)) h25)
    exact hx
  | succ m ih =>
    intro j a p hj hx
    refine z_iload dX9_meanDistance_22 rfl (q := 24) rfl ?_
    refine z_iload_n (i := 3) dX9_meanDistance_24 rfl rfl (q := 25) rfl ?_
    refine z_icmp_ge (tgt := 47) dX9_meanDistance_25 (by decide) (q := 28) rfl (fun h25 => absurd h25 (zge_f (by omega) (by omega))) (fun h25 => ?_)
    refine z_iload_n (i := 1) dX9_meanDistance_28 rfl rfl (q := 29) rfl ?_
    refine z_aload_n (i := 0) dX9_meanDistance_29 rfl rfl (q := 30) rfl ?_
    refine z_iload_n (i := 3) dX9_meanDistance_30 rfl rfl (q := 31) rfl ?_
    refine z_iload dX9_meanDistance_31 rfl (q := 33) rfl ?_
    refine z_callVF (As := [_, _]) dX9_meanDistance_33 kX9_223 (c_X9_distanceOf hR hi (by omega)) (wm _ _ _) rfl rfl (zle rfl) ⟨zle rfl, zle rfl⟩ ⟨zle rfl, zle rfl⟩ (q := 36) rfl ?_
    refine z_iadd dX9_meanDistance_36 (q := 37) rfl ?_
    refine z_istore_n (i := 1) dX9_meanDistance_37 rfl (zle rfl) rfl (q := 38) rfl ?_
    refine z_iinc dX9_meanDistance_38 rfl rfl (zle rfl) rfl (q := 41) rfl ?_
    refine z_iinc dX9_meanDistance_41 rfl rfl (zle rfl) rfl (q := 44) rfl ?_
    refine z_goto (tgt := 22) dX9_meanDistance_44 (by decide) ?_
    refine Z.eql (zl2 := [some (.ref 77), _, some (.int (nI (p + 1))), some (.int (nI i)), some (.int (nI (j + 1)))]) (by rw [← nI_1 p, ← nI_1 j]; rfl) ?_
    refine ih (j + 1) _ (p + 1) (by omega) ?_
    rw [show p + 1 + m = p + (m + 1) by omega]
    exact hx
set_option maxRecDepth 100000 in
set_option maxHeartbeats 4000000 in
theorem z_X9_mean_11 {n nw : Nat} {P : zRes → zWorld → Prop} (hR : rel X Y n nw) : ∀ (m i : Nat) (e4 : Option Value), i + m = n → (∀ e4, Z G mX9_meanDistance (zrm 3 0 0) 0 0 53 [some (.ref 77), some (.int (msum X n)), some (.int (nI (tri n))), some (.int (nI n)), e4] [] (zw X1 Y O) P) → Z G mX9_meanDistance (zrm 3 0 0) 0 0 11 [some (.ref 77), some (.int (msum X i)), some (.int (nI (tri i))), some (.int (nI i)), e4] [] (zw X1 Y O) P := by
  have h4 := rel_4 hR
  intro m
  induction m with
  | zero =>
    intro i e4 hi hx
    rw [show i = n by omega]
    refine z_iload_n (i := 3) dX9_meanDistance_11 rfl rfl (q := 12) rfl ?_
    refine z_aload_n (i := 0) dX9_meanDistance_12 rfl rfl (q := 13) rfl ?_
    refine z_get dX9_meanDistance_13 fX9_64 (wm _ _ _) rfl (q := 16) rfl ?_
    rw [hR.1]
    refine z_icmp_ge (tgt := 53) dX9_meanDistance_16 (by decide) (q := 19) rfl (fun h16 => ?_) (fun h16 => absurd (zge_t (by omega)) h16)
    exact hx e4
  | succ m ih =>
    intro i e4 hi hx
    refine z_iload_n (i := 3) dX9_meanDistance_11 rfl rfl (q := 12) rfl ?_
    refine z_aload_n (i := 0) dX9_meanDistance_12 rfl rfl (q := 13) rfl ?_
    refine z_get dX9_meanDistance_13 fX9_64 (wm _ _ _) rfl (q := 16) rfl ?_
    rw [hR.1]
    refine z_icmp_ge (tgt := 53) dX9_meanDistance_16 (by decide) (q := 19) rfl (fun h16 => absurd h16 (zge_f (by omega) (by omega))) (fun h16 => ?_)
    refine z_iconst (v := 0) dX9_meanDistance_19 rfl (q := 20) rfl ?_
    refine z_istore dX9_meanDistance_20 (zle rfl) rfl (q := 22) rfl ?_
    refine z_X9_mean_22 hR (i := i) (by omega) i 0 _ _ (by omega) ?_
    refine z_iinc dX9_meanDistance_47 rfl rfl (zle rfl) rfl (q := 50) rfl ?_
    refine z_goto (tgt := 11) dX9_meanDistance_50 (by decide) ?_
    refine Z.eql (zl2 := [some (.ref 77), some (.int (msum X (i + 1))), some (.int (nI (tri (i + 1)))), some (.int (nI (i + 1))), _]) (by rw [← nI_1 i]; rfl) ?_
    exact ih (i + 1) _ (by omega) hx
set_option maxRecDepth 100000 in
set_option maxHeartbeats 4000000 in
theorem c_X9_meanDistance {n nw : Nat} (hR : rel X Y n nw) (hp : ¬ tri n = 0) : ZM G mX9_meanDistance 3 0 0 [.ref 77] (zw X1 Y O) (zEq (some (.double (FP.ddiv (FP.i2d (msum X n)) (FP.i2d (nI (tri n)))))) (zw X1 (yint Y 0 0) O)) := by
  have h4 := rel_4 hR
  have hR0 : rel X (yint Y 0 0) n nw := rel_thr hR 0
  have h6 := tri_le n h4
  refine ZM.go pX9 rfl rfl (zle rfl) (zl := [some (.ref 77), none, none, none, none]) rfl ?_
  refine z_aload_n (i := 0) dX9_meanDistance_0 rfl rfl (q := 1) rfl ?_
  refine z_iconst (v := 0) dX9_meanDistance_1 rfl (q := 2) rfl ?_
  refine z_put dX9_meanDistance_2 fX9_60 (wm _ _ _) (zle rfl) (zfit_int _) (q := 5) rfl ?_
  refine Z.eqw (wmi_thrown _ _ _ _) ?_
  refine z_iconst (v := 0) dX9_meanDistance_5 rfl (q := 6) rfl ?_
  refine z_istore_n (i := 1) dX9_meanDistance_6 rfl (zle rfl) rfl (q := 7) rfl ?_
  refine z_iconst (v := 0) dX9_meanDistance_7 rfl (q := 8) rfl ?_
  refine z_istore_n (i := 2) dX9_meanDistance_8 rfl (zle rfl) rfl (q := 9) rfl ?_
  refine z_iconst (v := 0) dX9_meanDistance_9 rfl (q := 10) rfl ?_
  refine z_istore_n (i := 3) dX9_meanDistance_10 rfl (zle rfl) rfl (q := 11) rfl ?_
  refine z_X9_mean_11 hR0 n 0 none (by omega) (fun e4 => ?_)
  refine z_aload_n (i := 0) dX9_meanDistance_53 rfl rfl (q := 54) rfl ?_
  refine z_iload_n (i := 2) dX9_meanDistance_54 rfl rfl (q := 55) rfl ?_
  refine z_if_ne (tgt := 62) dX9_meanDistance_55 (by decide) (q := 58) rfl (fun h55 => ?_) (fun h55 => absurd h55 (fun h9 => hp ((nI_eq (by omega) (by decide)).mp h9)))
  refine z_iconst (v := 0) dX9_meanDistance_62 rfl (q := 63) rfl ?_
  refine z_iconst (v := 1) dX9_meanDistance_63 rfl (q := 64) rfl ?_
  refine z_callVF (As := [_, _]) dX9_meanDistance_64 kX9_89 (c_X9_fails_f rfl) (wm _ _ _) rfl rfl (zle rfl) ⟨zle rfl, zle rfl⟩ ⟨zle rfl, zle rfl⟩ (q := 67) rfl ?_
  refine z_if_eq (tgt := 74) dX9_meanDistance_67 (by decide) (q := 70) rfl (fun h67 => ?_) (fun h67 => absurd h67 (by decide))
  refine z_iload_n (i := 1) dX9_meanDistance_74 rfl rfl (q := 75) rfl ?_
  refine z_i2d dX9_meanDistance_75 (q := 76) rfl ?_
  refine z_iload_n (i := 2) dX9_meanDistance_76 rfl rfl (q := 77) rfl ?_
  refine z_i2d dX9_meanDistance_77 (q := 78) rfl ?_
  refine z_ddiv dX9_meanDistance_78 (n_mean _ _ (tri_136 n h4 hp)) (q := 79) rfl ?_
  exact z_dret dX9_meanDistance_79 rfl ⟨zle rfl, zle rfl⟩ ⟨rfl, rfl⟩
set_option maxRecDepth 100000 in
set_option maxHeartbeats 4000000 in
theorem c_X9_meanDistance_none {n nw : Nat} (hR : rel X Y n nw) (hp : tri n = 0) : ZM G mX9_meanDistance 3 0 0 [.ref 77] (zw X1 Y O) (zEq (some (.double 0)) (zw X1 (yth Y 1) O)) := by
  have h4 := rel_4 hR
  have hR0 : rel X (yint Y 0 0) n nw := rel_thr hR 0
  have h6 := tri_le n h4
  refine ZM.go pX9 rfl rfl (zle rfl) (zl := [some (.ref 77), none, none, none, none]) rfl ?_
  refine z_aload_n (i := 0) dX9_meanDistance_0 rfl rfl (q := 1) rfl ?_
  refine z_iconst (v := 0) dX9_meanDistance_1 rfl (q := 2) rfl ?_
  refine z_put dX9_meanDistance_2 fX9_60 (wm _ _ _) (zle rfl) (zfit_int _) (q := 5) rfl ?_
  refine Z.eqw (wmi_thrown _ _ _ _) ?_
  refine z_iconst (v := 0) dX9_meanDistance_5 rfl (q := 6) rfl ?_
  refine z_istore_n (i := 1) dX9_meanDistance_6 rfl (zle rfl) rfl (q := 7) rfl ?_
  refine z_iconst (v := 0) dX9_meanDistance_7 rfl (q := 8) rfl ?_
  refine z_istore_n (i := 2) dX9_meanDistance_8 rfl (zle rfl) rfl (q := 9) rfl ?_
  refine z_iconst (v := 0) dX9_meanDistance_9 rfl (q := 10) rfl ?_
  refine z_istore_n (i := 3) dX9_meanDistance_10 rfl (zle rfl) rfl (q := 11) rfl ?_
  refine z_X9_mean_11 hR0 n 0 none (by omega) (fun e4 => ?_)
  refine z_aload_n (i := 0) dX9_meanDistance_53 rfl rfl (q := 54) rfl ?_
  refine z_iload_n (i := 2) dX9_meanDistance_54 rfl rfl (q := 55) rfl ?_
  rw [hp]
  refine z_if_ne (tgt := 62) dX9_meanDistance_55 (by decide) (q := 58) rfl (fun h55 => absurd rfl h55) (fun h55 => ?_)
  refine z_iconst (v := 1) dX9_meanDistance_58 rfl (q := 59) rfl ?_
  refine z_goto (tgt := 63) dX9_meanDistance_59 (by decide) ?_
  refine z_iconst (v := 1) dX9_meanDistance_63 rfl (q := 64) rfl ?_
  refine z_callVF (As := [_, _]) dX9_meanDistance_64 kX9_89 (c_X9_fails_t rfl (by decide)) (wm _ _ _) rfl rfl (zle rfl) ⟨zle rfl, zle rfl⟩ ⟨zle rfl, zle rfl⟩ (q := 67) rfl ?_
  refine z_if_eq (tgt := 74) dX9_meanDistance_67 (by decide) (q := 70) rfl (fun h67 => absurd h67 (by decide)) (fun h67 => ?_)
  refine z_dconst0 dX9_meanDistance_70 (q := 71) rfl ?_
  refine z_goto (tgt := 79) dX9_meanDistance_71 (by decide) ?_
  exact z_dret dX9_meanDistance_79 rfl ⟨zle rfl, zle rfl⟩ ⟨rfl, rfl⟩
set_option maxRecDepth 100000 in
set_option maxHeartbeats 4000000 in
abbrev aOne (X : zX) (t : Nat) (D : Nat → Int32) (k : Nat) : Prop := zon (zlim t) (D k) (X.2.1 (2 * t + 1) k) ∧ (X.2.1 4 k = 0 ∨ D k = X.2.1 (2 * t) k)
set_option maxRecDepth 100000 in
set_option maxHeartbeats 4000000 in
abbrev aPair (X : zX) (t : Nat) (D : Nat → Int32) (k j : Nat) : Prop := zmeet (D j) (X.2.1 (2 * t + 1) j) (D k) (X.2.1 (2 * t + 1) k) ∧ zmeet (X.2.1 (2 * (1 - t)) j) (X.2.1 (2 * (1 - t) + 1) j) (X.2.1 (2 * (1 - t)) k) (X.2.1 (2 * (1 - t) + 1) k)
set_option maxRecDepth 100000 in
set_option maxHeartbeats 4000000 in
def allow (X : zX) (t n : Nat) (D : Nat → Int32) : Prop := ∀ k, k < n → aOne X t D k ∧ ∀ j, j < k → ¬ aPair X t D k j
set_option maxRecDepth 100000 in
set_option maxHeartbeats 4000000 in
def bit (v : Int32) : Prop := v = 0 ∨ v = 1
set_option maxRecDepth 100000 in
set_option maxHeartbeats 4000000 in
theorem bit_nar {v : Int32} (h : bit v) : narrow .boolean (.int v) = .int v := by rcases h with h | h <;> rw [h] <;> rfl
set_option maxRecDepth 100000 in
set_option maxHeartbeats 4000000 in
theorem al_t {Q : Prop} {p : Nat → Prop} {v : Int32} {j : Nat} (h : ¬ v = 0 ↔ Q ∧ ∀ i, i < j → ¬ p i) (hv : ¬ v = 0) (hp : ¬ p j) : ¬ (1 : Int32) = 0 ↔ Q ∧ ∀ i, i < j + 1 → ¬ p i :=
  ⟨fun _ => ⟨(h.mp hv).1, fun i hi => by
    by_cases e : i = j
    · rw [e]; exact hp
    · exact (h.mp hv).2 i (by omega)⟩, fun _ => by decide⟩
set_option maxRecDepth 100000 in
set_option maxHeartbeats 4000000 in
theorem al_f {Q : Prop} {p : Nat → Prop} {v : Int32} {j : Nat} (h : ¬ v = 0 ↔ Q ∧ ∀ i, i < j → ¬ p i) (hp : v = 0 ∨ p j) : ¬ (0 : Int32) = 0 ↔ Q ∧ ∀ i, i < j + 1 → ¬ p i :=
  ⟨fun h9 => absurd rfl h9, fun h9 => (hp.elim (fun h1 => h.mpr ⟨h9.1, fun i hi => h9.2 i (by omega)⟩ h1) (fun h1 => h9.2 j (by omega) h1)).elim⟩
set_option maxRecDepth 100000 in
set_option maxHeartbeats 4000000 in
theorem ou_t {A q : Prop} {p : Nat → Prop} {v : Int32} (h : ¬ v = 0 ↔ A) (hv : ¬ v = 0) (hq : q) : ¬ (1 : Int32) = 0 ↔ (A ∧ q) ∧ ∀ i, i < 0 → ¬ p i :=
  ⟨fun _ => ⟨⟨h.mp hv, hq⟩, fun i hi => absurd hi (by omega)⟩, fun _ => by decide⟩
set_option maxRecDepth 100000 in
set_option maxHeartbeats 4000000 in
theorem ou_f {A q : Prop} {p : Nat → Prop} {v : Int32} (h : ¬ v = 0 ↔ A) (hq : v = 0 ∨ ¬ q) : ¬ (0 : Int32) = 0 ↔ (A ∧ q) ∧ ∀ i, i < 0 → ¬ p i :=
  ⟨fun h9 => absurd rfl h9, fun h9 => (hq.elim (fun h1 => h.mpr h9.1.1 h1) (fun h1 => h1 h9.1.2)).elim⟩
set_option maxRecDepth 100000 in
set_option maxHeartbeats 4000000 in
theorem ou_n {q : Nat → Prop} {r : Nat → Nat → Prop} {v : Int32} {i : Nat} (h : ¬ v = 0 ↔ ((∀ k, k < i → q k ∧ ∀ j, j < k → ¬ r k j) ∧ q i) ∧ ∀ j, j < i → ¬ r i j) : ¬ v = 0 ↔ ∀ k, k < i + 1 → q k ∧ ∀ j, j < k → ¬ r k j :=
  h.trans ⟨fun h9 k hk => by
    by_cases e : k = i
    · subst e; exact ⟨h9.1.2, h9.2⟩
    · exact h9.1.1 k (by omega), fun h9 => ⟨⟨fun k hk => h9 k (by omega), (h9 i (by omega)).1⟩, (h9 i (by omega)).2⟩⟩
set_option maxRecDepth 100000 in
set_option maxHeartbeats 4000000 in
theorem one_sub {t : Nat} (ht : t < 2) : 1 - nI t = nI (1 - t) := nI_sub (a := 1) (by omega)
set_option maxRecDepth 100000 in
set_option maxHeartbeats 4000000 in
theorem z_X9_isAllowed_79 {n nw t i : Nat} {D : Nat → Int32} {Q : Prop} {P : zRes → zWorld → Prop} (hR : rel X Y n nw) (ht : t < 2) (hD : ∀ k, k < n → Y.1 12 k = D k) (hi : i < n) : ∀ (m j : Nat) (v : Int32), j + m = i → (¬ v = 0 ↔ Q ∧ ∀ j2, j2 < j → ¬ aPair X t D i j2) → bit v → (∀ v, bit v → (¬ v = 0 ↔ Q ∧ ∀ j2, j2 < i → ¬ aPair X t D i j2) → Z G mX9_isAllowed (zrm 2 0 0) 0 0 170 [some (.ref 77), some (.int (nI t)), some (.int v), some (.int (nI (1 - t))), some (.int (nI i)), some (.int (nI i))] [] (zw X1 Y O) P) → Z G mX9_isAllowed (zrm 2 0 0) 0 0 79 [some (.ref 77), some (.int (nI t)), some (.int v), some (.int (nI (1 - t))), some (.int (nI i)), some (.int (nI j))] [] (zw X1 Y O) P := by
  have h4 := rel_4 hR
  intro m
  induction m with
  | zero =>
    intro j v hj hv hb hx
    have hji : j = i := by omega
    subst hji
    refine z_iload dX9_isAllowed_79 rfl (q := 81) rfl ?_
    refine z_iload dX9_isAllowed_81 rfl (q := 83) rfl ?_
    refine z_icmp_ge (tgt := 170) dX9_isAllowed_83 (by decide) (q := 86) rfl (fun h83 => ?_) (fun h83 => absurd (zge_t (by omega)) h83)
    exact hx v hb hv
  | succ m ih =>
    intro j v hj hv hb hx
    refine z_iload dX9_isAllowed_79 rfl (q := 81) rfl ?_
    refine z_iload dX9_isAllowed_81 rfl (q := 83) rfl ?_
    refine z_icmp_ge (tgt := 170) dX9_isAllowed_83 (by decide) (q := 86) rfl (fun h83 => absurd h83 (zge_f (by omega) (by omega))) (fun h83 => ?_)
    refine z_iload_n (i := 2) dX9_isAllowed_86 rfl rfl (q := 87) rfl ?_
    refine z_if_eq (tgt := 162) dX9_isAllowed_87 (by decide) (q := 90) rfl (fun h87 => ?_) (fun h87 => ?_)
    · refine z_iconst (v := 0) dX9_isAllowed_162 rfl (q := 163) rfl ?_
      refine z_istore_n (i := 2) dX9_isAllowed_163 rfl (zle rfl) rfl (q := 164) rfl ?_
      refine z_iinc dX9_isAllowed_164 rfl rfl (zle rfl) rfl (q := 167) rfl ?_
      refine z_goto (tgt := 79) dX9_isAllowed_167 (by decide) ?_
      refine Z.eql (zl2 := [some (.ref 77), some (.int (nI t)), some (.int 0), some (.int (nI (1 - t))), some (.int (nI i)), some (.int (nI (j + 1)))]) (by rw [← nI_1 j]; rfl) ?_
      exact ih (j + 1) 0 (by omega) (al_f hv (Or.inl h87)) (Or.inl rfl) hx
    · refine z_aload_n (i := 0) dX9_isAllowed_90 rfl rfl (q := 91) rfl ?_
      refine z_get dX9_isAllowed_91 fX9_48 (wm _ _ _) rfl (q := 94) rfl ?_
      refine z_iload dX9_isAllowed_94 rfl (q := 96) rfl ?_
      refine z_iald dX9_isAllowed_96 (wma_now _ _ _) (zin (by omega) (by decide)) (q := 97) rfl ?_
      rw [nI_clamp (by omega), hD _ (by omega)]
      refine z_aload_n (i := 0) dX9_isAllowed_97 rfl rfl (q := 98) rfl ?_
      refine z_iload dX9_isAllowed_98 rfl (q := 100) rfl ?_
      refine z_iload_n (i := 1) dX9_isAllowed_100 rfl rfl (q := 101) rfl ?_
      refine z_callVF (As := [_, _]) dX9_isAllowed_101 kX9_79 (c_X9_sizeAt hR (by omega) ht) (wm _ _ _) rfl rfl (zle rfl) ⟨zle rfl, zle rfl⟩ ⟨zle rfl, zle rfl⟩ (q := 104) rfl ?_
      refine z_aload_n (i := 0) dX9_isAllowed_104 rfl rfl (q := 105) rfl ?_
      refine z_get dX9_isAllowed_105 fX9_48 (wm _ _ _) rfl (q := 108) rfl ?_
      refine z_iload dX9_isAllowed_108 rfl (q := 110) rfl ?_
      refine z_iald dX9_isAllowed_110 (wma_now _ _ _) (zin (by omega) (by decide)) (q := 111) rfl ?_
      rw [nI_clamp (by omega), hD _ (by omega)]
      refine z_aload_n (i := 0) dX9_isAllowed_111 rfl rfl (q := 112) rfl ?_
      refine z_iload dX9_isAllowed_112 rfl (q := 114) rfl ?_
      refine z_iload_n (i := 1) dX9_isAllowed_114 rfl rfl (q := 115) rfl ?_
      refine z_callVF (As := [_, _]) dX9_isAllowed_115 kX9_79 (c_X9_sizeAt hR (by omega) ht) (wm _ _ _) rfl rfl (zle rfl) ⟨zle rfl, zle rfl⟩ ⟨zle rfl, zle rfl⟩ (q := 118) rfl ?_
      refine z_callSF (As := [_, _, _, _]) dX9_isAllowed_118 kX9_82 (c_X9_meet ) rfl (zle rfl) ⟨zle rfl, zle rfl⟩ ⟨zle rfl, zle rfl⟩ (q := 121) rfl ?_
      refine z_if_eq (tgt := 158) dX9_isAllowed_121 (by decide) (q := 124) rfl (fun h121 => ?_) (fun h121 => ?_)
      · replace h121 := zb_0.mp h121
        refine z_iconst (v := 1) dX9_isAllowed_158 rfl (q := 159) rfl ?_
        refine z_goto (tgt := 163) dX9_isAllowed_159 (by decide) ?_
        refine z_istore_n (i := 2) dX9_isAllowed_163 rfl (zle rfl) rfl (q := 164) rfl ?_
        refine z_iinc dX9_isAllowed_164 rfl rfl (zle rfl) rfl (q := 167) rfl ?_
        refine z_goto (tgt := 79) dX9_isAllowed_167 (by decide) ?_
        refine Z.eql (zl2 := [some (.ref 77), some (.int (nI t)), some (.int 1), some (.int (nI (1 - t))), some (.int (nI i)), some (.int (nI (j + 1)))]) (by rw [← nI_1 j]; rfl) ?_
        exact ih (j + 1) 1 (by omega) (al_t hv h87 (fun h9 => h121 h9.1)) (Or.inr rfl) hx
      · replace h121 := zb_1.mp h121
        refine z_aload_n (i := 0) dX9_isAllowed_124 rfl rfl (q := 125) rfl ?_
        refine z_iload dX9_isAllowed_125 rfl (q := 127) rfl ?_
        refine z_iload_n (i := 3) dX9_isAllowed_127 rfl rfl (q := 128) rfl ?_
        refine z_callVF (As := [_, _]) dX9_isAllowed_128 kX9_75 (c_X9_at hR (by omega) (show 1 - t < 2 by omega)) (wm _ _ _) rfl rfl (zle rfl) ⟨zle rfl, zle rfl⟩ ⟨zle rfl, zle rfl⟩ (q := 131) rfl ?_
        refine z_aload_n (i := 0) dX9_isAllowed_131 rfl rfl (q := 132) rfl ?_
        refine z_iload dX9_isAllowed_132 rfl (q := 134) rfl ?_
        refine z_iload_n (i := 3) dX9_isAllowed_134 rfl rfl (q := 135) rfl ?_
        refine z_callVF (As := [_, _]) dX9_isAllowed_135 kX9_79 (c_X9_sizeAt hR (by omega) (show 1 - t < 2 by omega)) (wm _ _ _) rfl rfl (zle rfl) ⟨zle rfl, zle rfl⟩ ⟨zle rfl, zle rfl⟩ (q := 138) rfl ?_
        refine z_aload_n (i := 0) dX9_isAllowed_138 rfl rfl (q := 139) rfl ?_
        refine z_iload dX9_isAllowed_139 rfl (q := 141) rfl ?_
        refine z_iload_n (i := 3) dX9_isAllowed_141 rfl rfl (q := 142) rfl ?_
        refine z_callVF (As := [_, _]) dX9_isAllowed_142 kX9_75 (c_X9_at hR (by omega) (show 1 - t < 2 by omega)) (wm _ _ _) rfl rfl (zle rfl) ⟨zle rfl, zle rfl⟩ ⟨zle rfl, zle rfl⟩ (q := 145) rfl ?_
        refine z_aload_n (i := 0) dX9_isAllowed_145 rfl rfl (q := 146) rfl ?_
        refine z_iload dX9_isAllowed_146 rfl (q := 148) rfl ?_
        refine z_iload_n (i := 3) dX9_isAllowed_148 rfl rfl (q := 149) rfl ?_
        refine z_callVF (As := [_, _]) dX9_isAllowed_149 kX9_79 (c_X9_sizeAt hR (by omega) (show 1 - t < 2 by omega)) (wm _ _ _) rfl rfl (zle rfl) ⟨zle rfl, zle rfl⟩ ⟨zle rfl, zle rfl⟩ (q := 152) rfl ?_
        refine z_callSF (As := [_, _, _, _]) dX9_isAllowed_152 kX9_82 (c_X9_meet ) rfl (zle rfl) ⟨zle rfl, zle rfl⟩ ⟨zle rfl, zle rfl⟩ (q := 155) rfl ?_
        refine z_if_ne (tgt := 162) dX9_isAllowed_155 (by decide) (q := 158) rfl (fun h155 => ?_) (fun h155 => ?_)
        · replace h155 := zb_1.mp h155
          refine z_iconst (v := 0) dX9_isAllowed_162 rfl (q := 163) rfl ?_
          refine z_istore_n (i := 2) dX9_isAllowed_163 rfl (zle rfl) rfl (q := 164) rfl ?_
          refine z_iinc dX9_isAllowed_164 rfl rfl (zle rfl) rfl (q := 167) rfl ?_
          refine z_goto (tgt := 79) dX9_isAllowed_167 (by decide) ?_
          refine Z.eql (zl2 := [some (.ref 77), some (.int (nI t)), some (.int 0), some (.int (nI (1 - t))), some (.int (nI i)), some (.int (nI (j + 1)))]) (by rw [← nI_1 j]; rfl) ?_
          exact ih (j + 1) 0 (by omega) (al_f hv (Or.inr ⟨h121, h155⟩)) (Or.inl rfl) hx
        · replace h155 := zb_0.mp h155
          refine z_iconst (v := 1) dX9_isAllowed_158 rfl (q := 159) rfl ?_
          refine z_goto (tgt := 163) dX9_isAllowed_159 (by decide) ?_
          refine z_istore_n (i := 2) dX9_isAllowed_163 rfl (zle rfl) rfl (q := 164) rfl ?_
          refine z_iinc dX9_isAllowed_164 rfl rfl (zle rfl) rfl (q := 167) rfl ?_
          refine z_goto (tgt := 79) dX9_isAllowed_167 (by decide) ?_
          refine Z.eql (zl2 := [some (.ref 77), some (.int (nI t)), some (.int 1), some (.int (nI (1 - t))), some (.int (nI i)), some (.int (nI (j + 1)))]) (by rw [← nI_1 j]; rfl) ?_
          exact ih (j + 1) 1 (by omega) (al_t hv h87 (fun h9 => h155 h9.2)) (Or.inr rfl) hx
set_option maxRecDepth 100000 in
set_option maxHeartbeats 4000000 in
theorem z_X9_isAllowed_9 {n nw t : Nat} {D : Nat → Int32} (hR : rel X Y n nw) (ht : t < 2) (hD : ∀ k, k < n → Y.1 12 k = D k) : ∀ (m i : Nat) (v : Int32) (e5 : Option Value), i + m = n → bit v → (¬ v = 0 ↔ (∀ k, k < i → aOne X t D k ∧ ∀ j, j < k → ¬ aPair X t D k j)) → Z G mX9_isAllowed (zrm 2 0 0) 0 0 9 [some (.ref 77), some (.int (nI t)), some (.int v), some (.int (nI (1 - t))), some (.int (nI i)), e5] [] (zw X1 Y O) (fun r w => ∃ v, r = .inl (some (.int v)) ∧ bit v ∧ w = zw X1 Y O ∧ (¬ v = 0 ↔ allow X t n D)) := by
  have h4 := rel_4 hR
  intro m
  induction m with
  | zero =>
    intro i v e5 hi hb hv
    have hin : i = n := by omega
    subst hin
    refine z_iload dX9_isAllowed_9 rfl (q := 11) rfl ?_
    refine z_aload_n (i := 0) dX9_isAllowed_11 rfl rfl (q := 12) rfl ?_
    refine z_get dX9_isAllowed_12 fX9_64 (wm _ _ _) rfl (q := 15) rfl ?_
    rw [hR.1]
    refine z_icmp_ge (tgt := 176) dX9_isAllowed_15 (by decide) (q := 18) rfl (fun h15 => ?_) (fun h15 => absurd (zge_t (by omega)) h15)
    refine z_iload_n (i := 2) dX9_isAllowed_176 rfl rfl (q := 177) rfl ?_
    exact z_zret dX9_isAllowed_177 rfl (bit_nar hb) ⟨zle rfl, zle rfl⟩ ⟨v, rfl, hb, rfl, hv⟩
  | succ m ih =>
    intro i v e5 hi hb hv
    refine z_iload dX9_isAllowed_9 rfl (q := 11) rfl ?_
    refine z_aload_n (i := 0) dX9_isAllowed_11 rfl rfl (q := 12) rfl ?_
    refine z_get dX9_isAllowed_12 fX9_64 (wm _ _ _) rfl (q := 15) rfl ?_
    rw [hR.1]
    refine z_icmp_ge (tgt := 176) dX9_isAllowed_15 (by decide) (q := 18) rfl (fun h15 => absurd h15 (zge_f (by omega) (by omega))) (fun h15 => ?_)
    refine z_iload_n (i := 2) dX9_isAllowed_18 rfl rfl (q := 19) rfl ?_
    refine z_if_eq (tgt := 74) dX9_isAllowed_19 (by decide) (q := 22) rfl (fun h19 => ?_) (fun h19 => ?_)
    · refine z_iconst (v := 0) dX9_isAllowed_74 rfl (q := 75) rfl ?_
      refine z_istore_n (i := 2) dX9_isAllowed_75 rfl (zle rfl) rfl (q := 76) rfl ?_
      refine z_iconst (v := 0) dX9_isAllowed_76 rfl (q := 77) rfl ?_
      refine z_istore dX9_isAllowed_77 (zle rfl) rfl (q := 79) rfl ?_
      refine z_X9_isAllowed_79 (i := i) (Q := (∀ k, k < i → aOne X t D k ∧ ∀ j, j < k → ¬ aPair X t D k j) ∧ aOne X t D i) hR ht hD (by omega) i 0 0 (by omega) (ou_f hv (Or.inl h19)) (Or.inl rfl) (fun v2 hb2 hv2 => ?_)
      refine z_iinc dX9_isAllowed_170 rfl rfl (zle rfl) rfl (q := 173) rfl ?_
      refine z_goto (tgt := 9) dX9_isAllowed_173 (by decide) ?_
      refine Z.eql (zl2 := [some (.ref 77), some (.int (nI t)), some (.int v2), some (.int (nI (1 - t))), some (.int (nI (i + 1))), _]) (by rw [← nI_1 i]; rfl) ?_
      exact ih (i + 1) v2 _ (by omega) hb2 (ou_n hv2)
    · refine z_iload_n (i := 1) dX9_isAllowed_22 rfl rfl (q := 23) rfl ?_
      refine z_aload_n (i := 0) dX9_isAllowed_23 rfl rfl (q := 24) rfl ?_
      refine z_get dX9_isAllowed_24 fX9_48 (wm _ _ _) rfl (q := 27) rfl ?_
      refine z_iload dX9_isAllowed_27 rfl (q := 29) rfl ?_
      refine z_iald dX9_isAllowed_29 (wma_now _ _ _) (zin (by omega) (by decide)) (q := 30) rfl ?_
      rw [nI_clamp (by omega), hD _ (by omega)]
      refine z_aload_n (i := 0) dX9_isAllowed_30 rfl rfl (q := 31) rfl ?_
      refine z_iload dX9_isAllowed_31 rfl (q := 33) rfl ?_
      refine z_iload_n (i := 1) dX9_isAllowed_33 rfl rfl (q := 34) rfl ?_
      refine z_callVF (As := [_, _]) dX9_isAllowed_34 kX9_79 (c_X9_sizeAt hR (by omega) ht) (wm _ _ _) rfl rfl (zle rfl) ⟨zle rfl, zle rfl⟩ ⟨zle rfl, zle rfl⟩ (q := 37) rfl ?_
      refine z_callSF (As := [_, _, _]) dX9_isAllowed_37 kX9_86 (c_X9_isOn ht) rfl (zle rfl) ⟨zle rfl, zle rfl⟩ ⟨zle rfl, zle rfl⟩ (q := 40) rfl ?_
      refine z_if_eq (tgt := 74) dX9_isAllowed_40 (by decide) (q := 43) rfl (fun h40 => ?_) (fun h40 => ?_)
      · replace h40 := zb_0.mp h40
        refine z_iconst (v := 0) dX9_isAllowed_74 rfl (q := 75) rfl ?_
        refine z_istore_n (i := 2) dX9_isAllowed_75 rfl (zle rfl) rfl (q := 76) rfl ?_
        refine z_iconst (v := 0) dX9_isAllowed_76 rfl (q := 77) rfl ?_
        refine z_istore dX9_isAllowed_77 (zle rfl) rfl (q := 79) rfl ?_
        refine z_X9_isAllowed_79 (i := i) (Q := (∀ k, k < i → aOne X t D k ∧ ∀ j, j < k → ¬ aPair X t D k j) ∧ aOne X t D i) hR ht hD (by omega) i 0 0 (by omega) (ou_f hv (Or.inr (fun h9 => h40 h9.1))) (Or.inl rfl) (fun v2 hb2 hv2 => ?_)
        refine z_iinc dX9_isAllowed_170 rfl rfl (zle rfl) rfl (q := 173) rfl ?_
        refine z_goto (tgt := 9) dX9_isAllowed_173 (by decide) ?_
        refine Z.eql (zl2 := [some (.ref 77), some (.int (nI t)), some (.int v2), some (.int (nI (1 - t))), some (.int (nI (i + 1))), _]) (by rw [← nI_1 i]; rfl) ?_
        exact ih (i + 1) v2 _ (by omega) hb2 (ou_n hv2)
      · replace h40 := zb_1.mp h40
        refine z_aload_n (i := 0) dX9_isAllowed_43 rfl rfl (q := 44) rfl ?_
        refine z_get dX9_isAllowed_44 fX9_19 (wm _ _ _) rfl (q := 47) rfl ?_
        refine z_iload dX9_isAllowed_47 rfl (q := 49) rfl ?_
        refine z_zald dX9_isAllowed_49 (wma_isLocked _ _ _) (zin (by omega) (by decide)) (q := 50) rfl ?_
        rw [nI_clamp (by omega), (hR.2.2.1 i (by omega)).2.2.2.2.2]
        refine z_if_eq (tgt := 70) dX9_isAllowed_50 (by decide) (q := 53) rfl (fun h50 => ?_) (fun h50 => ?_)
        · refine z_iconst (v := 1) dX9_isAllowed_70 rfl (q := 71) rfl ?_
          refine z_goto (tgt := 75) dX9_isAllowed_71 (by decide) ?_
          refine z_istore_n (i := 2) dX9_isAllowed_75 rfl (zle rfl) rfl (q := 76) rfl ?_
          refine z_iconst (v := 0) dX9_isAllowed_76 rfl (q := 77) rfl ?_
          refine z_istore dX9_isAllowed_77 (zle rfl) rfl (q := 79) rfl ?_
          refine z_X9_isAllowed_79 (i := i) (Q := (∀ k, k < i → aOne X t D k ∧ ∀ j, j < k → ¬ aPair X t D k j) ∧ aOne X t D i) hR ht hD (by omega) i 0 1 (by omega) (ou_t hv h19 ⟨h40, Or.inl h50⟩) (Or.inr rfl) (fun v2 hb2 hv2 => ?_)
          refine z_iinc dX9_isAllowed_170 rfl rfl (zle rfl) rfl (q := 173) rfl ?_
          refine z_goto (tgt := 9) dX9_isAllowed_173 (by decide) ?_
          refine Z.eql (zl2 := [some (.ref 77), some (.int (nI t)), some (.int v2), some (.int (nI (1 - t))), some (.int (nI (i + 1))), _]) (by rw [← nI_1 i]; rfl) ?_
          exact ih (i + 1) v2 _ (by omega) hb2 (ou_n hv2)
        · refine z_aload_n (i := 0) dX9_isAllowed_53 rfl rfl (q := 54) rfl ?_
          refine z_get dX9_isAllowed_54 fX9_48 (wm _ _ _) rfl (q := 57) rfl ?_
          refine z_iload dX9_isAllowed_57 rfl (q := 59) rfl ?_
          refine z_iald dX9_isAllowed_59 (wma_now _ _ _) (zin (by omega) (by decide)) (q := 60) rfl ?_
          rw [nI_clamp (by omega), hD _ (by omega)]
          refine z_aload_n (i := 0) dX9_isAllowed_60 rfl rfl (q := 61) rfl ?_
          refine z_iload dX9_isAllowed_61 rfl (q := 63) rfl ?_
          refine z_iload_n (i := 1) dX9_isAllowed_63 rfl rfl (q := 64) rfl ?_
          refine z_callVF (As := [_, _]) dX9_isAllowed_64 kX9_75 (c_X9_at hR (by omega) ht) (wm _ _ _) rfl rfl (zle rfl) ⟨zle rfl, zle rfl⟩ ⟨zle rfl, zle rfl⟩ (q := 67) rfl ?_
          refine z_icmp_ne (tgt := 74) dX9_isAllowed_67 (by decide) (q := 70) rfl (fun h67 => ?_) (fun h67 => ?_)
          · refine z_iconst (v := 0) dX9_isAllowed_74 rfl (q := 75) rfl ?_
            refine z_istore_n (i := 2) dX9_isAllowed_75 rfl (zle rfl) rfl (q := 76) rfl ?_
            refine z_iconst (v := 0) dX9_isAllowed_76 rfl (q := 77) rfl ?_
            refine z_istore dX9_isAllowed_77 (zle rfl) rfl (q := 79) rfl ?_
            refine z_X9_isAllowed_79 (i := i) (Q := (∀ k, k < i → aOne X t D k ∧ ∀ j, j < k → ¬ aPair X t D k j) ∧ aOne X t D i) hR ht hD (by omega) i 0 0 (by omega) (ou_f hv (Or.inr (fun h9 => h9.2.elim h50 h67))) (Or.inl rfl) (fun v2 hb2 hv2 => ?_)
            refine z_iinc dX9_isAllowed_170 rfl rfl (zle rfl) rfl (q := 173) rfl ?_
            refine z_goto (tgt := 9) dX9_isAllowed_173 (by decide) ?_
            refine Z.eql (zl2 := [some (.ref 77), some (.int (nI t)), some (.int v2), some (.int (nI (1 - t))), some (.int (nI (i + 1))), _]) (by rw [← nI_1 i]; rfl) ?_
            exact ih (i + 1) v2 _ (by omega) hb2 (ou_n hv2)
          · refine z_iconst (v := 1) dX9_isAllowed_70 rfl (q := 71) rfl ?_
            refine z_goto (tgt := 75) dX9_isAllowed_71 (by decide) ?_
            refine z_istore_n (i := 2) dX9_isAllowed_75 rfl (zle rfl) rfl (q := 76) rfl ?_
            refine z_iconst (v := 0) dX9_isAllowed_76 rfl (q := 77) rfl ?_
            refine z_istore dX9_isAllowed_77 (zle rfl) rfl (q := 79) rfl ?_
            refine z_X9_isAllowed_79 (i := i) (Q := (∀ k, k < i → aOne X t D k ∧ ∀ j, j < k → ¬ aPair X t D k j) ∧ aOne X t D i) hR ht hD (by omega) i 0 1 (by omega) (ou_t hv h19 ⟨h40, Or.inr h67⟩) (Or.inr rfl) (fun v2 hb2 hv2 => ?_)
            refine z_iinc dX9_isAllowed_170 rfl rfl (zle rfl) rfl (q := 173) rfl ?_
            refine z_goto (tgt := 9) dX9_isAllowed_173 (by decide) ?_
            refine Z.eql (zl2 := [some (.ref 77), some (.int (nI t)), some (.int v2), some (.int (nI (1 - t))), some (.int (nI (i + 1))), _]) (by rw [← nI_1 i]; rfl) ?_
            exact ih (i + 1) v2 _ (by omega) hb2 (ou_n hv2)
set_option maxRecDepth 100000 in
set_option maxHeartbeats 4000000 in
theorem c_X9_isAllowed {n nw t : Nat} {D : Nat → Int32} (hR : rel X Y n nw) (ht : t < 2) (hD : ∀ k, k < n → Y.1 12 k = D k) : ZM G mX9_isAllowed 2 0 0 [.ref 77, .int (nI t)] (zw X1 Y O) (fun r w => ∃ v, r = .inl (some (.int v)) ∧ bit v ∧ w = zw X1 Y O ∧ (¬ v = 0 ↔ allow X t n D)) := by
  refine ZM.go pX9 rfl rfl (zle rfl) (zl := [some (.ref 77), some (.int (nI t)), none, none, none, none]) rfl ?_
  refine z_iconst (v := 1) dX9_isAllowed_0 rfl (q := 1) rfl ?_
  refine z_istore_n (i := 2) dX9_isAllowed_1 rfl (zle rfl) rfl (q := 2) rfl ?_
  refine z_iconst (v := 1) dX9_isAllowed_2 rfl (q := 3) rfl ?_
  refine z_iload_n (i := 1) dX9_isAllowed_3 rfl rfl (q := 4) rfl ?_
  refine z_isub dX9_isAllowed_4 (q := 5) rfl ?_
  rw [one_sub ht]
  refine z_istore_n (i := 3) dX9_isAllowed_5 rfl (zle rfl) rfl (q := 6) rfl ?_
  refine z_iconst (v := 0) dX9_isAllowed_6 rfl (q := 7) rfl ?_
  refine z_istore dX9_isAllowed_7 (zle rfl) rfl (q := 9) rfl ?_
  exact z_X9_isAllowed_9 hR ht hD n 0 1 none (by omega) (Or.inr rfl) ⟨fun _ k hk => absurd hk (by omega), fun _ => by decide⟩
set_option maxRecDepth 100000 in
set_option maxHeartbeats 4000000 in
theorem z_X9_costNow_4 {n nw t : Nat} {D : Nat → Int32} (hR : rel X Y n nw) (ht : t < 2) (hD : ∀ k, k < n → Y.1 12 k = D k) : ∀ (m i : Nat) (a : Int32), i + m = n → Z G mX9_costNow (zrm 1 0 0) 0 0 4 [some (.ref 77), some (.int (nI t)), some (.int a), some (.int (nI i))] [] (zw X1 Y O) (zEq (some (.int (rsum (fun k => iabs (D k - X.2.1 (2 * t) k)) i m a))) (zw X1 Y O)) := by
  intro m
  induction m with
  | zero =>
    intro i a hi
    have h4 := rel_4 hR
    refine z_iload_n (i := 3) dX9_costNow_4 rfl rfl (q := 5) rfl ?_
    refine z_aload_n (i := 0) dX9_costNow_5 rfl rfl (q := 6) rfl ?_
    refine z_get dX9_costNow_6 fX9_64 (wm _ _ _) rfl (q := 9) rfl ?_
    rw [hR.1]
    refine z_icmp_ge (tgt := 37) dX9_costNow_9 (by decide) (q := 12) rfl (fun h9 => ?_) (fun h9 => absurd (zge_t (by omega)) h9)
    refine z_iload_n (i := 2) dX9_costNow_37 rfl rfl (q := 38) rfl ?_
    exact z_iret dX9_costNow_38 rfl ⟨zle rfl, zle rfl⟩ ⟨rfl, rfl⟩
  | succ m ih =>
    intro i a hi
    have h4 := rel_4 hR
    refine z_iload_n (i := 3) dX9_costNow_4 rfl rfl (q := 5) rfl ?_
    refine z_aload_n (i := 0) dX9_costNow_5 rfl rfl (q := 6) rfl ?_
    refine z_get dX9_costNow_6 fX9_64 (wm _ _ _) rfl (q := 9) rfl ?_
    rw [hR.1]
    refine z_icmp_ge (tgt := 37) dX9_costNow_9 (by decide) (q := 12) rfl (fun h9 => absurd h9 (zge_f (by omega) (by omega))) (fun h9 => ?_)
    refine z_iload_n (i := 2) dX9_costNow_12 rfl rfl (q := 13) rfl ?_
    refine z_aload_n (i := 0) dX9_costNow_13 rfl rfl (q := 14) rfl ?_
    refine z_get dX9_costNow_14 fX9_48 (wm _ _ _) rfl (q := 17) rfl ?_
    refine z_iload_n (i := 3) dX9_costNow_17 rfl rfl (q := 18) rfl ?_
    refine z_iald dX9_costNow_18 (wma_now _ _ _) (zin (by omega) (by decide)) (q := 19) rfl ?_
    rw [nI_clamp (by omega), hD _ (by omega)]
    refine z_aload_n (i := 0) dX9_costNow_19 rfl rfl (q := 20) rfl ?_
    refine z_iload_n (i := 3) dX9_costNow_20 rfl rfl (q := 21) rfl ?_
    refine z_iload_n (i := 1) dX9_costNow_21 rfl rfl (q := 22) rfl ?_
    refine z_callVF (As := [_, _]) dX9_costNow_22 kX9_75 (c_X9_at hR (by omega) ht) (wm _ _ _) rfl rfl (zle rfl) ⟨zle rfl, zle rfl⟩ ⟨zle rfl, zle rfl⟩ (q := 25) rfl ?_
    refine z_isub dX9_costNow_25 (q := 26) rfl ?_
    refine z_callSF (As := [_]) dX9_costNow_26 kX9_109 (c_X9_without ) rfl (zle rfl) ⟨zle rfl, zle rfl⟩ ⟨zle rfl, zle rfl⟩ (q := 29) rfl ?_
    refine z_iadd dX9_costNow_29 (q := 30) rfl ?_
    refine z_istore_n (i := 2) dX9_costNow_30 rfl (zle rfl) rfl (q := 31) rfl ?_
    refine z_iinc dX9_costNow_31 rfl rfl (zle rfl) rfl (q := 34) rfl ?_
    refine z_goto (tgt := 4) dX9_costNow_34 (by decide) ?_
    refine Z.eql (zl2 := [some (.ref 77), some (.int (nI t)), _, some (.int (nI (i + 1)))]) (by first | (rw [← nI_1 i]; done) | (rw [← nI_1 i]; rfl)) ?_
    exact ih (i + 1) _ (by omega)
set_option maxRecDepth 100000 in
set_option maxHeartbeats 4000000 in
theorem c_X9_costNow {n nw t : Nat} {D : Nat → Int32} (hR : rel X Y n nw) (ht : t < 2) (hD : ∀ k, k < n → Y.1 12 k = D k) : ZM G mX9_costNow 1 0 0 [.ref 77, .int (nI t)] (zw X1 Y O) (zEq (some (.int (rsum (fun k => iabs (D k - X.2.1 (2 * t) k)) 0 n 0))) (zw X1 Y O)) := by
  refine ZM.go pX9 rfl rfl (zle rfl) (zl := [some (.ref 77), some (.int (nI t)), none, none]) rfl ?_
  refine z_iconst (v := 0) dX9_costNow_0 rfl (q := 1) rfl ?_
  refine z_istore_n (i := 2) dX9_costNow_1 rfl (zle rfl) rfl (q := 2) rfl ?_
  refine z_iconst (v := 0) dX9_costNow_2 rfl (q := 3) rfl ?_
  refine z_istore_n (i := 3) dX9_costNow_3 rfl (zle rfl) rfl (q := 4) rfl ?_
  exact z_X9_costNow_4 hR ht hD n 0 0 (by omega)
end
