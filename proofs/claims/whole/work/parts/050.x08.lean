section
variable {G : zG} {X : zX} {Y : zY} {O : zO}
set_option maxRecDepth 100000 in
set_option maxHeartbeats 4000000 in
def rs2 (g : Nat → Nat → Int32) : Nat → Nat → Int32 → Int32
  | _, 0, a => a
  | k, m + 1, a => rs2 g (k + 1) m (rsum (g k) (k + 1) m a)
set_option maxRecDepth 100000 in
set_option maxHeartbeats 4000000 in
def rc2 : Nat → Nat → Nat
  | 0, c => c
  | m + 1, c => rc2 m (c + m)
set_option maxRecDepth 100000 in
set_option maxHeartbeats 4000000 in
def A_mean (X : zX) (n : Nat) : UInt64 := FP.ddiv (FP.i2d (rs2 (zdist X) 0 n 0)) (FP.i2d (nI (rc2 n 0)))
set_option maxRecDepth 100000 in
set_option maxHeartbeats 4000000 in
theorem z_X8_meanDistance_19 {n : Nat} (hn : X.1 0 = nI n) (h4 : n ≤ 4) {k : Nat} {P : zRes → zWorld → Prop} (hk : k < n) : ∀ (m i : Nat) (a : Int32) (p : Nat), i + m = n → Z G mX8_meanDistance (zrm 3 1 6) 0 0 54 [some (.ref 0), some (.int (rsum (zdist X k) i m a)), some (.int (nI (p + m))), some (.int (nI k)), some (.int (nI n))] [] (zw X Y O) P → Z G mX8_meanDistance (zrm 3 1 6) 0 0 19 [some (.ref 0), some (.int a), some (.int (nI p)), some (.int (nI k)), some (.int (nI i))] [] (zw X Y O) (P) := by
  intro m
  induction m with
  | zero =>
    intro i a p hi hx
    have hin : i = n := by omega
    subst hin
    simp only [rsum, Nat.add_zero] at hx
    refine z_iload dX8_meanDistance_19 rfl (q := 21) rfl ?_
    refine z_aload_n (i := 0) dX8_meanDistance_21 rfl rfl (q := 22) rfl ?_
    refine z_callVF (As := []) dX8_meanDistance_22 kX8_82 (c_X8_shapeCount ) (wo_x _ _ _) rfl rfl (zle rfl) ⟨zle rfl, zle rfl⟩ ⟨zle rfl, zle rfl⟩ (q := 25) rfl ?_
    rw [hn]
    refine z_icmp_ge (tgt := 54) dX8_meanDistance_25 (by decide) (q := 28) rfl (fun h25 => ?_) (fun h25 => absurd (zge_t (by omega)) h25)
    exact hx
  | succ m ih =>
    intro i a p hi hx
    refine z_iload dX8_meanDistance_19 rfl (q := 21) rfl ?_
    refine z_aload_n (i := 0) dX8_meanDistance_21 rfl rfl (q := 22) rfl ?_
    refine z_callVF (As := []) dX8_meanDistance_22 kX8_82 (c_X8_shapeCount ) (wo_x _ _ _) rfl rfl (zle rfl) ⟨zle rfl, zle rfl⟩ ⟨zle rfl, zle rfl⟩ (q := 25) rfl ?_
    rw [hn]
    refine z_icmp_ge (tgt := 54) dX8_meanDistance_25 (by decide) (q := 28) rfl (fun h25 => absurd h25 (zge_f (by omega) (by omega))) (fun h25 => ?_)
    refine z_iload_n (i := 1) dX8_meanDistance_28 rfl rfl (q := 29) rfl ?_
    refine z_aload_n (i := 0) dX8_meanDistance_29 rfl rfl (q := 30) rfl ?_
    refine z_get dX8_meanDistance_30 fX8_14 (wo_x _ _ _) rfl (q := 33) rfl ?_
    refine z_aload_n (i := 0) dX8_meanDistance_33 rfl rfl (q := 34) rfl ?_
    refine z_get dX8_meanDistance_34 fX8_18 (wo_x _ _ _) rfl (q := 37) rfl ?_
    refine z_iload_n (i := 3) dX8_meanDistance_37 rfl rfl (q := 38) rfl ?_
    refine z_iload dX8_meanDistance_38 rfl (q := 40) rfl ?_
    refine z_callSF (As := [_, _, _, _]) dX8_meanDistance_40 kX8_270 (c_X3_unitsBetween (by omega) (by omega)) rfl (zle rfl) ⟨zle rfl, zle rfl⟩ ⟨zle rfl, zle rfl⟩ (q := 43) rfl ?_
    refine z_iadd dX8_meanDistance_43 (q := 44) rfl ?_
    refine z_istore_n (i := 1) dX8_meanDistance_44 rfl (zle rfl) rfl (q := 45) rfl ?_
    refine z_iinc dX8_meanDistance_45 rfl rfl (zle rfl) rfl (q := 48) rfl ?_
    refine z_iinc dX8_meanDistance_48 rfl rfl (zle rfl) rfl (q := 51) rfl ?_
    refine z_goto (tgt := 19) dX8_meanDistance_51 (by decide) ?_
    refine Z.eql (zl2 := [some (.ref 0), some (.int (a + zdist X k i)), some (.int (nI (p + 1))), some (.int (nI k)), some (.int (nI (i + 1)))]) (by show [_, _, some (Value.int (nI p + 1)), _, some (Value.int (nI i + 1))] = _; rw [nI_1, nI_1]) ?_
    refine ih (i + 1) (a + zdist X k i) (p + 1) (by omega) ?_
    rw [show p + 1 + m = p + (m + 1) by omega]
    exact hx
set_option maxRecDepth 100000 in
set_option maxHeartbeats 4000000 in
theorem z_X8_meanDistance_6 {n : Nat} (hn : X.1 0 = nI n) (h4 : n ≤ 4) {P : zRes → zWorld → Prop} (hx : ∀ jj : Option Value, Z G mX8_meanDistance (zrm 3 1 6) 0 0 60 [some (.ref 0), some (.int (rs2 (zdist X) 0 n 0)), some (.int (nI (rc2 n 0))), some (.int (nI n)), jj] [] (zw X Y O) P) : ∀ (m i : Nat) (a : Int32) (p : Nat) (jj : Option Value), i + m = n → (rs2 (zdist X) 0 n 0 = rs2 (zdist X) i m a ∧ rc2 n 0 = rc2 m p) → Z G mX8_meanDistance (zrm 3 1 6) 0 0 6 [some (.ref 0), some (.int a), some (.int (nI p)), some (.int (nI i)), jj] [] (zw X Y O) P := by
  intro m
  induction m with
  | zero =>
    intro i a p jj hi hh
    have hin : i = n := by omega
    subst hin
    have hx := hx jj
    rw [hh.1, hh.2] at hx
    simp only [rs2, rc2] at hx
    refine z_iload_n (i := 3) dX8_meanDistance_6 rfl rfl (q := 7) rfl ?_
    refine z_aload_n (i := 0) dX8_meanDistance_7 rfl rfl (q := 8) rfl ?_
    refine z_callVF (As := []) dX8_meanDistance_8 kX8_82 (c_X8_shapeCount ) (wo_x _ _ _) rfl rfl (zle rfl) ⟨zle rfl, zle rfl⟩ ⟨zle rfl, zle rfl⟩ (q := 11) rfl ?_
    rw [hn]
    refine z_icmp_ge (tgt := 60) dX8_meanDistance_11 (by decide) (q := 14) rfl (fun h11 => ?_) (fun h11 => absurd (zge_t (by omega)) h11)
    exact hx
  | succ m ih =>
    intro i a p jj hi hh
    refine z_iload_n (i := 3) dX8_meanDistance_6 rfl rfl (q := 7) rfl ?_
    refine z_aload_n (i := 0) dX8_meanDistance_7 rfl rfl (q := 8) rfl ?_
    refine z_callVF (As := []) dX8_meanDistance_8 kX8_82 (c_X8_shapeCount ) (wo_x _ _ _) rfl rfl (zle rfl) ⟨zle rfl, zle rfl⟩ ⟨zle rfl, zle rfl⟩ (q := 11) rfl ?_
    rw [hn]
    refine z_icmp_ge (tgt := 60) dX8_meanDistance_11 (by decide) (q := 14) rfl (fun h11 => absurd h11 (zge_f (by omega) (by omega))) (fun h11 => ?_)
    refine z_iload_n (i := 3) dX8_meanDistance_14 rfl rfl (q := 15) rfl ?_
    refine z_iconst (v := 1) dX8_meanDistance_15 rfl (q := 16) rfl ?_
    refine z_iadd dX8_meanDistance_16 (q := 17) rfl ?_
    refine z_istore dX8_meanDistance_17 (zle rfl) rfl (q := 19) rfl ?_
    refine Z.eql (zl2 := [some (.ref 0), some (.int a), some (.int (nI p)), some (.int (nI i)), some (.int (nI (i + 1)))]) (by show [_, _, _, _, some (Value.int (nI i + 1))] = _; rw [nI_1]) ?_
    refine z_X8_meanDistance_19 hn h4 (by omega) m (i + 1) a p (by omega) ?_
    refine z_iinc dX8_meanDistance_54 rfl rfl (zle rfl) rfl (q := 57) rfl ?_
    refine z_goto (tgt := 6) dX8_meanDistance_57 (by decide) ?_
    refine Z.eql (zl2 := [some (.ref 0), some (.int (rsum (zdist X i) (i + 1) m a)), some (.int (nI (p + m))), some (.int (nI (i + 1))), some (.int (nI n))]) (by show [_, _, _, some (Value.int (nI i + 1)), _] = _; rw [nI_1]) ?_
    exact ih (i + 1) (rsum (zdist X i) (i + 1) m a) (p + m) _ (by omega) ⟨hh.1, hh.2⟩
set_option maxRecDepth 100000 in
set_option maxHeartbeats 4000000 in
theorem rc2_le : ∀ n, n ≤ 4 → rc2 n 0 ≤ 6 := by decide
set_option maxRecDepth 100000 in
set_option maxHeartbeats 4000000 in
theorem c_X8_meanDistance {n : Nat} (hn : X.1 0 = nI n) (h4 : n ≤ 4) (hp : ¬ rc2 n 0 = 0) (hf : vf_n64 (A_mean X n)) : ZM G mX8_meanDistance 3 1 6 [.ref 0] (zw X Y O) (zEq (some (.double (A_mean X n))) (zw X Y O)) := by
  have h6 := rc2_le n h4
  refine ZM.go pX8 rfl rfl (zle rfl) (zl := [some (.ref 0), none, none, none, none]) rfl ?_
  refine z_iconst (v := 0) dX8_meanDistance_0 rfl (q := 1) rfl ?_
  refine z_istore_n (i := 1) dX8_meanDistance_1 rfl (zle rfl) rfl (q := 2) rfl ?_
  refine z_iconst (v := 0) dX8_meanDistance_2 rfl (q := 3) rfl ?_
  refine z_istore_n (i := 2) dX8_meanDistance_3 rfl (zle rfl) rfl (q := 4) rfl ?_
  refine z_iconst (v := 0) dX8_meanDistance_4 rfl (q := 5) rfl ?_
  refine z_istore_n (i := 3) dX8_meanDistance_5 rfl (zle rfl) rfl (q := 6) rfl ?_
  refine z_X8_meanDistance_6 hn h4 (fun jj => ?_) n 0 0 0 none (by omega) ⟨rfl, rfl⟩
  refine z_iload_n (i := 2) dX8_meanDistance_60 rfl rfl (q := 61) rfl ?_
  refine z_if_ne (tgt := 75) dX8_meanDistance_61 (by decide) (q := 64) rfl (fun h61 => ?_) (fun h61 => absurd h61 (fun h9 => hp ((nI_eq (by omega) (by decide)).mp h9)))
  refine z_iload_n (i := 1) dX8_meanDistance_75 rfl rfl (q := 76) rfl ?_
  refine z_i2d dX8_meanDistance_76 (q := 77) rfl ?_
  refine z_iload_n (i := 2) dX8_meanDistance_77 rfl rfl (q := 78) rfl ?_
  refine z_i2d dX8_meanDistance_78 (q := 79) rfl ?_
  refine z_ddiv dX8_meanDistance_79 hf (q := 80) rfl ?_
  exact z_dret dX8_meanDistance_80 rfl ⟨zle rfl, zle rfl⟩ ⟨rfl, rfl⟩
set_option maxRecDepth 100000 in
set_option maxHeartbeats 4000000 in
theorem c_X8_meanDistance_none {n : Nat} (hn : X.1 0 = nI n) (h4 : n ≤ 4) (hp : rc2 n 0 = 0) : ZM G mX8_meanDistance 3 1 6 [.ref 0] (zw X Y O) (zTh eAE (zw X Y O)) := by
  refine ZM.go pX8 rfl rfl (zle rfl) (zl := [some (.ref 0), none, none, none, none]) rfl ?_
  refine z_iconst (v := 0) dX8_meanDistance_0 rfl (q := 1) rfl ?_
  refine z_istore_n (i := 1) dX8_meanDistance_1 rfl (zle rfl) rfl (q := 2) rfl ?_
  refine z_iconst (v := 0) dX8_meanDistance_2 rfl (q := 3) rfl ?_
  refine z_istore_n (i := 2) dX8_meanDistance_3 rfl (zle rfl) rfl (q := 4) rfl ?_
  refine z_iconst (v := 0) dX8_meanDistance_4 rfl (q := 5) rfl ?_
  refine z_istore_n (i := 3) dX8_meanDistance_5 rfl (zle rfl) rfl (q := 6) rfl ?_
  refine z_X8_meanDistance_6 hn h4 (fun jj => ?_) n 0 0 0 none (by omega) ⟨rfl, rfl⟩
  refine z_iload_n (i := 2) dX8_meanDistance_60 rfl rfl (q := 61) rfl ?_
  rw [hp]
  refine z_if_ne (tgt := 75) dX8_meanDistance_61 (by decide) (q := 64) rfl (fun h61 => absurd rfl h61) (fun h61 => ?_)
  exact z_throwW dX8_meanDistance_64 dX8_meanDistance_67 dX8_meanDistance_68 dX8_meanDistance_71 dX8_meanDistance_74 xX8_288_290 rfl ⟨zle rfl, zle rfl, zle rfl, zle rfl⟩ ⟨rfl, rfl⟩
end
