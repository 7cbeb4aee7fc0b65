section
variable {G : zG} {X : zX} {Y : zY} {O : zO}
/- all but the contents of one row is as it was -/
set_option maxRecDepth 100000 in
set_option maxHeartbeats 4000000 in
def k1 (r0 : Nat) (X X2 : zX) : Prop := (∀ r, r ≠ r0 → X2.1 r = X.1 r ∧ X2.2.1 r = X.2.1 r) ∧ X2.1 r0 = X.1 r0 ∧ X2.2.2 = X.2.2
set_option maxRecDepth 100000 in
set_option maxHeartbeats 4000000 in
theorem k1_refl (r0 : Nat) (X : zX) : k1 r0 X X := ⟨fun _ _ => ⟨rfl, rfl⟩, rfl, rfl⟩
set_option maxRecDepth 100000 in
set_option maxHeartbeats 4000000 in
theorem k1_row {r0 : Nat} {X X2 : zX} (h : k1 r0 X X2) (f : Nat → Int32) : k1 r0 X (xrow X2 r0 f (X2.1 r0)) :=
  ⟨fun r hr => ⟨(xrow_ln X2 hr f _).trans (h.1 r hr).1, (xrow_fn X2 hr f _).trans (h.1 r hr).2⟩, (xrow_l X2 r0 f _).trans h.2.1, h.2.2⟩
/- the state behind a move of all the shapes along an axis, by cost in all -/
set_option maxRecDepth 100000 in
set_option maxHeartbeats 4000000 in
def mvR (X : zX) (t n : Nat) (D : Nat → Nat) (c : Nat) (X2 : zX) : Prop := (∀ r, r ≤ 10 → r ≠ 2 * t → X2.1 r = X.1 r ∧ X2.2.1 r = X.2.1 r) ∧ X2.1 (2 * t) = X.1 (2 * t) ∧ (∀ k, k < n → X2.2.1 (2 * t) k = nI (D k)) ∧ X2.2.2.2 = X.2.2.2 + (nI c).toInt64
set_option maxRecDepth 100000 in
set_option maxHeartbeats 4000000 in
theorem mvR_of {X X1 X2 : zX} {t n c : Nat} {D : Nat → Nat} (ht : t < 2) (hk : keep0 X X1) (h : k1 (2 * t) X1 X2) (hc : X2.2.2.1 1 = nI c ∨ X2.2.2.1 3 = nI c) (hD : ∀ k, k < n → X2.2.1 (2 * t) k = nI (D k)) : mvR X t n D c (xmv X2 (X2.2.2.2 + (nI c).toInt64)) :=
  ⟨fun r hr hne => ⟨(h.1 r hne).1.trans (hk.1 r hr).1, (h.1 r hne).2.trans (hk.1 r hr).2⟩, h.2.1.trans (hk.1 (2 * t) (by omega)).1, hD, by
    show X2.2.2.2 + (nI c).toInt64 = X.2.2.2 + (nI c).toInt64
    rw [show X2.2.2.2 = X.2.2.2 from (congrArg Prod.snd h.2.2).trans hk.2]⟩
set_option maxRecDepth 100000 in
set_option maxHeartbeats 4000000 in
theorem z_X8_tidy_13_0 {n nw : Nat} {B : bst} {X2 : zX} (h4 : n ≤ 4) (hk0 : keep0 X X2) (hB : bestW X2 n B) (hr : tdR X 0 n nw B) : ∀ (m i : Nat) (X1 : zX), i + m = n → k1 (2 * 0) X2 X1 → X1.1 0 = nI n → (∀ k, k < i → X1.2.1 (2 * 0) k = nI (B.2.2 k)) → Z G mX8_tidy (zrm 13 1 6) 0 0 13 [some (.ref 0), some (.int (zch 0)), some (.ref 1), some (.int (nI i))] [] (zw X1 Y O) (fun r w2 => ∃ (X3 : zX) (B : bst), tdR X 0 n nw B ∧ r = .inl (some (.int (nI B.2.1))) ∧ w2 = zw X3 Y O ∧ mvR X 0 n B.2.2 B.2.1 X3) := by
  intro m
  induction m with
  | zero =>
    intro i X1 hi hk hn1 hp
    have he1 : X1.2.2.1 1 = nI B.2.1 := (congrFun (congrArg Prod.fst hk.2.2) 1).trans hB.2.1
    refine z_iload_n (i := 3) dX8_tidy_13 rfl rfl (q := 14) rfl ?_
    refine z_aload_n (i := 0) dX8_tidy_14 rfl rfl (q := 15) rfl ?_
    refine z_callVF (As := []) dX8_tidy_15 kX8_82 (c_X8_shapeCount ) (wo_x _ _ _) rfl rfl (zle rfl) ⟨zle rfl, zle rfl⟩ ⟨zle rfl, zle rfl⟩ (q := 18) rfl ?_
    rw [hn1]
    refine z_icmp_ge (tgt := 40) dX8_tidy_18 (by decide) (q := 21) rfl (fun h18 => ?_) (fun h18 => absurd (zge_t (by omega)) h18)
    refine z_aload_n (i := 0) dX8_tidy_40 rfl rfl (q := 41) rfl ?_
    refine z_dup dX8_tidy_41 rfl (q := 42) rfl ?_
    refine z_get dX8_tidy_42 fX8_65 (wo_x _ _ _) rfl (q := 45) rfl ?_
    refine z_aload_n (i := 0) dX8_tidy_45 rfl rfl (q := 46) rfl ?_
    refine z_get dX8_tidy_46 fX8_41 (wo_x _ _ _) rfl (q := 49) rfl ?_
    refine z_callVF (As := []) dX8_tidy_49 kX8_232 (c_X6_foundCost ) (wo_tidySearch _ _ _) rfl rfl (zle rfl) ⟨zle rfl, zle rfl⟩ ⟨zle rfl, zle rfl⟩ (q := 52) rfl ?_
    refine z_i2l dX8_tidy_52 (q := 53) rfl ?_
    rw [show X1.2.2.1 1 = nI B.2.1 from he1]
    refine z_ladd dX8_tidy_53 (q := 54) rfl ?_
    refine z_put dX8_tidy_54 fX8_65 (wo_x _ _ _) (zle rfl) (zfit_long _) (q := 57) rfl ?_
    refine Z.eqw (wmv _ _ _ _) ?_
    refine z_aload_n (i := 0) dX8_tidy_57 rfl rfl (q := 58) rfl ?_
    refine z_get dX8_tidy_58 fX8_41 (wo_x _ _ _) rfl (q := 61) rfl ?_
    refine z_callVF (As := []) dX8_tidy_61 kX8_232 (c_X6_foundCost ) (wo_tidySearch _ _ _) rfl rfl (zle rfl) ⟨zle rfl, zle rfl⟩ ⟨zle rfl, zle rfl⟩ (q := 64) rfl ?_
    exact z_iret dX8_tidy_64 rfl ⟨zle rfl, zle rfl⟩ ⟨_, B, hr, congrArg (fun v => Sum.inl (some (Value.int v))) he1, rfl, mvR_of (by decide) hk0 hk (Or.inl he1) (fun k h => hp k (by omega))⟩
  | succ m ih =>
    intro i X1 hi hk hn1 hp
    refine z_iload_n (i := 3) dX8_tidy_13 rfl rfl (q := 14) rfl ?_
    refine z_aload_n (i := 0) dX8_tidy_14 rfl rfl (q := 15) rfl ?_
    refine z_callVF (As := []) dX8_tidy_15 kX8_82 (c_X8_shapeCount ) (wo_x _ _ _) rfl rfl (zle rfl) ⟨zle rfl, zle rfl⟩ ⟨zle rfl, zle rfl⟩ (q := 18) rfl ?_
    rw [hn1]
    refine z_icmp_ge (tgt := 40) dX8_tidy_18 (by decide) (q := 21) rfl (fun h18 => absurd h18 (zge_f (by omega) (by omega))) (fun h18 => ?_)
    refine z_aload_n (i := 2) dX8_tidy_21 rfl rfl (q := 22) rfl ?_
    refine z_iload_n (i := 3) dX8_tidy_22 rfl rfl (q := 23) rfl ?_
    refine z_aload_n (i := 0) dX8_tidy_23 rfl rfl (q := 24) rfl ?_
    refine z_get dX8_tidy_24 fX8_41 (wo_x _ _ _) rfl (q := 27) rfl ?_
    refine z_iload_n (i := 3) dX8_tidy_27 rfl rfl (q := 28) rfl ?_
    refine z_callVF (As := [_]) dX8_tidy_28 kX8_235 (c_X6_foundStart (k := i) (by omega)) (wo_tidySearch _ _ _) rfl rfl (zle rfl) ⟨zle rfl, zle rfl⟩ ⟨zle rfl, zle rfl⟩ (q := 31) rfl ?_
    rw [show X1.2.1 24 i = nI (B.2.2 i) from (congrFun (hk.1 24 (by decide)).2 i).trans (hB.2.2.2.2 i (by omega))]
    refine z_callVF (As := [_, _]) dX8_tidy_31 kX8_142 (c_X0_setStart (t := 0) (by decide) (by omega)) (wo_across _ _ _) rfl rfl (zle rfl) ⟨zle rfl, zle rfl⟩ ⟨zle rfl, zle rfl⟩ (q := 34) rfl ?_
    refine z_iinc dX8_tidy_34 rfl rfl (zle rfl) rfl (q := 37) rfl ?_
    refine z_goto (tgt := 13) dX8_tidy_37 (by decide) ?_
    refine Z.eql (zl2 := [some (.ref 0), some (.int (zch 0)), some (.ref 1), some (.int (nI (i + 1)))]) (by first | (rw [← nI_1 i]; done) | (rw [← nI_1 i]; rfl)) ?_
    refine ih (i + 1) _ (by omega) (k1_row hk _) hn1 (fun k h => ?_)
    rw [xrow_f]
    rcases Nat.lt_or_ge k i with h1 | h1
    · exact (if_neg (by omega)).trans (hp k h1)
    · rw [show k = i by omega]; exact if_pos rfl
set_option maxRecDepth 100000 in
set_option maxHeartbeats 4000000 in
theorem c_X8_tidy_0 {n nw : Nat} (hI : inv X n nw) : ZM G mX8_tidy 13 1 6 [.ref 0, .int (zch 0)] (zw X Y O) (fun r w2 => ∃ (X3 : zX) (B : bst), tdR X 0 n nw B ∧ r = .inl (some (.int (nI B.2.1))) ∧ w2 = zw X3 Y O ∧ mvR X 0 n B.2.2 B.2.1 X3) := by
  refine ZM.go pX8 rfl rfl (zle rfl) (zl := [some (.ref 0), some (.int (zch 0)), none, none]) rfl ?_
  refine z_aload_n (i := 0) dX8_tidy_0 rfl rfl (q := 1) rfl ?_
  refine z_iload_n (i := 1) dX8_tidy_1 rfl rfl (q := 2) rfl ?_
  refine z_callV (As := [_]) dX8_tidy_2 kX8_219 (c_X8_searchTidiest_0 hI) (wo_x _ _ _) rfl rfl (zle rfl) ⟨zle rfl, zle rfl⟩ ⟨zle rfl, zle rfl⟩ (q := 5) rfl (fun rv w2 hw2 => ?_) (fun E w2 h9 => by cases h9.1)
  obtain ⟨h9, X2, B, rfl, hk, hB, hr⟩ := hw2
  cases h9
  refine z_aload_n (i := 0) dX8_tidy_5 rfl rfl (q := 6) rfl ?_
  refine z_iload_n (i := 1) dX8_tidy_6 rfl rfl (q := 7) rfl ?_
  refine z_callVF (As := [_]) dX8_tidy_7 kX8_116 (c_X8_axisNamed (t := 0) (by decide)) (wo_x _ _ _) rfl rfl (zle rfl) ⟨zle rfl, zle rfl⟩ ⟨zle rfl, zle rfl⟩ (q := 10) rfl ?_
  refine z_astore_n (i := 2) dX8_tidy_10 rfl (zle rfl) rfl (q := 11) rfl ?_
  refine z_iconst (v := 0) dX8_tidy_11 rfl (q := 12) rfl ?_
  refine z_istore_n (i := 3) dX8_tidy_12 rfl (zle rfl) rfl (q := 13) rfl ?_
  exact z_X8_tidy_13_0 hI.1 hk hB hr n 0 X2 (by omega) (k1_refl _ _) ((hk.1 0 (by decide)).1.trans (hI.2.2.1 0 (by decide))) (fun k h => absurd h (Nat.not_lt_zero _))
set_option maxRecDepth 100000 in
set_option maxHeartbeats 4000000 in
theorem z_X8_tidy_13_1 {n nw : Nat} {B : bst} {X2 : zX} (h4 : n ≤ 4) (hk0 : keep0 X X2) (hB : bestW X2 n B) (hr : tdR X 1 n nw B) : ∀ (m i : Nat) (X1 : zX), i + m = n → k1 (2 * 1) X2 X1 → X1.1 0 = nI n → (∀ k, k < i → X1.2.1 (2 * 1) k = nI (B.2.2 k)) → Z G mX8_tidy (zrm 13 1 6) 0 0 13 [some (.ref 0), some (.int (zch 1)), some (.ref 6), some (.int (nI i))] [] (zw X1 Y O) (fun r w2 => ∃ (X3 : zX) (B : bst), tdR X 1 n nw B ∧ r = .inl (some (.int (nI B.2.1))) ∧ w2 = zw X3 Y O ∧ mvR X 1 n B.2.2 B.2.1 X3) := by
  intro m
  induction m with
  | zero =>
    intro i X1 hi hk hn1 hp
    have he1 : X1.2.2.1 1 = nI B.2.1 := (congrFun (congrArg Prod.fst hk.2.2) 1).trans hB.2.1
    refine z_iload_n (i := 3) dX8_tidy_13 rfl rfl (q := 14) rfl ?_
    refine z_aload_n (i := 0) dX8_tidy_14 rfl rfl (q := 15) rfl ?_
    refine z_callVF (As := []) dX8_tidy_15 kX8_82 (c_X8_shapeCount ) (wo_x _ _ _) rfl rfl (zle rfl) ⟨zle rfl, zle rfl⟩ ⟨zle rfl, zle rfl⟩ (q := 18) rfl ?_
    rw [hn1]
    refine z_icmp_ge (tgt := 40) dX8_tidy_18 (by decide) (q := 21) rfl (fun h18 => ?_) (fun h18 => absurd (zge_t (by omega)) h18)
    refine z_aload_n (i := 0) dX8_tidy_40 rfl rfl (q := 41) rfl ?_
    refine z_dup dX8_tidy_41 rfl (q := 42) rfl ?_
    refine z_get dX8_tidy_42 fX8_65 (wo_x _ _ _) rfl (q := 45) rfl ?_
    refine z_aload_n (i := 0) dX8_tidy_45 rfl rfl (q := 46) rfl ?_
    refine z_get dX8_tidy_46 fX8_41 (wo_x _ _ _) rfl (q := 49) rfl ?_
    refine z_callVF (As := []) dX8_tidy_49 kX8_232 (c_X6_foundCost ) (wo_tidySearch _ _ _) rfl rfl (zle rfl) ⟨zle rfl, zle rfl⟩ ⟨zle rfl, zle rfl⟩ (q := 52) rfl ?_
    refine z_i2l dX8_tidy_52 (q := 53) rfl ?_
    rw [show X1.2.2.1 1 = nI B.2.1 from he1]
    refine z_ladd dX8_tidy_53 (q := 54) rfl ?_
    refine z_put dX8_tidy_54 fX8_65 (wo_x _ _ _) (zle rfl) (zfit_long _) (q := 57) rfl ?_
    refine Z.eqw (wmv _ _ _ _) ?_
    refine z_aload_n (i := 0) dX8_tidy_57 rfl rfl (q := 58) rfl ?_
    refine z_get dX8_tidy_58 fX8_41 (wo_x _ _ _) rfl (q := 61) rfl ?_
    refine z_callVF (As := []) dX8_tidy_61 kX8_232 (c_X6_foundCost ) (wo_tidySearch _ _ _) rfl rfl (zle rfl) ⟨zle rfl, zle rfl⟩ ⟨zle rfl, zle rfl⟩ (q := 64) rfl ?_
    exact z_iret dX8_tidy_64 rfl ⟨zle rfl, zle rfl⟩ ⟨_, B, hr, congrArg (fun v => Sum.inl (some (Value.int v))) he1, rfl, mvR_of (by decide) hk0 hk (Or.inl he1) (fun k h => hp k (by omega))⟩
  | succ m ih =>
    intro i X1 hi hk hn1 hp
    refine z_iload_n (i := 3) dX8_tidy_13 rfl rfl (q := 14) rfl ?_
    refine z_aload_n (i := 0) dX8_tidy_14 rfl rfl (q := 15) rfl ?_
    refine z_callVF (As := []) dX8_tidy_15 kX8_82 (c_X8_shapeCount ) (wo_x _ _ _) rfl rfl (zle rfl) ⟨zle rfl, zle rfl⟩ ⟨zle rfl, zle rfl⟩ (q := 18) rfl ?_
    rw [hn1]
    refine z_icmp_ge (tgt := 40) dX8_tidy_18 (by decide) (q := 21) rfl (fun h18 => absurd h18 (zge_f (by omega) (by omega))) (fun h18 => ?_)
    refine z_aload_n (i := 2) dX8_tidy_21 rfl rfl (q := 22) rfl ?_
    refine z_iload_n (i := 3) dX8_tidy_22 rfl rfl (q := 23) rfl ?_
    refine z_aload_n (i := 0) dX8_tidy_23 rfl rfl (q := 24) rfl ?_
    refine z_get dX8_tidy_24 fX8_41 (wo_x _ _ _) rfl (q := 27) rfl ?_
    refine z_iload_n (i := 3) dX8_tidy_27 rfl rfl (q := 28) rfl ?_
    refine z_callVF (As := [_]) dX8_tidy_28 kX8_235 (c_X6_foundStart (k := i) (by omega)) (wo_tidySearch _ _ _) rfl rfl (zle rfl) ⟨zle rfl, zle rfl⟩ ⟨zle rfl, zle rfl⟩ (q := 31) rfl ?_
    rw [show X1.2.1 24 i = nI (B.2.2 i) from (congrFun (hk.1 24 (by decide)).2 i).trans (hB.2.2.2.2 i (by omega))]
    refine z_callVF (As := [_, _]) dX8_tidy_31 kX8_142 (c_X0_setStart (t := 1) (by decide) (by omega)) (wo_down _ _ _) rfl rfl (zle rfl) ⟨zle rfl, zle rfl⟩ ⟨zle rfl, zle rfl⟩ (q := 34) rfl ?_
    refine z_iinc dX8_tidy_34 rfl rfl (zle rfl) rfl (q := 37) rfl ?_
    refine z_goto (tgt := 13) dX8_tidy_37 (by decide) ?_
    refine Z.eql (zl2 := [some (.ref 0), some (.int (zch 1)), some (.ref 6), some (.int (nI (i + 1)))]) (by first | (rw [← nI_1 i]; done) | (rw [← nI_1 i]; rfl)) ?_
    refine ih (i + 1) _ (by omega) (k1_row hk _) hn1 (fun k h => ?_)
    rw [xrow_f]
    rcases Nat.lt_or_ge k i with h1 | h1
    · exact (if_neg (by omega)).trans (hp k h1)
    · rw [show k = i by omega]; exact if_pos rfl
set_option maxRecDepth 100000 in
set_option maxHeartbeats 4000000 in
theorem c_X8_tidy_1 {n nw : Nat} (hI : inv X n nw) : ZM G mX8_tidy 13 1 6 [.ref 0, .int (zch 1)] (zw X Y O) (fun r w2 => ∃ (X3 : zX) (B : bst), tdR X 1 n nw B ∧ r = .inl (some (.int (nI B.2.1))) ∧ w2 = zw X3 Y O ∧ mvR X 1 n B.2.2 B.2.1 X3) := by
  refine ZM.go pX8 rfl rfl (zle rfl) (zl := [some (.ref 0), some (.int (zch 1)), none, none]) rfl ?_
  refine z_aload_n (i := 0) dX8_tidy_0 rfl rfl (q := 1) rfl ?_
  refine z_iload_n (i := 1) dX8_tidy_1 rfl rfl (q := 2) rfl ?_
  refine z_callV (As := [_]) dX8_tidy_2 kX8_219 (c_X8_searchTidiest_1 hI) (wo_x _ _ _) rfl rfl (zle rfl) ⟨zle rfl, zle rfl⟩ ⟨zle rfl, zle rfl⟩ (q := 5) rfl (fun rv w2 hw2 => ?_) (fun E w2 h9 => by cases h9.1)
  obtain ⟨h9, X2, B, rfl, hk, hB, hr⟩ := hw2
  cases h9
  refine z_aload_n (i := 0) dX8_tidy_5 rfl rfl (q := 6) rfl ?_
  refine z_iload_n (i := 1) dX8_tidy_6 rfl rfl (q := 7) rfl ?_
  refine z_callVF (As := [_]) dX8_tidy_7 kX8_116 (c_X8_axisNamed (t := 1) (by decide)) (wo_x _ _ _) rfl rfl (zle rfl) ⟨zle rfl, zle rfl⟩ ⟨zle rfl, zle rfl⟩ (q := 10) rfl ?_
  refine z_astore_n (i := 2) dX8_tidy_10 rfl (zle rfl) rfl (q := 11) rfl ?_
  refine z_iconst (v := 0) dX8_tidy_11 rfl (q := 12) rfl ?_
  refine z_istore_n (i := 3) dX8_tidy_12 rfl (zle rfl) rfl (q := 13) rfl ?_
  exact z_X8_tidy_13_1 hI.1 hk hB hr n 0 X2 (by omega) (k1_refl _ _) ((hk.1 0 (by decide)).1.trans (hI.2.2.1 0 (by decide))) (fun k h => absurd h (Nat.not_lt_zero _))
end
