section
variable {G : zG} {X X1 : zX} {Y : zY} {O : zO}
set_option maxRecDepth 100000 in
set_option maxHeartbeats 4000000 in
theorem lex_no {n i : Nat} {D E : Nat → Int32} (hq : ∀ j, j < i → D j = E j) (h : ¬ D i = E i) (h2 : E i ≤ D i) (hl : lexlt n D E) : False := by
  obtain ⟨j, h3, h4, h5⟩ := hl
  rcases Nat.lt_trichotomy j i with h6 | h6 | h6
  · rw [hq j h6] at h5; exact Int32.lt_irrefl h5
  · subst h6; exact absurd h5 (Int32.not_lt.mpr h2)
  · exact h (h4 i h6)
set_option maxRecDepth 100000 in
set_option maxHeartbeats 4000000 in
theorem z_X9_isLower_2 {n nw : Nat} {D E : Nat → Int32} (hR : rel X Y n nw) (hD : ∀ k, k < n → Y.1 12 k = D k) (hE : ∀ k, k < n → Y.1 13 k = E k) : ∀ (m i : Nat) , i + m = n → (∀ j, j < i → D j = E j) → Z G mX9_isLower (zrm 0 0 0) 0 0 2 [some (.ref 77), some (.int (nI i))] [] (zw X1 Y O) (fun r w => ∃ v, r = .inl (some (.int v)) ∧ bit v ∧ w = zw X1 Y O ∧ (¬ v = 0 ↔ lexlt n D E)) := by
  intro m
  induction m with
  | zero =>
    intro i  hi hq
    have h4 := rel_4 hR
    refine z_iload_n (i := 1) dX9_isLower_2 rfl rfl (q := 3) rfl ?_
    refine z_aload_n (i := 0) dX9_isLower_3 rfl rfl (q := 4) rfl ?_
    refine z_get dX9_isLower_4 fX9_64 (wm _ _ _) rfl (q := 7) rfl ?_
    refine Z.eqst (st2 := [.int (nI n), .int (nI i)]) (congrArg (fun x => [Value.int x, Value.int (nI i)]) hR.1) ?_
    refine z_icmp_ge (tgt := 52) dX9_isLower_7 (by decide) (q := 10) rfl (fun h7 => ?_) (fun h7 => absurd (zge_t (by omega)) h7)
    refine z_iconst (v := 0) dX9_isLower_52 rfl (q := 53) rfl ?_
    exact z_zret dX9_isLower_53 rfl rfl ⟨zle rfl, zle rfl⟩ ⟨0, rfl, Or.inl rfl, rfl, fun h9 => absurd rfl h9, fun ⟨j, h1, _, h3⟩ => by rw [hq j (by omega)] at h3; exact absurd h3 (Int32.lt_irrefl)⟩
  | succ m ih =>
    intro i  hi hq
    have h4 := rel_4 hR
    refine z_iload_n (i := 1) dX9_isLower_2 rfl rfl (q := 3) rfl ?_
    refine z_aload_n (i := 0) dX9_isLower_3 rfl rfl (q := 4) rfl ?_
    refine z_get dX9_isLower_4 fX9_64 (wm _ _ _) rfl (q := 7) rfl ?_
    refine Z.eqst (st2 := [.int (nI n), .int (nI i)]) (congrArg (fun x => [Value.int x, Value.int (nI i)]) hR.1) ?_
    refine z_icmp_ge (tgt := 52) dX9_isLower_7 (by decide) (q := 10) rfl (fun h7 => absurd h7 (zge_f (by omega) (by omega))) (fun h7 => ?_)
    refine z_aload_n (i := 0) dX9_isLower_10 rfl rfl (q := 11) rfl ?_
    refine z_get dX9_isLower_11 fX9_48 (wm _ _ _) rfl (q := 14) rfl ?_
    refine z_iload_n (i := 1) dX9_isLower_14 rfl rfl (q := 15) rfl ?_
    refine z_iald dX9_isLower_15 (wma_now _ _ _) (zin (by omega) (by decide)) (q := 16) rfl ?_
    rw [nI_clamp (by omega), hD _ (by omega)]
    refine z_aload_n (i := 0) dX9_isLower_16 rfl rfl (q := 17) rfl ?_
    refine z_get dX9_isLower_17 fX9_51 (wm _ _ _) rfl (q := 20) rfl ?_
    refine z_iload_n (i := 1) dX9_isLower_20 rfl rfl (q := 21) rfl ?_
    refine z_iald dX9_isLower_21 (wma_best _ _ _) (zin (by omega) (by decide)) (q := 22) rfl ?_
    rw [nI_clamp (by omega), hE _ (by omega)]
    refine z_icmp_eq (tgt := 46) dX9_isLower_22 (by decide) (q := 25) rfl (fun h22 => ?_) (fun h22 => ?_)
    · refine z_iinc dX9_isLower_46 rfl rfl (zle rfl) rfl (q := 49) rfl ?_
      refine z_goto (tgt := 2) dX9_isLower_49 (by decide) ?_
      refine Z.eql (zl2 := [some (.ref 77), some (.int (nI (i + 1)))]) (by first | (rw [← nI_1 i]; done) | (rw [← nI_1 i]; rfl)) ?_
      refine ih (i + 1) (by omega) (fun j hj => ?_)
      by_cases e : j = i
      · rw [e]; exact h22
      · exact hq j (by omega)
    · refine z_aload_n (i := 0) dX9_isLower_25 rfl rfl (q := 26) rfl ?_
      refine z_get dX9_isLower_26 fX9_48 (wm _ _ _) rfl (q := 29) rfl ?_
      refine z_iload_n (i := 1) dX9_isLower_29 rfl rfl (q := 30) rfl ?_
      refine z_iald dX9_isLower_30 (wma_now _ _ _) (zin (by omega) (by decide)) (q := 31) rfl ?_
      rw [nI_clamp (by omega), hD _ (by omega)]
      refine z_aload_n (i := 0) dX9_isLower_31 rfl rfl (q := 32) rfl ?_
      refine z_get dX9_isLower_32 fX9_51 (wm _ _ _) rfl (q := 35) rfl ?_
      refine z_iload_n (i := 1) dX9_isLower_35 rfl rfl (q := 36) rfl ?_
      refine z_iald dX9_isLower_36 (wma_best _ _ _) (zin (by omega) (by decide)) (q := 37) rfl ?_
      rw [nI_clamp (by omega), hE _ (by omega)]
      refine z_icmp_ge (tgt := 44) dX9_isLower_37 (by decide) (q := 40) rfl (fun h37 => ?_) (fun h37 => ?_)
      · refine z_iconst (v := 0) dX9_isLower_44 rfl (q := 45) rfl ?_
        exact z_zret dX9_isLower_45 rfl rfl ⟨zle rfl, zle rfl⟩ (by first | exact ⟨1, rfl, Or.inr rfl, rfl, fun _ => ⟨i, by omega, hq, Int32.not_le.mp h37⟩, fun _ => by decide⟩ | exact ⟨0, rfl, Or.inl rfl, rfl, fun h9 => absurd rfl h9, fun h9 => (lex_no hq h22 h37 h9).elim⟩)
      · refine z_iconst (v := 1) dX9_isLower_40 rfl (q := 41) rfl ?_
        refine z_goto (tgt := 45) dX9_isLower_41 (by decide) ?_
        exact z_zret dX9_isLower_45 rfl rfl ⟨zle rfl, zle rfl⟩ (by first | exact ⟨1, rfl, Or.inr rfl, rfl, fun _ => ⟨i, by omega, hq, Int32.not_le.mp h37⟩, fun _ => by decide⟩ | exact ⟨0, rfl, Or.inl rfl, rfl, fun h9 => absurd rfl h9, fun h9 => (lex_no hq h22 h37 h9).elim⟩)
set_option maxRecDepth 100000 in
set_option maxHeartbeats 4000000 in
theorem c_X9_isLower {n nw : Nat} {D E : Nat → Int32} (hR : rel X Y n nw) (hD : ∀ k, k < n → Y.1 12 k = D k) (hE : ∀ k, k < n → Y.1 13 k = E k) : ZM G mX9_isLower 0 0 0 [.ref 77] (zw X1 Y O) (fun r w => ∃ v, r = .inl (some (.int v)) ∧ bit v ∧ w = zw X1 Y O ∧ (¬ v = 0 ↔ lexlt n D E)) := by
  refine ZM.go pX9 rfl rfl (zle rfl) (zl := [some (.ref 77), none]) rfl ?_
  refine z_iconst (v := 0) dX9_isLower_0 rfl (q := 1) rfl ?_
  refine z_istore_n (i := 1) dX9_isLower_1 rfl (zle rfl) rfl (q := 2) rfl ?_
  exact z_X9_isLower_2 hR hD hE n 0 (by omega) (fun j h9 => absurd h9 (by omega))
set_option maxRecDepth 100000 in
set_option maxHeartbeats 4000000 in
theorem z_X9_keeps_23 {n nw : Nat} {c d g : Int32} (hR : rel X Y n nw) : ∀ (m i : Nat) (f : Nat → Int32), i + m = n → (∀ j, j < i → f j = Y.1 12 j) → Z G mX9_keeps (zrm 0 0 0) 0 0 23 [some (.ref 77), some (.int c), some (.int d), some (.int g), some (.int (nI i))] [] (zw X1 (yarr Y 13 f) O) (fun r w => r = .inl none ∧ ∃ f, w = zw X1 (yarr Y 13 f) O ∧ ∀ j, j < n → f j = Y.1 12 j) := by
  intro m
  induction m with
  | zero =>
    intro i f hi hf
    have h4 := rel_4 hR
    refine z_iload dX9_keeps_23 rfl (q := 25) rfl ?_
    refine z_aload_n (i := 0) dX9_keeps_25 rfl rfl (q := 26) rfl ?_
    refine z_get dX9_keeps_26 fX9_64 (wm _ _ _) rfl (q := 29) rfl ?_
    refine Z.eqst (st2 := [.int (nI n), .int (nI i)]) (congrArg (fun x => [Value.int x, Value.int (nI i)]) hR.1) ?_
    refine z_icmp_ge (tgt := 52) dX9_keeps_29 (by decide) (q := 32) rfl (fun h29 => ?_) (fun h29 => absurd (zge_t (by omega)) h29)
    exact z_vret dX9_keeps_52 rfl ⟨zle rfl, zle rfl⟩ ⟨rfl, f, rfl, fun j hj => hf j (by omega)⟩
  | succ m ih =>
    intro i f hi hf
    have h4 := rel_4 hR
    refine z_iload dX9_keeps_23 rfl (q := 25) rfl ?_
    refine z_aload_n (i := 0) dX9_keeps_25 rfl rfl (q := 26) rfl ?_
    refine z_get dX9_keeps_26 fX9_64 (wm _ _ _) rfl (q := 29) rfl ?_
    refine Z.eqst (st2 := [.int (nI n), .int (nI i)]) (congrArg (fun x => [Value.int x, Value.int (nI i)]) hR.1) ?_
    refine z_icmp_ge (tgt := 52) dX9_keeps_29 (by decide) (q := 32) rfl (fun h29 => absurd h29 (zge_f (by omega) (by omega))) (fun h29 => ?_)
    refine z_aload_n (i := 0) dX9_keeps_32 rfl rfl (q := 33) rfl ?_
    refine z_get dX9_keeps_33 fX9_51 (wm _ _ _) rfl (q := 36) rfl ?_
    refine z_iload dX9_keeps_36 rfl (q := 38) rfl ?_
    refine z_aload_n (i := 0) dX9_keeps_38 rfl rfl (q := 39) rfl ?_
    refine z_get dX9_keeps_39 fX9_48 (wm _ _ _) rfl (q := 42) rfl ?_
    refine z_iload dX9_keeps_42 rfl (q := 44) rfl ?_
    refine z_iald dX9_keeps_44 (wma_now _ _ _) (zin (by omega) (by decide)) (q := 45) rfl ?_
    refine z_iast dX9_keeps_45 (wma_best _ _ _) (zin (by omega) (by decide)) (q := 46) rfl ?_
    refine Z.eqw (wms_best _ _ _ _) ?_
    rw [nI_clamp (by omega), yarr_yarr, yarr_f]
    refine z_iinc dX9_keeps_46 rfl rfl (zle rfl) rfl (q := 49) rfl ?_
    refine z_goto (tgt := 23) dX9_keeps_49 (by decide) ?_
    refine Z.eql (zl2 := [some (.ref 77), some (.int c), some (.int d), some (.int g), some (.int (nI (i + 1)))]) (by first | (rw [← nI_1 i]; done) | (rw [← nI_1 i]; rfl)) ?_
    exact ih (i + 1) _ (by omega) (ext_upd hf)
set_option maxRecDepth 100000 in
set_option maxHeartbeats 4000000 in
abbrev ykp (Y : zY) (c d g : Int32) : zY := yint (yint (yint (yint Y 6 1) 3 c) 4 d) 5 g
set_option maxRecDepth 100000 in
set_option maxHeartbeats 4000000 in
theorem rel_kp {n nw : Nat} {c d g : Int32} (hR : rel X Y n nw) : rel X (ykp Y c d g) n nw := rel_int (rel_int (rel_int (rel_int hR (by decide) 1) (by decide) c) (by decide) d) (by decide) g
set_option maxRecDepth 100000 in
set_option maxHeartbeats 4000000 in
theorem zfit_1 : zfit .boolean (.int 1) := zfit_b True
set_option maxRecDepth 100000 in
set_option maxHeartbeats 4000000 in
theorem zfit_0 : zfit .boolean (.int 0) := zfit_b False
set_option maxRecDepth 100000 in
set_option maxHeartbeats 4000000 in
theorem c_X9_keeps {n nw : Nat} {c d g : Int32} (hR : rel X Y n nw) : ZM G mX9_keeps 0 0 0 [.ref 77, .int c, .int d, .int g] (zw X1 Y O) (fun r w => r = .inl none ∧ ∃ f, w = zw X1 (yarr (ykp Y c d g) 13 f) O ∧ ∀ j, j < n → f j = Y.1 12 j) := by
  refine ZM.go pX9 rfl rfl (zle rfl) (zl := [some (.ref 77), some (.int c), some (.int d), some (.int g), none]) rfl ?_
  refine z_aload_n (i := 0) dX9_keeps_0 rfl rfl (q := 1) rfl ?_
  refine z_iconst (v := 1) dX9_keeps_1 rfl (q := 2) rfl ?_
  refine z_put dX9_keeps_2 fX9_159 (wm _ _ _) (zle rfl) zfit_1 (q := 5) rfl ?_
  refine Z.eqw (wmi_isFound _ _ _ _) ?_
  refine z_aload_n (i := 0) dX9_keeps_5 rfl rfl (q := 6) rfl ?_
  refine z_iload_n (i := 1) dX9_keeps_6 rfl rfl (q := 7) rfl ?_
  refine z_put dX9_keeps_7 fX9_163 (wm _ _ _) (zle rfl) (zfit_int _) (q := 10) rfl ?_
  refine Z.eqw (wmi_bestCost _ _ _ _) ?_
  refine z_aload_n (i := 0) dX9_keeps_10 rfl rfl (q := 11) rfl ?_
  refine z_iload_n (i := 2) dX9_keeps_11 rfl rfl (q := 12) rfl ?_
  refine z_put dX9_keeps_12 fX9_166 (wm _ _ _) (zle rfl) (zfit_int _) (q := 15) rfl ?_
  refine Z.eqw (wmi_bestForce _ _ _ _) ?_
  refine z_aload_n (i := 0) dX9_keeps_15 rfl rfl (q := 16) rfl ?_
  refine z_iload_n (i := 3) dX9_keeps_16 rfl rfl (q := 17) rfl ?_
  refine z_put dX9_keeps_17 fX9_169 (wm _ _ _) (zle rfl) (zfit_int _) (q := 20) rfl ?_
  refine Z.eqw (wmi_bestGap _ _ _ _) ?_
  refine z_iconst (v := 0) dX9_keeps_20 rfl (q := 21) rfl ?_
  refine z_istore dX9_keeps_21 (zle rfl) rfl (q := 23) rfl ?_
  refine Z.eqw (w2 := zw X1 (yarr (ykp Y c d g) 13 ((ykp Y c d g).1 13)) O) (by rw [yarr_self]) ?_
  exact z_X9_keeps_23 (rel_kp hR) n 0 _ (by omega) (fun j h9 => absurd h9 (by omega))
set_option maxRecDepth 100000 in
set_option maxHeartbeats 4000000 in
theorem z_X9_goesOn_2 {n nw : Nat} {cc p : Nat → Nat} (hR : rel X Y n nw) (hm : ∀ j, j < n → Y.1 10 j = nI (cc j) ∧ cc j ≤ 10) (hp : ∀ j, j < n → p j < cc j) : ∀ (m i : Nat) (f : Nat → Int32) (q : Nat → Nat), i + m = n → (∀ j, j < n → f j = nI (q j)) → nx cc 0 n p = nx cc i m q → (∀ j, j < i → p j + 1 = cc j) → (∀ j, i ≤ j → j < n → q j = p j) → Z G mX9_goesOn (zrm 0 0 0) 0 0 2 [some (.ref 77), some (.int (nI i))] [] (zw X1 (yarr Y 11 f) O) (fun r w => ∃ f2, w = zw X1 (yarr Y 11 f2) O ∧ ((r = .inl (some (.int 1)) ∧ (∀ j, j < n → f2 j = nI (nx cc 0 n p j)) ∧ ∃ j, j < n ∧ p j + 1 < cc j) ∨ (r = .inl (some (.int 0)) ∧ ∀ j, j < n → p j + 1 = cc j))) := by
  intro m
  induction m with
  | zero =>
    intro i f q hi hf he ha hq
    have h4 := rel_4 hR
    refine z_iload_n (i := 1) dX9_goesOn_2 rfl rfl (q := 3) rfl ?_
    refine z_aload_n (i := 0) dX9_goesOn_3 rfl rfl (q := 4) rfl ?_
    refine z_get dX9_goesOn_4 fX9_64 (wm _ _ _) rfl (q := 7) rfl ?_
    refine Z.eqst (st2 := [.int (nI n), .int (nI i)]) (congrArg (fun x => [Value.int x, Value.int (nI i)]) hR.1) ?_
    refine z_icmp_ge (tgt := 50) dX9_goesOn_7 (by decide) (q := 10) rfl (fun h7 => ?_) (fun h7 => absurd (zge_t (by omega)) h7)
    refine z_iconst (v := 0) dX9_goesOn_50 rfl (q := 51) rfl ?_
    exact z_zret dX9_goesOn_51 rfl rfl ⟨zle rfl, zle rfl⟩ ⟨f, rfl, Or.inr ⟨rfl, fun j hj => ha j (by omega)⟩⟩
  | succ m ih =>
    intro i f q hi hf he ha hq
    have h4 := rel_4 hR
    refine z_iload_n (i := 1) dX9_goesOn_2 rfl rfl (q := 3) rfl ?_
    refine z_aload_n (i := 0) dX9_goesOn_3 rfl rfl (q := 4) rfl ?_
    refine z_get dX9_goesOn_4 fX9_64 (wm _ _ _) rfl (q := 7) rfl ?_
    refine Z.eqst (st2 := [.int (nI n), .int (nI i)]) (congrArg (fun x => [Value.int x, Value.int (nI i)]) hR.1) ?_
    refine z_icmp_ge (tgt := 50) dX9_goesOn_7 (by decide) (q := 10) rfl (fun h7 => absurd h7 (zge_f (by omega) (by omega))) (fun h7 => ?_)
    refine z_aload_n (i := 0) dX9_goesOn_10 rfl rfl (q := 11) rfl ?_
    refine z_get dX9_goesOn_11 fX9_45 (wm _ _ _) rfl (q := 14) rfl ?_
    refine z_iload_n (i := 1) dX9_goesOn_14 rfl rfl (q := 15) rfl ?_
    refine z_dup2 dX9_goesOn_15 rfl rfl (q := 16) rfl ?_
    refine z_iald dX9_goesOn_16 (wma_tried _ _ _) (zin (by omega) (by decide)) (q := 17) rfl ?_
    refine Z.eqst (st2 := [.int (nI (q i)), .int (nI i), .ref 89]) (congrArg (fun x => [Value.int x, Value.int (nI i), Value.ref 89]) (show f (nI i).toNatClampNeg = nI (q i) by rw [nI_clamp (by omega)]; exact hf i (by omega))) ?_
    refine z_iconst (v := 1) dX9_goesOn_17 rfl (q := 18) rfl ?_
    refine z_iadd dX9_goesOn_18 (q := 19) rfl ?_
    rw [nI_1]
    refine z_iast dX9_goesOn_19 (wma_tried _ _ _) (zin (by omega) (by decide)) (q := 20) rfl ?_
    refine Z.eqw (wms_tried _ _ _ _) ?_
    rw [nI_clamp (by omega), yarr_yarr, yarr_f]
    refine z_aload_n (i := 0) dX9_goesOn_20 rfl rfl (q := 21) rfl ?_
    refine z_get dX9_goesOn_21 fX9_45 (wm _ _ _) rfl (q := 24) rfl ?_
    refine z_iload_n (i := 1) dX9_goesOn_24 rfl rfl (q := 25) rfl ?_
    refine z_iald dX9_goesOn_25 (wma_tried _ _ _) (zin (by omega) (by decide)) (q := 26) rfl ?_
    refine Z.eqst (st2 := [.int (nI (q i + 1))]) (congrArg (fun x => [Value.int x]) (show upd f i (nI (q i + 1)) (nI i).toNatClampNeg = nI (q i + 1) by rw [nI_clamp (by omega)]; exact pk_us)) ?_
    refine z_aload_n (i := 0) dX9_goesOn_26 rfl rfl (q := 27) rfl ?_
    refine z_get dX9_goesOn_27 fX9_42 (wm _ _ _) rfl (q := 30) rfl ?_
    refine z_iload_n (i := 1) dX9_goesOn_30 rfl rfl (q := 31) rfl ?_
    refine z_iald dX9_goesOn_31 (wma_many _ _ _) (zin (by omega) (by decide)) (q := 32) rfl ?_
    refine Z.eqst (st2 := [.int (nI (cc i)), .int (nI (q i + 1))]) (congrArg (fun x => [Value.int x, Value.int (nI (q i + 1))]) (show Y.1 10 (nI i).toNatClampNeg = nI (cc i) by rw [nI_clamp (by omega)]; exact (hm i (by omega)).1)) ?_
    have hq1 := hq i (Nat.le_refl _) (by omega)
    have hp1 := hp i (by omega)
    have hm1 := (hm i (by omega)).2
    refine z_icmp_ge (tgt := 37) dX9_goesOn_32 (by decide) (q := 35) rfl (fun h32 => ?_) (fun h32 => ?_)
    · have h9 : cc i ≤ q i + 1 := (nI_leI (by omega) (by omega)).mp h32
      refine z_aload_n (i := 0) dX9_goesOn_37 rfl rfl (q := 38) rfl ?_
      refine z_get dX9_goesOn_38 fX9_45 (wm _ _ _) rfl (q := 41) rfl ?_
      refine z_iload_n (i := 1) dX9_goesOn_41 rfl rfl (q := 42) rfl ?_
      refine z_iconst (v := 0) dX9_goesOn_42 rfl (q := 43) rfl ?_
      refine z_iast dX9_goesOn_43 (wma_tried _ _ _) (zin (by omega) (by decide)) (q := 44) rfl ?_
      refine Z.eqw (wms_tried _ _ _ _) ?_
      rw [nI_clamp (by omega), yarr_yarr, yarr_f]
      refine z_iinc dX9_goesOn_44 rfl rfl (zle rfl) rfl (q := 47) rfl ?_
      refine z_goto (tgt := 2) dX9_goesOn_47 (by decide) ?_
      refine Z.eql (zl2 := [some (.ref 77), some (.int (nI (i + 1)))]) (by first | (rw [← nI_1 i]; done) | (rw [← nI_1 i]; rfl)) ?_
      refine ih (i + 1) _ (va_up q i 0) (by omega) (fun j hj => ?_) (by rw [he, nx, if_neg (by omega)]) (fun j hj => ?_) (fun j h1 h2 => ?_)
      · unfold upd va_up; split
        · rfl
        · exact hf j hj
      · by_cases e : j = i
        · rw [e]; omega
        · exact ha j (by omega)
      · rw [← hq j (by omega) h2]; exact if_neg (by omega)
    · have h9 : q i + 1 < cc i := by
        have h8 : ¬ cc i ≤ q i + 1 := fun h7 => h32 ((nI_leI (by omega) (by omega)).mpr h7)
        omega
      refine z_iconst (v := 1) dX9_goesOn_35 rfl (q := 36) rfl ?_
      exact z_zret dX9_goesOn_36 rfl rfl ⟨zle rfl, zle rfl⟩ ⟨_, rfl, Or.inl ⟨rfl, fun j hj => (by rw [he, nx, if_pos h9]; unfold upd va_up; split; rfl; exact hf j hj), i, by omega, by omega⟩⟩
set_option maxRecDepth 100000 in
set_option maxHeartbeats 4000000 in
theorem c_X9_goesOn {n nw : Nat} {cc p : Nat → Nat} (hR : rel X Y n nw) (hm : ∀ j, j < n → Y.1 10 j = nI (cc j) ∧ cc j ≤ 10) (hp : ∀ j, j < n → p j < cc j) (ht : ∀ j, j < n → Y.1 11 j = nI (p j)) : ZM G mX9_goesOn 0 0 0 [.ref 77] (zw X1 Y O) (fun r w => ∃ f2, w = zw X1 (yarr Y 11 f2) O ∧ ((r = .inl (some (.int 1)) ∧ (∀ j, j < n → f2 j = nI (nx cc 0 n p j)) ∧ ∃ j, j < n ∧ p j + 1 < cc j) ∨ (r = .inl (some (.int 0)) ∧ ∀ j, j < n → p j + 1 = cc j))) := by
  refine ZM.go pX9 rfl rfl (zle rfl) (zl := [some (.ref 77), none]) rfl ?_
  refine z_iconst (v := 0) dX9_goesOn_0 rfl (q := 1) rfl ?_
  refine z_istore_n (i := 1) dX9_goesOn_1 rfl (zle rfl) rfl (q := 2) rfl ?_
  refine Z.eqw (w2 := zw X1 (yarr Y 11 (Y.1 11)) O) (by rw [yarr_self]) ?_
  exact z_X9_goesOn_2 hR hm hp n 0 _ p (by omega) ht rfl (fun j h9 => absurd h9 (by omega)) (fun _ _ _ => rfl)
set_option maxRecDepth 100000 in
set_option maxHeartbeats 4000000 in
abbrev Lay (s : Nat → Int32) (p : Nat → Nat) (j : Nat) : Int32 := s (10 * j + p j)
set_option maxRecDepth 100000 in
set_option maxHeartbeats 4000000 in
def pQ (n : Nat) (cc : Nat → Nat) (v : Nat) (p : Nat → Nat) : Prop := (∀ j, j < n → p j < cc j) ∧ vl cc p 0 n < v
set_option maxRecDepth 100000 in
set_option maxHeartbeats 4000000 in
def tbI (X : zX) (t n nw : Nat) (s : Nat → Int32) (Q : (Nat → Nat) → Prop) (Y2 : zY) : Prop :=
  (Y2.2.1 6 = 0 ∧ ∀ p, Q p → ¬ allow X t n (Lay s p)) ∨ (¬ Y2.2.1 6 = 0 ∧ ∃ p0, Q p0 ∧ allow X t n (Lay s p0) ∧ (∀ j, j < n → Y2.1 13 j = Lay s p0 j) ∧ Y2.2.1 4 = frc X t nw (Lay s p0) ∧ Y2.2.1 3 = cst X t n (Lay s p0) ∧ ∀ p, Q p → allow X t n (Lay s p) → ¬ btr X t n nw (Lay s p) (Lay s p0))
set_option maxRecDepth 100000 in
set_option maxHeartbeats 4000000 in
theorem tbI_found {t n nw : Nat} {s : Nat → Int32} {Q : (Nat → Nat) → Prop} {Y2 : zY} (h : tbI X t n nw s Q Y2) (h0 : ¬ Y2.2.1 6 = 0) : ∃ p0, Q p0 ∧ allow X t n (Lay s p0) ∧ (∀ j, j < n → Y2.1 13 j = Lay s p0 j) ∧ Y2.2.1 4 = frc X t nw (Lay s p0) ∧ Y2.2.1 3 = cst X t n (Lay s p0) ∧ ∀ p, Q p → allow X t n (Lay s p) → ¬ btr X t n nw (Lay s p) (Lay s p0) := by
  rcases h with h | h
  · exact absurd h.1 h0
  · exact h.2
set_option maxRecDepth 100000 in
set_option maxHeartbeats 4000000 in
theorem Lay_eq {n : Nat} {s : Nat → Int32} {p q : Nat → Nat} (h : ∀ j, j < n → p j = q j) : ∀ j, j < n → Lay s p j = Lay s q j := fun j hj => by
  show s (10 * j + p j) = s (10 * j + q j)
  rw [h j hj]
set_option maxRecDepth 100000 in
set_option maxHeartbeats 4000000 in
theorem pQ_step {n v : Nat} {cc p q : Nat → Nat} (hp : ∀ j, j < n → p j < cc j) (hv : vl cc p 0 n = v) (h : pQ n cc (v + 1) q) : pQ n cc v q ∨ ∀ j, j < n → q j = p j := by
  rcases Nat.lt_or_ge (vl cc q 0 n) v with h1 | h1
  · exact Or.inl ⟨h.1, h1⟩
  · have h2 := h.2
    have h3 := vl_inj n 0 (fun j _ hj => ⟨h.1 j (by omega), hp j (by omega)⟩) (show vl cc q 0 n = vl cc p 0 n by omega)
    exact Or.inr fun j hj => h3 j (by omega) (by omega)
set_option maxRecDepth 100000 in
set_option maxHeartbeats 4000000 in
theorem pQ_mono {n v : Nat} {cc q : Nat → Nat} (h : pQ n cc v q) : pQ n cc (v + 1) q := ⟨h.1, Nat.lt_succ_of_lt h.2⟩
set_option maxRecDepth 100000 in
set_option maxHeartbeats 4000000 in
theorem tbI_no {t n nw v : Nat} {s : Nat → Int32} {cc p : Nat → Nat} {Y2 : zY} (h : tbI X t n nw s (pQ n cc v) Y2) (hp : ∀ j, j < n → p j < cc j) (hv : vl cc p 0 n = v) (hn : ¬ allow X t n (Lay s p)) : tbI X t n nw s (pQ n cc (v + 1)) Y2 := by
  rcases h with ⟨h1, h2⟩ | ⟨h1, p0, q1, q2, q3, q4, q5, q6⟩
  · refine Or.inl ⟨h1, fun q hq ha => ?_⟩
    rcases pQ_step hp hv hq with h3 | h3
    · exact h2 q h3 ha
    · exact hn (allow_congr (Lay_eq h3) ha)
  · refine Or.inr ⟨h1, p0, pQ_mono q1, q2, q3, q4, q5, fun q hq ha => ?_⟩
    rcases pQ_step hp hv hq with h3 | h3
    · exact q6 q h3 ha
    · exact absurd (allow_congr (Lay_eq h3) ha) hn
set_option maxRecDepth 100000 in
set_option maxHeartbeats 4000000 in
theorem tbI_skip {t n nw v : Nat} {s : Nat → Int32} {cc p p0 : Nat → Nat} {Y2 : zY} (hI : inv X n nw) (h1 : ¬ Y2.2.1 6 = 0) (q1 : pQ n cc v p0) (q2 : allow X t n (Lay s p0)) (q3 : ∀ j, j < n → Y2.1 13 j = Lay s p0 j) (q4 : Y2.2.1 4 = frc X t nw (Lay s p0)) (q5 : Y2.2.1 3 = cst X t n (Lay s p0)) (q6 : ∀ p, pQ n cc v p → allow X t n (Lay s p) → ¬ btr X t n nw (Lay s p) (Lay s p0)) (hp : ∀ j, j < n → p j < cc j) (hv : vl cc p 0 n = v) (hn : ¬ btr X t n nw (Lay s p) (Lay s p0)) : tbI X t n nw s (pQ n cc (v + 1)) Y2 := by
  refine Or.inr ⟨h1, p0, pQ_mono q1, q2, q3, q4, q5, fun q hq ha hb => ?_⟩
  rcases pQ_step hp hv hq with h3 | h3
  · exact q6 q h3 ha hb
  · exact hn (btr_congr hI (Lay_eq h3) (fun _ _ => rfl) hb)
set_option maxRecDepth 100000 in
set_option maxHeartbeats 4000000 in
theorem lex_irr {n : Nat} {D : Nat → Int32} (h : lexlt n D D) : False := by
  obtain ⟨j, _, _, h3⟩ := h
  exact Int32.lt_irrefl h3
set_option maxRecDepth 100000 in
set_option maxHeartbeats 4000000 in
theorem lex_trans {n : Nat} {D E H : Nat → Int32} (h : lexlt n D E) (h2 : lexlt n E H) : lexlt n D H := by
  obtain ⟨j, a1, a2, a3⟩ := h
  obtain ⟨k, b1, b2, b3⟩ := h2
  rcases Nat.lt_trichotomy j k with e | e | e
  · exact ⟨j, a1, fun i hi => (a2 i hi).trans (b2 i (by omega)), by rw [← b2 j e]; exact a3⟩
  · subst e
    exact ⟨j, a1, fun i hi => (a2 i hi).trans (b2 i hi), Int32.lt_trans a3 b3⟩
  · exact ⟨k, b1, fun i hi => (a2 i (by omega)).trans (b2 i hi), by rw [a2 k e]; exact b3⟩
set_option maxRecDepth 100000 in
set_option maxHeartbeats 4000000 in
theorem btr_irr {t n nw : Nat} {D : Nat → Int32} (h : btr X t n nw D D) : False := by
  rcases h with h | ⟨_, h | ⟨_, h⟩⟩
  · exact Int32.lt_irrefl h
  · exact Int32.lt_irrefl h
  · exact lex_irr h
set_option maxRecDepth 100000 in
set_option maxHeartbeats 4000000 in
theorem btr_trans {t n nw : Nat} {D E H : Nat → Int32} (h : btr X t n nw D E) (h2 : btr X t n nw E H) : btr X t n nw D H := by
  unfold btr at *
  rcases h with h | ⟨e, h⟩
  · rcases h2 with k | ⟨f, k⟩
    · exact Or.inl (Int32.lt_trans k h)
    · exact Or.inl (by rw [← f]; exact h)
  · rcases h2 with k | ⟨f, k⟩
    · exact Or.inl (by rw [e]; exact k)
    · refine Or.inr ⟨e.trans f, ?_⟩
      rcases h with h | ⟨e2, h⟩
      · rcases k with k | ⟨f2, k⟩
        · exact Or.inl (Int32.lt_trans h k)
        · exact Or.inl (by rw [← f2]; exact h)
      · rcases k with k | ⟨f2, k⟩
        · exact Or.inl (by rw [e2]; exact k)
        · exact Or.inr ⟨e2.trans f2, lex_trans h k⟩
set_option maxRecDepth 100000 in
set_option maxHeartbeats 4000000 in
theorem tbI_keep {t n nw v : Nat} {s : Nat → Int32} {cc p : Nat → Nat} {Y2 Y3 : zY} (hI : inv X n nw) (h : tbI X t n nw s (pQ n cc v) Y2) (hb : Y2.2.1 6 = 0 ∨ ∃ p0, (∀ q, pQ n cc v q → allow X t n (Lay s q) → ¬ btr X t n nw (Lay s q) (Lay s p0)) ∧ btr X t n nw (Lay s p) (Lay s p0)) (hp : ∀ j, j < n → p j < cc j) (hv : vl cc p 0 n = v) (ha : allow X t n (Lay s p)) (g1 : Y3.2.1 6 = 1) (g2 : Y3.2.1 4 = frc X t nw (Lay s p)) (g3 : Y3.2.1 3 = cst X t n (Lay s p)) (g4 : ∀ j, j < n → Y3.1 13 j = Lay s p j) : tbI X t n nw s (pQ n cc (v + 1)) Y3 := by
  refine Or.inr ⟨by rw [g1]; decide, p, ⟨hp, by omega⟩, ha, g4, g2, g3, fun q hq hqa hbt => ?_⟩
  rcases pQ_step hp hv hq with h3 | h3
  · rcases hb with h4 | ⟨p0, h4, h5⟩
    · rcases h with h6 | h6
      · exact h6.2 q h3 hqa
      · exact absurd h4 h6.1
    · exact h4 q h3 hqa (btr_trans hbt h5)
  · exact btr_irr (btr_congr hI (Lay_eq h3) (fun _ _ => rfl) hbt)
set_option maxRecDepth 100000 in
set_option maxHeartbeats 4000000 in
theorem vl_all {c p : Nat → Nat} : ∀ (m k : Nat), (∀ j, k ≤ j → j < k + m → p j + 1 = c j) → vl c p k m + 1 = pr c k m
  | 0, _, _ => rfl
  | m + 1, k, h => by
    have h1 := h k (by omega) (by omega)
    have ih := vl_all m (k + 1) fun j a b => h j (by omega) (by omega)
    rw [vl, pr, ← ih, Nat.mul_add, Nat.mul_one]
    omega
set_option maxRecDepth 100000 in
set_option maxHeartbeats 4000000 in
theorem vl_some {c p : Nat → Nat} : ∀ (m k : Nat), (∀ j, k ≤ j → j < k + m → p j < c j) → (∃ j, k ≤ j ∧ j < k + m ∧ p j + 1 < c j) → vl c p k m + 1 < pr c k m
  | 0, k, _, ⟨j, h1, h2, _⟩ => absurd h2 (by omega)
  | m + 1, k, h, ⟨j, h1, h2, h3⟩ => by
    have hk := h k (by omega) (by omega)
    have hl := vl_lt (c := c) (p := p) m (k + 1) fun j a b => h j (by omega) (by omega)
    have hm : c k * (vl c p (k + 1) m + 1) ≤ c k * pr c (k + 1) m := Nat.mul_le_mul_left _ hl
    rw [Nat.mul_add, Nat.mul_one] at hm
    rw [vl, pr]
    by_cases e : j = k
    · subst e; omega
    · have ih := vl_some m (k + 1) (fun j a b => h j (by omega) (by omega)) ⟨j, by omega, by omega, h3⟩
      have hm2 : c k * (vl c p (k + 1) m + 1 + 1) ≤ c k * pr c (k + 1) m := Nat.mul_le_mul_left _ ih
      rw [Nat.mul_add, Nat.mul_add, Nat.mul_one] at hm2
      omega
/- what a search leaves alone -/
set_option maxRecDepth 100000 in
set_option maxHeartbeats 4000000 in
def TS (Y Y2 : zY) (s mm : Nat → Int32) : Prop := keepY Y Y2 ∧ Y2.1 9 = s ∧ Y2.1 10 = mm ∧ Y2.2.1 0 = Y.2.1 0
set_option maxRecDepth 100000 in
set_option maxHeartbeats 4000000 in
theorem TS_arr {Y2 : zY} {s mm : Nat → Int32} (h : TS Y Y2 s mm) {j : Nat} (hj : 11 ≤ j) (f : Nat → Int32) : TS Y (yarr Y2 j f) s mm := ⟨keepY_arr h.1 (by omega) f, (if_neg (by omega)).trans h.2.1, (if_neg (by omega)).trans h.2.2.1, h.2.2.2⟩
set_option maxRecDepth 100000 in
set_option maxHeartbeats 4000000 in
theorem TS_int {Y2 : zY} {s mm : Nat → Int32} (h : TS Y Y2 s mm) {j : Nat} (hj : 3 ≤ j) (v : Int32) : TS Y (yint Y2 j v) s mm := ⟨keepY_int h.1 (Or.inr hj) v, h.2.1, h.2.2.1, (if_neg (by omega)).trans h.2.2.2⟩
set_option maxRecDepth 100000 in
set_option maxHeartbeats 4000000 in
theorem z_X9_tid_166 {n nw t v : Nat} {s mm : Nat → Int32} {cc p : Nat → Nat} {Y2 : zY} {e2 e3 e4 e5 : Option Value} (hR : rel X Y n nw) (hm : ∀ j, j < n → mm j = nI (cc j) ∧ cc j ≤ 10) (hp : ∀ j, j < n → p j < cc j) (hv : vl cc p 0 n = v) (hT : TS Y Y2 s mm) (htr : ∀ j, j < n → Y2.1 11 j = nI (p j)) (hB : tbI X t n nw s (pQ n cc (v + 1)) Y2) (hx : ∀ (p2 : Nat → Nat) (Y5 : zY), v + 1 < pr cc 0 n → (∀ j, j < n → p2 j < cc j) → vl cc p2 0 n = v + 1 → TS Y Y5 s mm → (∀ j, j < n → Y5.1 11 j = nI (p2 j)) → tbI X t n nw s (pQ n cc (v + 1)) Y5 → ∀ e3 e4 e5, Z G mX9_findTidiest (zrm 4 0 0) 0 0 35 [some (.ref 77), some (.int (nI t)), some (.int 1), e3, e4, e5] [] (zw X1 Y5 O) (fun r w => r = .inl none ∧ ∃ Y3, w = zw X1 Y3 O ∧ TS Y Y3 s mm ∧ tbI X t n nw s (pQ n cc (pr cc 0 n)) Y3)) : Z G mX9_findTidiest (zrm 4 0 0) 0 0 166 [some (.ref 77), some (.int (nI t)), e2, e3, e4, e5] [] (zw X1 Y2 O) (fun r w => r = .inl none ∧ ∃ Y3, w = zw X1 Y3 O ∧ TS Y Y3 s mm ∧ tbI X t n nw s (pQ n cc (pr cc 0 n)) Y3) := by
  refine z_aload_n (i := 0) dX9_findTidiest_166 rfl rfl (q := 167) rfl ?_
  refine z_callV (As := []) dX9_findTidiest_167 kX9_186 (c_X9_goesOn (rel_kY hR hT.1) (fun j hj => by rw [hT.2.2.1]; exact hm j hj) hp htr) (wm _ _ _) rfl rfl (zle rfl) ⟨zle rfl, zle rfl⟩ ⟨zle rfl, zle rfl⟩ (q := 170) rfl (fun rv w2 hw2 => ?_) (fun E w2 h9 => by obtain ⟨_, _, h9 | h9⟩ := h9 <;> cases h9.1)
  obtain ⟨f2, rfl, h9⟩ := hw2
  rcases h9 with ⟨h9, hf2, j2, hj, hj2⟩ | ⟨h9, hall⟩
  · cases h9
    refine z_istore_n (i := 2) dX9_findTidiest_170 rfl (zle rfl) rfl (q := 171) rfl ?_
    refine z_goto (tgt := 35) dX9_findTidiest_171 (by decide) ?_
    exact hx (nx cc 0 n p) (yarr Y2 11 f2) (by rw [← hv]; exact vl_some n 0 (fun j _ hj => hp j (by omega)) ⟨j2, Nat.zero_le _, by omega, hj2⟩) (fun j hj => nx_ok n 0 p (fun j _ hj => hp j (by omega)) j (by omega) (by omega)) ((nx_vl n 0 p (fun j _ hj => hp j (by omega)) (vl_some n 0 (fun j _ hj => hp j (by omega)) ⟨j2, Nat.zero_le _, by omega, hj2⟩)).trans (by rw [hv])) (TS_arr (j := 11) hT (by decide) f2) hf2 hB _ _ _
  · cases h9
    refine z_istore_n (i := 2) dX9_findTidiest_170 rfl (zle rfl) rfl (q := 171) rfl ?_
    refine z_goto (tgt := 35) dX9_findTidiest_171 (by decide) ?_
    refine z_iload_n (i := 2) dX9_findTidiest_35 rfl rfl (q := 36) rfl ?_
    refine z_if_eq (tgt := 174) dX9_findTidiest_36 (by decide) (q := 39) rfl (fun h36 => ?_) (fun h36 => absurd h36 (by decide))
    exact z_vret dX9_findTidiest_174 rfl ⟨zle rfl, zle rfl⟩ ⟨rfl, _, rfl, TS_arr hT (by decide) f2, by rw [← vl_all n 0 (fun j _ hj => hall j (by omega)), hv]; exact hB⟩
set_option maxRecDepth 100000 in
set_option maxHeartbeats 4000000 in
theorem z_X9_tid_41 {n nw t : Nat} {p : Nat → Nat} {e4 e5 : Option Value} {P : zRes → zWorld → Prop} (hR : rel X Y n nw) (hp : ∀ j, j < n → p j < 10) (htr : ∀ j, j < n → Y.1 11 j = nI (p j)) : ∀ (m i : Nat) (f : Nat → Int32), i + m = n → (∀ j, j < i → f j = Lay (Y.1 9) p j) → (∀ f, (∀ j, j < n → f j = Lay (Y.1 9) p j) → Z G mX9_findTidiest (zrm 4 0 0) 0 0 77 [some (.ref 77), some (.int (nI t)), some (.int 1), some (.int (nI n)), e4, e5] [] (zw X1 (yarr Y 12 f) O) P) → Z G mX9_findTidiest (zrm 4 0 0) 0 0 41 [some (.ref 77), some (.int (nI t)), some (.int 1), some (.int (nI i)), e4, e5] [] (zw X1 (yarr Y 12 f) O) P := by
  have h4 := rel_4 hR
  intro m
  induction m with
  | zero =>
    intro i f hi hf hx
    refine z_iload_n (i := 3) dX9_findTidiest_41 rfl rfl (q := 42) rfl ?_
    refine z_aload_n (i := 0) dX9_findTidiest_42 rfl rfl (q := 43) rfl ?_
    refine z_get dX9_findTidiest_43 fX9_64 (wm _ _ _) rfl (q := 46) rfl ?_
    refine Z.eqst (st2 := [.int (nI n), .int (nI i)]) (congrArg (fun x => [Value.int x, Value.int (nI i)]) hR.1) ?_
    refine z_icmp_ge (tgt := 77) dX9_findTidiest_46 (by decide) (q := 49) rfl (fun h46 => ?_) (fun h46 => absurd (zge_t (by omega)) h46)
    rw [show i = n by omega] at hf ⊢
    exact hx f hf
  | succ m ih =>
    intro i f hi hf hx
    refine z_iload_n (i := 3) dX9_findTidiest_41 rfl rfl (q := 42) rfl ?_
    refine z_aload_n (i := 0) dX9_findTidiest_42 rfl rfl (q := 43) rfl ?_
    refine z_get dX9_findTidiest_43 fX9_64 (wm _ _ _) rfl (q := 46) rfl ?_
    refine Z.eqst (st2 := [.int (nI n), .int (nI i)]) (congrArg (fun x => [Value.int x, Value.int (nI i)]) hR.1) ?_
    refine z_icmp_ge (tgt := 77) dX9_findTidiest_46 (by decide) (q := 49) rfl (fun h46 => absurd h46 (zge_f (by omega) (by omega))) (fun h46 => ?_)
    refine z_aload_n (i := 0) dX9_findTidiest_49 rfl rfl (q := 50) rfl ?_
    refine z_get dX9_findTidiest_50 fX9_48 (wm _ _ _) rfl (q := 53) rfl ?_
    refine z_iload_n (i := 3) dX9_findTidiest_53 rfl rfl (q := 54) rfl ?_
    refine z_aload_n (i := 0) dX9_findTidiest_54 rfl rfl (q := 55) rfl ?_
    refine z_get dX9_findTidiest_55 fX9_39 (wm _ _ _) rfl (q := 58) rfl ?_
    refine z_bipush (v := 10) dX9_findTidiest_58 rfl (q := 60) rfl ?_
    refine z_iload_n (i := 3) dX9_findTidiest_60 rfl rfl (q := 61) rfl ?_
    refine z_imul dX9_findTidiest_61 (q := 62) rfl ?_
    refine z_aload_n (i := 0) dX9_findTidiest_62 rfl rfl (q := 63) rfl ?_
    refine z_get dX9_findTidiest_63 fX9_45 (wm _ _ _) rfl (q := 66) rfl ?_
    refine z_iload_n (i := 3) dX9_findTidiest_66 rfl rfl (q := 67) rfl ?_
    refine z_iald dX9_findTidiest_67 (wma_tried _ _ _) (zin (by omega) (by decide)) (q := 68) rfl ?_
    refine z_iadd dX9_findTidiest_68 (q := 69) rfl ?_
    refine Z.eqst (st2 := [.int (nI (10 * i + p i)), .ref 87, .int (nI i), .ref 90]) (congrArg (fun x => [Value.int (10 * nI i + x), Value.ref 87, Value.int (nI i), Value.ref 90]) (show Y.1 11 (nI i).toNatClampNeg = nI (p i) by rw [nI_clamp (by omega)]; exact htr i (by omega)) |>.trans (by rw [ix10])) ?_
    have hp1 := hp i (by omega)
    refine z_iald dX9_findTidiest_69 (wma_snap _ _ _) (zin (k := 10 * i + p i) (by omega) (by decide)) (q := 70) rfl ?_
    refine Z.eqst (st2 := [.int (Lay (Y.1 9) p i), .int (nI i), .ref 90]) (congrArg (fun x => [Value.int x, Value.int (nI i), Value.ref 90]) (show Y.1 9 (nI (10 * i + p i)).toNatClampNeg = Lay (Y.1 9) p i by rw [nI_clamp (by omega)])) ?_
    refine z_iast dX9_findTidiest_70 (wma_now _ _ _) (zin (by omega) (by decide)) (q := 71) rfl ?_
    refine Z.eqw (wms_now _ _ _ _) ?_
    rw [nI_clamp (by omega), yarr_yarr, yarr_f]
    refine z_iinc dX9_findTidiest_71 rfl rfl (zle rfl) rfl (q := 74) rfl ?_
    refine z_goto (tgt := 41) dX9_findTidiest_74 (by decide) ?_
    refine Z.eql (zl2 := [some (.ref 77), some (.int (nI t)), some (.int 1), some (.int (nI (i + 1))), e4, e5]) (by first | (rw [← nI_1 i]; done) | (rw [← nI_1 i]; rfl)) ?_
    exact ih (i + 1) _ (by omega) (ext_upd hf) hx
set_option maxRecDepth 100000 in
set_option maxHeartbeats 4000000 in
theorem z_X9_tid_77 {n nw t v : Nat} {s mm f : Nat → Int32} {cc p : Nat → Nat} {Y2 : zY} {e3 e4 e5 : Option Value} (hI : inv X n nw) (hR : rel X Y n nw) (ht : t < 2) (hm : ∀ j, j < n → mm j = nI (cc j) ∧ cc j ≤ 10) (hp : ∀ j, j < n → p j < cc j) (hv : vl cc p 0 n = v) (hT : TS Y Y2 s mm) (htr : ∀ j, j < n → Y2.1 11 j = nI (p j)) (hB : tbI X t n nw s (pQ n cc v) Y2) (hf : ∀ j, j < n → f j = Lay s p j) (hx : ∀ (p2 : Nat → Nat) (Y5 : zY), v + 1 < pr cc 0 n → (∀ j, j < n → p2 j < cc j) → vl cc p2 0 n = v + 1 → TS Y Y5 s mm → (∀ j, j < n → Y5.1 11 j = nI (p2 j)) → tbI X t n nw s (pQ n cc (v + 1)) Y5 → ∀ e3 e4 e5, Z G mX9_findTidiest (zrm 4 0 0) 0 0 35 [some (.ref 77), some (.int (nI t)), some (.int 1), e3, e4, e5] [] (zw X1 Y5 O) (fun r w => r = .inl none ∧ ∃ Y3, w = zw X1 Y3 O ∧ TS Y Y3 s mm ∧ tbI X t n nw s (pQ n cc (pr cc 0 n)) Y3)) : Z G mX9_findTidiest (zrm 4 0 0) 0 0 77 [some (.ref 77), some (.int (nI t)), some (.int 1), e3, e4, e5] [] (zw X1 (yarr Y2 12 f) O) (fun r w => r = .inl none ∧ ∃ Y3, w = zw X1 Y3 O ∧ TS Y Y3 s mm ∧ tbI X t n nw s (pQ n cc (pr cc 0 n)) Y3) := by
  have hRn : rel X (yarr Y2 12 f) n nw := rel_arr (rel_kY hR hT.1) (by decide) f
  refine z_aload_n (i := 0) dX9_findTidiest_77 rfl rfl (q := 78) rfl ?_
  refine z_iload_n (i := 1) dX9_findTidiest_78 rfl rfl (q := 79) rfl ?_
  refine z_callV (As := [_]) dX9_findTidiest_79 kX9_172 (c_X9_isAllowed hRn ht hf) (wm _ _ _) rfl rfl (zle rfl) ⟨zle rfl, zle rfl⟩ ⟨zle rfl, zle rfl⟩ (q := 82) rfl (fun rv w2 hw2 => ?_) (fun E w2 h9 => by obtain ⟨_, h9, _⟩ := h9; cases h9)
  obtain ⟨v1, h9, hb1, rfl, hv1⟩ := hw2
  cases h9
  refine z_if_eq (tgt := 166) dX9_findTidiest_82 (by decide) (q := 85) rfl (fun h82 => ?_) (fun h82 => ?_)
  · refine z_X9_tid_166 (v := v) hR hm hp hv (TS_arr hT (by decide) f) htr (tbI_no hB hp hv (fun h9 => hv1.mpr h9 h82)) hx
  · refine z_aload_n (i := 0) dX9_findTidiest_85 rfl rfl (q := 86) rfl ?_
    refine z_iload_n (i := 1) dX9_findTidiest_86 rfl rfl (q := 87) rfl ?_
    refine z_callVF (As := [_]) dX9_findTidiest_87 kX9_175 (c_X9_costNow hRn ht hf) (wm _ _ _) rfl rfl (zle rfl) ⟨zle rfl, zle rfl⟩ ⟨zle rfl, zle rfl⟩ (q := 90) rfl ?_
    refine z_istore_n (i := 3) dX9_findTidiest_90 rfl (zle rfl) rfl (q := 91) rfl ?_
    refine z_aload_n (i := 0) dX9_findTidiest_91 rfl rfl (q := 92) rfl ?_
    refine z_iload_n (i := 1) dX9_findTidiest_92 rfl rfl (q := 93) rfl ?_
    refine z_callVF (As := [_]) dX9_findTidiest_93 kX9_149 (c_X9_forceNow hI hRn ht hf) (wm _ _ _) rfl rfl (zle rfl) ⟨zle rfl, zle rfl⟩ ⟨zle rfl, zle rfl⟩ (q := 96) rfl ?_
    refine z_istore dX9_findTidiest_96 (zle rfl) rfl (q := 98) rfl ?_
    refine z_aload_n (i := 0) dX9_findTidiest_98 rfl rfl (q := 99) rfl ?_
    refine z_get dX9_findTidiest_99 fX9_159 (wm _ _ _) rfl (q := 102) rfl ?_
    refine z_if_eq (tgt := 146) dX9_findTidiest_102 (by decide) (q := 105) rfl (fun h102 => ?_) (fun h102 => ?_)
    · refine z_iconst (v := 1) dX9_findTidiest_146 rfl (q := 147) rfl ?_
      refine z_goto (tgt := 151) dX9_findTidiest_147 (by decide) ?_
      refine z_istore dX9_findTidiest_151 (zle rfl) rfl (q := 153) rfl ?_
      refine z_iload dX9_findTidiest_153 rfl (q := 155) rfl ?_
      refine z_if_eq (tgt := 166) dX9_findTidiest_155 (by decide) (q := 158) rfl (fun h155 => absurd h155 (by decide)) (fun h155 => ?_)
      refine z_aload_n (i := 0) dX9_findTidiest_158 rfl rfl (q := 159) rfl ?_
      refine z_iload_n (i := 3) dX9_findTidiest_159 rfl rfl (q := 160) rfl ?_
      refine z_iload dX9_findTidiest_160 rfl (q := 162) rfl ?_
      refine z_iconst (v := 0) dX9_findTidiest_162 rfl (q := 163) rfl ?_
      refine z_callV (As := [_, _, _]) dX9_findTidiest_163 kX9_182 (c_X9_keeps hRn) (wm _ _ _) rfl rfl (zle rfl) ⟨zle rfl, zle rfl⟩ ⟨zle rfl, zle rfl⟩ (q := 166) rfl (fun rv w2 hw2 => ?_) (fun E w2 h9 => by cases h9.1)
      obtain ⟨h9, f3, rfl, hf3⟩ := hw2
      cases h9
      refine z_X9_tid_166 (v := v) hR hm hp hv (TS_arr (TS_int (TS_int (TS_int (TS_int (TS_arr hT (by decide) f) (by decide) 1) (by decide) _) (by decide) _) (by decide) _) (by decide) f3) htr (tbI_keep hI hB (Or.inl h102) hp hv (hv1.mp h82) rfl rfl rfl (fun j hj => (hf3 j hj).trans (hf j hj))) hx
    · obtain ⟨p0, q1, q2, q3, q4, q5, q6⟩ := tbI_found hB h102
      refine z_iload dX9_findTidiest_105 rfl (q := 107) rfl ?_
      refine z_aload_n (i := 0) dX9_findTidiest_107 rfl rfl (q := 108) rfl ?_
      refine z_get dX9_findTidiest_108 fX9_166 (wm _ _ _) rfl (q := 111) rfl ?_
      refine z_icmp_gt (tgt := 146) dX9_findTidiest_111 (by decide) (q := 114) rfl (fun h111 => ?_) (fun h111 => ?_)
      · refine z_iconst (v := 1) dX9_findTidiest_146 rfl (q := 147) rfl ?_
        refine z_goto (tgt := 151) dX9_findTidiest_147 (by decide) ?_
        refine z_istore dX9_findTidiest_151 (zle rfl) rfl (q := 153) rfl ?_
        refine z_iload dX9_findTidiest_153 rfl (q := 155) rfl ?_
        refine z_if_eq (tgt := 166) dX9_findTidiest_155 (by decide) (q := 158) rfl (fun h155 => absurd h155 (by decide)) (fun h155 => ?_)
        refine z_aload_n (i := 0) dX9_findTidiest_158 rfl rfl (q := 159) rfl ?_
        refine z_iload_n (i := 3) dX9_findTidiest_159 rfl rfl (q := 160) rfl ?_
        refine z_iload dX9_findTidiest_160 rfl (q := 162) rfl ?_
        refine z_iconst (v := 0) dX9_findTidiest_162 rfl (q := 163) rfl ?_
        refine z_callV (As := [_, _, _]) dX9_findTidiest_163 kX9_182 (c_X9_keeps hRn) (wm _ _ _) rfl rfl (zle rfl) ⟨zle rfl, zle rfl⟩ ⟨zle rfl, zle rfl⟩ (q := 166) rfl (fun rv w2 hw2 => ?_) (fun E w2 h9 => by cases h9.1)
        obtain ⟨h9, f3, rfl, hf3⟩ := hw2
        cases h9
        refine z_X9_tid_166 (v := v) hR hm hp hv (TS_arr (TS_int (TS_int (TS_int (TS_int (TS_arr hT (by decide) f) (by decide) 1) (by decide) _) (by decide) _) (by decide) _) (by decide) f3) htr (tbI_keep hI hB (Or.inr ⟨p0, q6, Or.inl (show _ < _ by rw [← q4]; exact h111)⟩) hp hv (hv1.mp h82) rfl rfl rfl (fun j hj => (hf3 j hj).trans (hf j hj))) hx
      · refine z_iload dX9_findTidiest_114 rfl (q := 116) rfl ?_
        refine z_aload_n (i := 0) dX9_findTidiest_116 rfl rfl (q := 117) rfl ?_
        refine z_get dX9_findTidiest_117 fX9_166 (wm _ _ _) rfl (q := 120) rfl ?_
        refine z_icmp_ne (tgt := 150) dX9_findTidiest_120 (by decide) (q := 123) rfl (fun h120 => ?_) (fun h120 => ?_)
        · refine z_iconst (v := 0) dX9_findTidiest_150 rfl (q := 151) rfl ?_
          refine z_istore dX9_findTidiest_151 (zle rfl) rfl (q := 153) rfl ?_
          refine z_iload dX9_findTidiest_153 rfl (q := 155) rfl ?_
          refine z_if_eq (tgt := 166) dX9_findTidiest_155 (by decide) (q := 158) rfl (fun h155 => ?_) (fun h155 => absurd h155 (by decide))
          refine z_X9_tid_166 (v := v) hR hm hp hv (TS_arr hT (by decide) f) htr (tbI_skip (p0 := p0) hI h102 q1 q2 q3 q4 q5 q6 hp hv (fun h9 => h9.elim (fun h8 => h111 (show Y2.2.1 4 < _ by rw [q4]; exact h8)) (fun h8 => h120 (show _ = Y2.2.1 4 by rw [q4]; exact h8.1)))) hx
        · refine z_iload_n (i := 3) dX9_findTidiest_123 rfl rfl (q := 124) rfl ?_
          refine z_aload_n (i := 0) dX9_findTidiest_124 rfl rfl (q := 125) rfl ?_
          refine z_get dX9_findTidiest_125 fX9_163 (wm _ _ _) rfl (q := 128) rfl ?_
          refine z_icmp_lt (tgt := 146) dX9_findTidiest_128 (by decide) (q := 131) rfl (fun h128 => ?_) (fun h128 => ?_)
          · refine z_iconst (v := 1) dX9_findTidiest_146 rfl (q := 147) rfl ?_
            refine z_goto (tgt := 151) dX9_findTidiest_147 (by decide) ?_
            refine z_istore dX9_findTidiest_151 (zle rfl) rfl (q := 153) rfl ?_
            refine z_iload dX9_findTidiest_153 rfl (q := 155) rfl ?_
            refine z_if_eq (tgt := 166) dX9_findTidiest_155 (by decide) (q := 158) rfl (fun h155 => absurd h155 (by decide)) (fun h155 => ?_)
            refine z_aload_n (i := 0) dX9_findTidiest_158 rfl rfl (q := 159) rfl ?_
            refine z_iload_n (i := 3) dX9_findTidiest_159 rfl rfl (q := 160) rfl ?_
            refine z_iload dX9_findTidiest_160 rfl (q := 162) rfl ?_
            refine z_iconst (v := 0) dX9_findTidiest_162 rfl (q := 163) rfl ?_
            refine z_callV (As := [_, _, _]) dX9_findTidiest_163 kX9_182 (c_X9_keeps hRn) (wm _ _ _) rfl rfl (zle rfl) ⟨zle rfl, zle rfl⟩ ⟨zle rfl, zle rfl⟩ (q := 166) rfl (fun rv w2 hw2 => ?_) (fun E w2 h9 => by cases h9.1)
            obtain ⟨h9, f3, rfl, hf3⟩ := hw2
            cases h9
            refine z_X9_tid_166 (v := v) hR hm hp hv (TS_arr (TS_int (TS_int (TS_int (TS_int (TS_arr hT (by decide) f) (by decide) 1) (by decide) _) (by decide) _) (by decide) _) (by decide) f3) htr (tbI_keep hI hB (Or.inr ⟨p0, q6, Or.inr ⟨(show _ = _ by rw [← q4]; exact h120), Or.inl (show _ < _ by rw [← q5]; exact h128)⟩⟩) hp hv (hv1.mp h82) rfl rfl rfl (fun j hj => (hf3 j hj).trans (hf j hj))) hx
          · refine z_iload_n (i := 3) dX9_findTidiest_131 rfl rfl (q := 132) rfl ?_
            refine z_aload_n (i := 0) dX9_findTidiest_132 rfl rfl (q := 133) rfl ?_
            refine z_get dX9_findTidiest_133 fX9_163 (wm _ _ _) rfl (q := 136) rfl ?_
            refine z_icmp_ne (tgt := 150) dX9_findTidiest_136 (by decide) (q := 139) rfl (fun h136 => ?_) (fun h136 => ?_)
            · refine z_iconst (v := 0) dX9_findTidiest_150 rfl (q := 151) rfl ?_
              refine z_istore dX9_findTidiest_151 (zle rfl) rfl (q := 153) rfl ?_
              refine z_iload dX9_findTidiest_153 rfl (q := 155) rfl ?_
              refine z_if_eq (tgt := 166) dX9_findTidiest_155 (by decide) (q := 158) rfl (fun h155 => ?_) (fun h155 => absurd h155 (by decide))
              refine z_X9_tid_166 (v := v) hR hm hp hv (TS_arr hT (by decide) f) htr (tbI_skip (p0 := p0) hI h102 q1 q2 q3 q4 q5 q6 hp hv (fun h9 => h9.elim (fun h8 => h111 (show Y2.2.1 4 < _ by rw [q4]; exact h8)) (fun h8 => h8.2.elim (fun h7 => h128 (show _ < Y2.2.1 3 by rw [q5]; exact h7)) (fun h7 => h136 (show _ = Y2.2.1 3 by rw [q5]; exact h7.1))))) hx
            · refine z_aload_n (i := 0) dX9_findTidiest_139 rfl rfl (q := 140) rfl ?_
              refine z_callV (As := []) dX9_findTidiest_140 kX9_178 (c_X9_isLower (D := Lay s p) (E := Lay s p0) hRn hf q3) (wm _ _ _) rfl rfl (zle rfl) ⟨zle rfl, zle rfl⟩ ⟨zle rfl, zle rfl⟩ (q := 143) rfl (fun rv w2 hw2 => ?_) (fun E w2 h9 => by obtain ⟨_, h9, _⟩ := h9; cases h9)
              obtain ⟨v2, h9, hb2, rfl, hv2⟩ := hw2
              cases h9
              refine z_if_eq (tgt := 150) dX9_findTidiest_143 (by decide) (q := 146) rfl (fun h143 => ?_) (fun h143 => ?_)
              · refine z_iconst (v := 0) dX9_findTidiest_150 rfl (q := 151) rfl ?_
                refine z_istore dX9_findTidiest_151 (zle rfl) rfl (q := 153) rfl ?_
                refine z_iload dX9_findTidiest_153 rfl (q := 155) rfl ?_
                refine z_if_eq (tgt := 166) dX9_findTidiest_155 (by decide) (q := 158) rfl (fun h155 => ?_) (fun h155 => absurd h155 (by decide))
                refine z_X9_tid_166 (v := v) hR hm hp hv (TS_arr hT (by decide) f) htr (tbI_skip (p0 := p0) hI h102 q1 q2 q3 q4 q5 q6 hp hv (fun h9 => h9.elim (fun h8 => h111 (show Y2.2.1 4 < _ by rw [q4]; exact h8)) (fun h8 => h8.2.elim (fun h7 => h128 (show _ < Y2.2.1 3 by rw [q5]; exact h7)) (fun h7 => hv2.mpr h7.2 h143)))) hx
              · refine z_iconst (v := 1) dX9_findTidiest_146 rfl (q := 147) rfl ?_
                refine z_goto (tgt := 151) dX9_findTidiest_147 (by decide) ?_
                refine z_istore dX9_findTidiest_151 (zle rfl) rfl (q := 153) rfl ?_
                refine z_iload dX9_findTidiest_153 rfl (q := 155) rfl ?_
                refine z_if_eq (tgt := 166) dX9_findTidiest_155 (by decide) (q := 158) rfl (fun h155 => absurd h155 (by decide)) (fun h155 => ?_)
                refine z_aload_n (i := 0) dX9_findTidiest_158 rfl rfl (q := 159) rfl ?_
                refine z_iload_n (i := 3) dX9_findTidiest_159 rfl rfl (q := 160) rfl ?_
                refine z_iload dX9_findTidiest_160 rfl (q := 162) rfl ?_
                refine z_iconst (v := 0) dX9_findTidiest_162 rfl (q := 163) rfl ?_
                refine z_callV (As := [_, _, _]) dX9_findTidiest_163 kX9_182 (c_X9_keeps hRn) (wm _ _ _) rfl rfl (zle rfl) ⟨zle rfl, zle rfl⟩ ⟨zle rfl, zle rfl⟩ (q := 166) rfl (fun rv w2 hw2 => ?_) (fun E w2 h9 => by cases h9.1)
                obtain ⟨h9, f3, rfl, hf3⟩ := hw2
                cases h9
                refine z_X9_tid_166 (v := v) hR hm hp hv (TS_arr (TS_int (TS_int (TS_int (TS_int (TS_arr hT (by decide) f) (by decide) 1) (by decide) _) (by decide) _) (by decide) _) (by decide) f3) htr (tbI_keep hI hB (Or.inr ⟨p0, q6, Or.inr ⟨(show _ = _ by rw [← q4]; exact h120), Or.inr ⟨(show _ = _ by rw [← q5]; exact h136), hv2.mp h143⟩⟩⟩) hp hv (hv1.mp h82) rfl rfl rfl (fun j hj => (hf3 j hj).trans (hf j hj))) hx
end
