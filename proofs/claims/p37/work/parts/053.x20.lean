section
variable {G : zG} {X : zX} {Y : zY} {O : zO}
set_option maxRecDepth 100000 in
set_option maxHeartbeats 4000000 in
theorem barsI_x {X X2 : zX} {u i j c : Nat} {bf bs : Nat → Nat} {X1 : zX} (e1 : X2.2.1 (2 * u) = X.2.1 (2 * u)) (e2 : X2.2.1 (2 * u + 1) = X.2.1 (2 * u + 1)) (h : barsI X2 u i j c bf bs X1) : barsI X u i j c bf bs X1 := by
  unfold barsI barQ at h ⊢
  rw [e1, e2] at h
  exact h
set_option maxRecDepth 100000 in
set_option maxHeartbeats 4000000 in
theorem kp_wide {lo hi lo2 hi2 : Nat} {X X2 : zX} (h : kp lo hi X X2) (h1 : lo2 ≤ lo) (h2 : hi ≤ hi2) : kp lo2 hi2 X X2 := ⟨fun r hr => h.1 r (by omega), h.2⟩
set_option maxRecDepth 100000 in
set_option maxHeartbeats 4000000 in
theorem kp_trans {lo hi : Nat} {X X2 X3 : zX} (h : kp lo hi X X2) (h2 : kp lo hi X2 X3) : kp lo hi X X3 :=
  ⟨fun r hr => ⟨(h2.1 r hr).1.trans (h.1 r hr).1, (h2.1 r hr).2.trans (h.1 r hr).2⟩, h2.2.trans h.2⟩
set_option maxRecDepth 100000 in
set_option maxHeartbeats 4000000 in
theorem chD_x {X X1 X2 : zX} {t n k : Nat} (e1 : X2.2.1 11 = X1.2.1 11) (e2 : X2.2.1 12 = X1.2.1 12) (h : chD X t n X1 k) : chD X t n X2 k := by
  unfold chD at h ⊢
  rw [e1, e2]
  exact h
/- what a search along the axis t has loaded, but the wishes -/
set_option maxRecDepth 100000 in
set_option maxHeartbeats 4000000 in
def tsL (X : zX) (t n c : Nat) (bf bs : Nat → Nat) (X2 : zX) : Prop := kp 11 24 X X2 ∧ (∀ k, k < n → chD X t n X2 k) ∧ szI X t X2 n ∧ barsI X (1 - t) n 0 c bf bs X2 ∧ X2.1 21 = nI n ∧ ∀ k, k < n → X2.2.1 21 k = X.2.1 (2 * t) k
set_option maxRecDepth 100000 in
set_option maxHeartbeats 4000000 in
theorem z_X6_load_28_0 {n : Nat} {X3 : zX} (hn : X3.1 (2 * 0) = nI n) (h4 : n ≤ 4) : ∀ (m i : Nat) (X1 : zX), i + m = n → kp 21 21 X3 X1 → X1.1 21 = nI i → (∀ k, k < i → X1.2.1 21 k = X3.2.1 (2 * 0) k) → Z G mX6_load (zrm 3 0 0) 0 0 28 [some (.ref 26), some (.ref 1), some (.ref 6), some (.ref 11), some (.int (nI i))] [] (zw X1 Y O) (fun r w2 => r = .inl none ∧ ∃ X2, w2 = zw X2 Y O ∧ kp 21 21 X3 X2 ∧ X2.1 21 = nI n ∧ ∀ k, k < n → X2.2.1 21 k = X3.2.1 (2 * 0) k) := by
  intro m
  induction m with
  | zero =>
    intro i X1 hi hk hl hp
    refine z_iload dX6_load_28 rfl (q := 30) rfl ?_
    refine z_aload_n (i := 1) dX6_load_30 rfl rfl (q := 31) rfl ?_
    refine z_callVF (As := []) dX6_load_31 kX6_53 (c_X0_count (t := 0) (by decide) ) (wo_across _ _ _) rfl rfl (zle rfl) ⟨zle rfl, zle rfl⟩ ⟨zle rfl, zle rfl⟩ (q := 34) rfl ?_
    rw [show X1.1 (2 * 0) = nI n from (hk.1 _ (by decide)).1.trans hn]
    refine z_icmp_ge (tgt := 56) dX6_load_34 (by decide) (q := 37) rfl (fun h34 => ?_) (fun h34 => absurd (zge_t (by omega)) h34)
    exact z_vret dX6_load_56 rfl ⟨zle rfl, zle rfl⟩ ⟨rfl, X1, rfl, hk, hl.trans (by rw [show i = n by omega]), fun k h => hp k (by omega)⟩
  | succ m ih =>
    intro i X1 hi hk hl hp
    refine z_iload dX6_load_28 rfl (q := 30) rfl ?_
    refine z_aload_n (i := 1) dX6_load_30 rfl rfl (q := 31) rfl ?_
    refine z_callVF (As := []) dX6_load_31 kX6_53 (c_X0_count (t := 0) (by decide) ) (wo_across _ _ _) rfl rfl (zle rfl) ⟨zle rfl, zle rfl⟩ ⟨zle rfl, zle rfl⟩ (q := 34) rfl ?_
    rw [show X1.1 (2 * 0) = nI n from (hk.1 _ (by decide)).1.trans hn]
    refine z_icmp_ge (tgt := 56) dX6_load_34 (by decide) (q := 37) rfl (fun h34 => absurd h34 (zge_f (by omega) (by omega))) (fun h34 => ?_)
    refine z_aload_n (i := 0) dX6_load_37 rfl rfl (q := 38) rfl ?_
    refine z_get dX6_load_38 fX6_30 (wo_tidySearch _ _ _) rfl (q := 41) rfl ?_
    refine z_aload_n (i := 1) dX6_load_41 rfl rfl (q := 42) rfl ?_
    refine z_iload dX6_load_42 rfl (q := 44) rfl ?_
    refine z_callVF (As := [_]) dX6_load_44 kX6_59 (c_X0_startAt (t := 0) (by decide) (by omega)) (wo_across _ _ _) rfl rfl (zle rfl) ⟨zle rfl, zle rfl⟩ ⟨zle rfl, zle rfl⟩ (q := 47) rfl ?_
    rw [show X1.2.1 (2 * 0) i = X3.2.1 (2 * 0) i from kp_f hk (by decide) i]
    refine z_callVF (As := [_]) dX6_load_47 kX6_63 (c_X4_append' (k := i) (wr_21 _ _ _) hl (by omega) (by decide)) (wr_21 _ _ _).1 rfl rfl (zle rfl) ⟨zle rfl, zle rfl⟩ ⟨zle rfl, zle rfl⟩ (q := 50) rfl ?_
    refine Z.eqw (wp_21 _ _ _ _ _) ?_
    refine z_iinc dX6_load_50 rfl rfl (zle rfl) rfl (q := 53) rfl ?_
    refine z_goto (tgt := 28) dX6_load_53 (by decide) ?_
    refine Z.eql (zl2 := [some (.ref 26), some (.ref 1), some (.ref 6), some (.ref 11), some (.int (nI (i + 1)))]) (by first | (rw [← nI_1 i]; done) | (rw [← nI_1 i]; rfl)) ?_
    refine ih (i + 1) _ (by omega) (kp_row hk (by omega) _ _) (xrow_l X1 21 _ _) (fun k h => ?_)
    rw [xrow_f]
    rcases Nat.lt_or_ge k i with h1 | h1
    · exact (if_neg (by omega)).trans (hp k h1)
    · rw [show k = i by omega]; exact if_pos rfl
set_option maxRecDepth 100000 in
set_option maxHeartbeats 4000000 in
theorem c_X6_load_0 {n : Nat} (hn : X.1 (2 * 0) = nI n) (h4 : n ≤ 4) : ZM G mX6_load 3 0 0 [.ref 26, .ref 1, .ref 6, .ref 11] (zw X Y O) (fun r w2 => r = .inl none ∧ ∃ (X2 : zX) (c : Nat) (bf bs : Nat → Nat), w2 = zw X2 Y O ∧ tsL X 0 n c bf bs X2) := by
  refine ZM.go pX6 rfl rfl (zle rfl) (zl := [some (.ref 26), some (.ref 1), some (.ref 6), some (.ref 11), none]) rfl ?_
  refine z_aload_n (i := 0) dX6_load_0 rfl rfl (q := 1) rfl ?_
  refine z_get dX6_load_1 fX6_12 (wo_tidySearch _ _ _) rfl (q := 4) rfl ?_
  refine z_aload_n (i := 1) dX6_load_4 rfl rfl (q := 5) rfl ?_
  refine z_aload_n (i := 3) dX6_load_5 rfl rfl (q := 6) rfl ?_
  refine z_callV (As := [_, _]) dX6_load_6 kX6_43 (c_X1_load_0 hn h4) (wo_choices _ _ _) rfl rfl (zle rfl) ⟨zle rfl, zle rfl⟩ ⟨zle rfl, zle rfl⟩ (q := 9) rfl (fun rv w2 hw2 => ?_) (fun E w2 h9 => by cases h9.1)
  obtain ⟨h9, X1, rfl, hk1, hch⟩ := hw2
  cases h9
  refine z_aload_n (i := 0) dX6_load_9 rfl rfl (q := 10) rfl ?_
  refine z_get dX6_load_10 fX6_21 (wo_tidySearch _ _ _) rfl (q := 13) rfl ?_
  refine z_aload_n (i := 1) dX6_load_13 rfl rfl (q := 14) rfl ?_
  refine z_aload_n (i := 2) dX6_load_14 rfl rfl (q := 15) rfl ?_
  refine z_callV (As := [_, _]) dX6_load_15 kX6_47 (c_X5_load_0 (X := X1) ((hk1.1 _ (by decide)).1.trans hn) h4) (wo_rules _ _ _) rfl rfl (zle rfl) ⟨zle rfl, zle rfl⟩ ⟨zle rfl, zle rfl⟩ (q := 18) rfl (fun rv w2 hw2 => ?_) (fun E w2 h9 => by cases h9.1)
  obtain ⟨h9, X2, c, bf, bs, rfl, hk2, hs, hb⟩ := hw2
  cases h9
  refine z_aload_n (i := 0) dX6_load_18 rfl rfl (q := 19) rfl ?_
  refine z_get dX6_load_19 fX6_30 (wo_tidySearch _ _ _) rfl (q := 22) rfl ?_
  refine z_callVF (As := []) dX6_load_22 kX6_50 (c_X4_clear (wr_21 _ _ _)) (wr_21 _ _ _).1 rfl rfl (zle rfl) ⟨zle rfl, zle rfl⟩ ⟨zle rfl, zle rfl⟩ (q := 25) rfl ?_
  refine Z.eqw (wp_21 _ _ _ _ _) ?_
  refine z_iconst (v := 0) dX6_load_25 rfl (q := 26) rfl ?_
  refine z_istore dX6_load_26 (zle rfl) rfl (q := 28) rfl ?_
  refine Z.mono (z_X6_load_28_0 (X3 := X2) (((hk2.1 _ (by decide)).1.trans (hk1.1 _ (by decide)).1).trans hn) h4 n 0 _ (by omega) (kp_row (kp_refl 21 21 X2) (by omega) _ _) (xrow_l X2 21 _ _) (fun k h => absurd h (Nat.not_lt_zero _))) (fun r w2 h => ?_)
  obtain ⟨rfl, X4, rfl, hk3, hl, hp⟩ := h
  refine ⟨rfl, X4, c, bf, bs, rfl, kp_trans (kp_wide hk1 (by omega) (by omega)) (kp_trans (kp_wide hk2 (by omega) (by omega)) (kp_wide hk3 (by omega) (by omega))), fun k h => ?_, ⟨(hk3.1 14 (by decide)).1.trans hs.1, fun a ha => ?_⟩, ?_, hl, fun k h => ?_⟩
  · exact chD_x ((hk3.1 11 (by decide)).2.trans (hk2.1 11 (by decide)).2) ((hk3.1 12 (by decide)).2.trans (hk2.1 12 (by decide)).2) (hch k h)
  · exact (kp_f hk3 (by decide) a).trans ((hs.2 a ha).trans (kp_f hk1 (by decide) a))
  · have h1 := barsI_x (hk1.1 (2 * 1) (by decide)).2 (hk1.1 (2 * 1 + 1) (by decide)).2 hb
    obtain ⟨g1, g2, g3, g4, g5⟩ := h1
    exact ⟨(hk3.1 15 (by decide)).1.trans g1, (hk3.1 16 (by decide)).1.trans g2, g3, fun q hq => ⟨(kp_f hk3 (by decide) q).trans (g4 q hq).1, (kp_f hk3 (by decide) q).trans (g4 q hq).2.1, (g4 q hq).2.2⟩, g5⟩
  · exact (hp k h).trans ((kp_f hk2 (by decide) k).trans (kp_f hk1 (by decide) k))
set_option maxRecDepth 100000 in
set_option maxHeartbeats 4000000 in
theorem z_X6_load_28_1 {n : Nat} {X3 : zX} (hn : X3.1 (2 * 1) = nI n) (h4 : n ≤ 4) : ∀ (m i : Nat) (X1 : zX), i + m = n → kp 21 21 X3 X1 → X1.1 21 = nI i → (∀ k, k < i → X1.2.1 21 k = X3.2.1 (2 * 1) k) → Z G mX6_load (zrm 3 0 0) 0 0 28 [some (.ref 26), some (.ref 6), some (.ref 1), some (.ref 11), some (.int (nI i))] [] (zw X1 Y O) (fun r w2 => r = .inl none ∧ ∃ X2, w2 = zw X2 Y O ∧ kp 21 21 X3 X2 ∧ X2.1 21 = nI n ∧ ∀ k, k < n → X2.2.1 21 k = X3.2.1 (2 * 1) k) := by
  intro m
  induction m with
  | zero =>
    intro i X1 hi hk hl hp
    refine z_iload dX6_load_28 rfl (q := 30) rfl ?_
    refine z_aload_n (i := 1) dX6_load_30 rfl rfl (q := 31) rfl ?_
    refine z_callVF (As := []) dX6_load_31 kX6_53 (c_X0_count (t := 1) (by decide) ) (wo_down _ _ _) rfl rfl (zle rfl) ⟨zle rfl, zle rfl⟩ ⟨zle rfl, zle rfl⟩ (q := 34) rfl ?_
    rw [show X1.1 (2 * 1) = nI n from (hk.1 _ (by decide)).1.trans hn]
    refine z_icmp_ge (tgt := 56) dX6_load_34 (by decide) (q := 37) rfl (fun h34 => ?_) (fun h34 => absurd (zge_t (by omega)) h34)
    exact z_vret dX6_load_56 rfl ⟨zle rfl, zle rfl⟩ ⟨rfl, X1, rfl, hk, hl.trans (by rw [show i = n by omega]), fun k h => hp k (by omega)⟩
  | succ m ih =>
    intro i X1 hi hk hl hp
    refine z_iload dX6_load_28 rfl (q := 30) rfl ?_
    refine z_aload_n (i := 1) dX6_load_30 rfl rfl (q := 31) rfl ?_
    refine z_callVF (As := []) dX6_load_31 kX6_53 (c_X0_count (t := 1) (by decide) ) (wo_down _ _ _) rfl rfl (zle rfl) ⟨zle rfl, zle rfl⟩ ⟨zle rfl, zle rfl⟩ (q := 34) rfl ?_
    rw [show X1.1 (2 * 1) = nI n from (hk.1 _ (by decide)).1.trans hn]
    refine z_icmp_ge (tgt := 56) dX6_load_34 (by decide) (q := 37) rfl (fun h34 => absurd h34 (zge_f (by omega) (by omega))) (fun h34 => ?_)
    refine z_aload_n (i := 0) dX6_load_37 rfl rfl (q := 38) rfl ?_
    refine z_get dX6_load_38 fX6_30 (wo_tidySearch _ _ _) rfl (q := 41) rfl ?_
    refine z_aload_n (i := 1) dX6_load_41 rfl rfl (q := 42) rfl ?_
    refine z_iload dX6_load_42 rfl (q := 44) rfl ?_
    refine z_callVF (As := [_]) dX6_load_44 kX6_59 (c_X0_startAt (t := 1) (by decide) (by omega)) (wo_down _ _ _) rfl rfl (zle rfl) ⟨zle rfl, zle rfl⟩ ⟨zle rfl, zle rfl⟩ (q := 47) rfl ?_
    rw [show X1.2.1 (2 * 1) i = X3.2.1 (2 * 1) i from kp_f hk (by decide) i]
    refine z_callVF (As := [_]) dX6_load_47 kX6_63 (c_X4_append' (k := i) (wr_21 _ _ _) hl (by omega) (by decide)) (wr_21 _ _ _).1 rfl rfl (zle rfl) ⟨zle rfl, zle rfl⟩ ⟨zle rfl, zle rfl⟩ (q := 50) rfl ?_
    refine Z.eqw (wp_21 _ _ _ _ _) ?_
    refine z_iinc dX6_load_50 rfl rfl (zle rfl) rfl (q := 53) rfl ?_
    refine z_goto (tgt := 28) dX6_load_53 (by decide) ?_
    refine Z.eql (zl2 := [some (.ref 26), some (.ref 6), some (.ref 1), some (.ref 11), some (.int (nI (i + 1)))]) (by first | (rw [← nI_1 i]; done) | (rw [← nI_1 i]; rfl)) ?_
    refine ih (i + 1) _ (by omega) (kp_row hk (by omega) _ _) (xrow_l X1 21 _ _) (fun k h => ?_)
    rw [xrow_f]
    rcases Nat.lt_or_ge k i with h1 | h1
    · exact (if_neg (by omega)).trans (hp k h1)
    · rw [show k = i by omega]; exact if_pos rfl
set_option maxRecDepth 100000 in
set_option maxHeartbeats 4000000 in
theorem c_X6_load_1 {n : Nat} (hn : X.1 (2 * 1) = nI n) (h4 : n ≤ 4) : ZM G mX6_load 3 0 0 [.ref 26, .ref 6, .ref 1, .ref 11] (zw X Y O) (fun r w2 => r = .inl none ∧ ∃ (X2 : zX) (c : Nat) (bf bs : Nat → Nat), w2 = zw X2 Y O ∧ tsL X 1 n c bf bs X2) := by
  refine ZM.go pX6 rfl rfl (zle rfl) (zl := [some (.ref 26), some (.ref 6), some (.ref 1), some (.ref 11), none]) rfl ?_
  refine z_aload_n (i := 0) dX6_load_0 rfl rfl (q := 1) rfl ?_
  refine z_get dX6_load_1 fX6_12 (wo_tidySearch _ _ _) rfl (q := 4) rfl ?_
  refine z_aload_n (i := 1) dX6_load_4 rfl rfl (q := 5) rfl ?_
  refine z_aload_n (i := 3) dX6_load_5 rfl rfl (q := 6) rfl ?_
  refine z_callV (As := [_, _]) dX6_load_6 kX6_43 (c_X1_load_1 hn h4) (wo_choices _ _ _) rfl rfl (zle rfl) ⟨zle rfl, zle rfl⟩ ⟨zle rfl, zle rfl⟩ (q := 9) rfl (fun rv w2 hw2 => ?_) (fun E w2 h9 => by cases h9.1)
  obtain ⟨h9, X1, rfl, hk1, hch⟩ := hw2
  cases h9
  refine z_aload_n (i := 0) dX6_load_9 rfl rfl (q := 10) rfl ?_
  refine z_get dX6_load_10 fX6_21 (wo_tidySearch _ _ _) rfl (q := 13) rfl ?_
  refine z_aload_n (i := 1) dX6_load_13 rfl rfl (q := 14) rfl ?_
  refine z_aload_n (i := 2) dX6_load_14 rfl rfl (q := 15) rfl ?_
  refine z_callV (As := [_, _]) dX6_load_15 kX6_47 (c_X5_load_1 (X := X1) ((hk1.1 _ (by decide)).1.trans hn) h4) (wo_rules _ _ _) rfl rfl (zle rfl) ⟨zle rfl, zle rfl⟩ ⟨zle rfl, zle rfl⟩ (q := 18) rfl (fun rv w2 hw2 => ?_) (fun E w2 h9 => by cases h9.1)
  obtain ⟨h9, X2, c, bf, bs, rfl, hk2, hs, hb⟩ := hw2
  cases h9
  refine z_aload_n (i := 0) dX6_load_18 rfl rfl (q := 19) rfl ?_
  refine z_get dX6_load_19 fX6_30 (wo_tidySearch _ _ _) rfl (q := 22) rfl ?_
  refine z_callVF (As := []) dX6_load_22 kX6_50 (c_X4_clear (wr_21 _ _ _)) (wr_21 _ _ _).1 rfl rfl (zle rfl) ⟨zle rfl, zle rfl⟩ ⟨zle rfl, zle rfl⟩ (q := 25) rfl ?_
  refine Z.eqw (wp_21 _ _ _ _ _) ?_
  refine z_iconst (v := 0) dX6_load_25 rfl (q := 26) rfl ?_
  refine z_istore dX6_load_26 (zle rfl) rfl (q := 28) rfl ?_
  refine Z.mono (z_X6_load_28_1 (X3 := X2) (((hk2.1 _ (by decide)).1.trans (hk1.1 _ (by decide)).1).trans hn) h4 n 0 _ (by omega) (kp_row (kp_refl 21 21 X2) (by omega) _ _) (xrow_l X2 21 _ _) (fun k h => absurd h (Nat.not_lt_zero _))) (fun r w2 h => ?_)
  obtain ⟨rfl, X4, rfl, hk3, hl, hp⟩ := h
  refine ⟨rfl, X4, c, bf, bs, rfl, kp_trans (kp_wide hk1 (by omega) (by omega)) (kp_trans (kp_wide hk2 (by omega) (by omega)) (kp_wide hk3 (by omega) (by omega))), fun k h => ?_, ⟨(hk3.1 14 (by decide)).1.trans hs.1, fun a ha => ?_⟩, ?_, hl, fun k h => ?_⟩
  · exact chD_x ((hk3.1 11 (by decide)).2.trans (hk2.1 11 (by decide)).2) ((hk3.1 12 (by decide)).2.trans (hk2.1 12 (by decide)).2) (hch k h)
  · exact (kp_f hk3 (by decide) a).trans ((hs.2 a ha).trans (kp_f hk1 (by decide) a))
  · have h1 := barsI_x (hk1.1 (2 * 0) (by decide)).2 (hk1.1 (2 * 0 + 1) (by decide)).2 hb
    obtain ⟨g1, g2, g3, g4, g5⟩ := h1
    exact ⟨(hk3.1 15 (by decide)).1.trans g1, (hk3.1 16 (by decide)).1.trans g2, g3, fun q hq => ⟨(kp_f hk3 (by decide) q).trans (g4 q hq).1, (kp_f hk3 (by decide) q).trans (g4 q hq).2.1, (g4 q hq).2.2⟩, g5⟩
  · exact (hp k h).trans ((kp_f hk2 (by decide) k).trans (kp_f hk1 (by decide) k))
set_option maxRecDepth 100000 in
set_option maxHeartbeats 4000000 in
theorem c_X6_loadWishes {t nw : Nat} {wa wb : Nat → Nat} (h6 : X.1 6 = nI nw) (h8 : nw ≤ 8) (hs : wshapes X nw wa wb) : ZM G mX6_loadWishes 3 0 0 [.ref 26, .ref 15, .int (zch t)] (zw X Y O) (fun r w2 => r = .inl none ∧ ∃ (X2 : zX) (c : Nat) (wi : Nat → Nat), w2 = zw X2 Y O ∧ kp 17 20 X X2 ∧ wI X t wa wb nw c wi X2) := by
  refine ZM.go pX6 rfl rfl (zle rfl) (zl := [some (.ref 26), some (.ref 15), some (.int (zch t))]) rfl ?_
  refine z_aload_n (i := 0) dX6_loadWishes_0 rfl rfl (q := 1) rfl ?_
  refine z_get dX6_loadWishes_1 fX6_21 (wo_tidySearch _ _ _) rfl (q := 4) rfl ?_
  refine z_aload_n (i := 1) dX6_loadWishes_4 rfl rfl (q := 5) rfl ?_
  refine z_iload_n (i := 2) dX6_loadWishes_5 rfl rfl (q := 6) rfl ?_
  refine z_callV (As := [_, _]) dX6_loadWishes_6 kX6_66 (c_X5_loadWishes h6 h8 hs) (wo_rules _ _ _) rfl rfl (zle rfl) ⟨zle rfl, zle rfl⟩ ⟨zle rfl, zle rfl⟩ (q := 9) rfl (fun rv w2 hw2 => ?_) (fun E w2 h9 => by cases h9.1)
  obtain ⟨h9, X1, c, wi, rfl, hk, hw⟩ := hw2
  cases h9
  exact z_vret dX6_loadWishes_9 rfl ⟨zle rfl, zle rfl⟩ ⟨rfl, X1, c, wi, rfl, hk, hw⟩
set_option maxRecDepth 100000 in
set_option maxHeartbeats 4000000 in
theorem c_X6_foundStrength  : ZM G mX6_foundStrength 0 0 0 [.ref 26] (zw X Y O) (zEq (some (.int (X.2.2.1 0))) (zw X Y O)) := by
  refine ZM.go pX6 rfl rfl (zle rfl) (zl := [some (.ref 26)]) rfl ?_
  refine z_aload_n (i := 0) dX6_foundStrength_0 rfl rfl (q := 1) rfl ?_
  refine z_get dX6_foundStrength_1 fX6_70 (wo_tidySearch _ _ _) rfl (q := 4) rfl ?_
  exact z_iret dX6_foundStrength_4 rfl ⟨zle rfl, zle rfl⟩ ⟨rfl, rfl⟩
set_option maxRecDepth 100000 in
set_option maxHeartbeats 4000000 in
theorem c_X6_foundCost  : ZM G mX6_foundCost 0 0 0 [.ref 26] (zw X Y O) (zEq (some (.int (X.2.2.1 1))) (zw X Y O)) := by
  refine ZM.go pX6 rfl rfl (zle rfl) (zl := [some (.ref 26)]) rfl ?_
  refine z_aload_n (i := 0) dX6_foundCost_0 rfl rfl (q := 1) rfl ?_
  refine z_get dX6_foundCost_1 fX6_74 (wo_tidySearch _ _ _) rfl (q := 4) rfl ?_
  exact z_iret dX6_foundCost_4 rfl ⟨zle rfl, zle rfl⟩ ⟨rfl, rfl⟩
set_option maxRecDepth 100000 in
set_option maxHeartbeats 4000000 in
theorem c_X6_foundStart {k : Nat} (hk : k < 4) : ZM G mX6_foundStart 1 0 0 [.ref 26, .int (nI k)] (zw X Y O) (zEq (some (.int (X.2.1 24 k))) (zw X Y O)) := by
  refine ZM.go pX6 rfl rfl (zle rfl) (zl := [some (.ref 26), some (.int (nI k))]) rfl ?_
  refine z_aload_n (i := 0) dX6_foundStart_0 rfl rfl (q := 1) rfl ?_
  refine z_get dX6_foundStart_1 fX6_40 (wo_tidySearch _ _ _) rfl (q := 4) rfl ?_
  refine z_iload_n (i := 1) dX6_foundStart_4 rfl rfl (q := 5) rfl ?_
  refine z_callVF (As := [_]) dX6_foundStart_5 kX6_77 (c_X4_get  (wr_24 _ _ _) (by omega) (by decide)) (wr_24 _ _ _).1 rfl rfl (zle rfl) ⟨zle rfl, zle rfl⟩ ⟨zle rfl, zle rfl⟩ (q := 8) rfl ?_
  exact z_iret dX6_foundStart_8 rfl ⟨zle rfl, zle rfl⟩ ⟨rfl, rfl⟩
set_option maxRecDepth 100000 in
set_option maxHeartbeats 4000000 in
abbrev ztid (X : zX) (s c : Int32) : Prop := X.2.2.1 0 < s ∨ s = X.2.2.1 0 ∧ c < X.2.2.1 1
set_option maxRecDepth 100000 in
set_option maxHeartbeats 4000000 in
theorem c_X6_isTidier {s c : Int32} : ZM G mX6_isTidier 0 0 0 [.ref 26, .int s, .int c] (zw X Y O) (zEq (some (.int (zb (ztid X s c)))) (zw X Y O)) := by
  refine ZM.go pX6 rfl rfl (zle rfl) (zl := [some (.ref 26), some (.int s), some (.int c)]) rfl ?_
  refine z_iload_n (i := 1) dX6_isTidier_0 rfl rfl (q := 1) rfl ?_
  refine z_aload_n (i := 0) dX6_isTidier_1 rfl rfl (q := 2) rfl ?_
  refine z_get dX6_isTidier_2 fX6_70 (wo_tidySearch _ _ _) rfl (q := 5) rfl ?_
  refine z_icmp_gt (tgt := 24) dX6_isTidier_5 (by decide) (q := 8) rfl (fun h5 => ?_) (fun h5 => ?_)
  · refine z_iconst (v := 1) dX6_isTidier_24 rfl (q := 25) rfl ?_
    refine z_goto (tgt := 29) dX6_isTidier_25 (by decide) ?_
    exact z_zret dX6_isTidier_29 rfl (by first | rfl | exact zb_n) ⟨zle rfl, zle rfl⟩ (by first | exact zr1 (Or.inl (by assumption)) | exact zr1 (Or.inr ⟨by assumption, Int32.not_le.mp (by assumption)⟩) | exact zr0 (fun h9 => h9.elim (by assumption) (fun h8 => by first | exact absurd h8.1 (by assumption) | exact absurd h8.2 (Int32.not_lt.mpr (by assumption)))))
  · refine z_iload_n (i := 1) dX6_isTidier_8 rfl rfl (q := 9) rfl ?_
    refine z_aload_n (i := 0) dX6_isTidier_9 rfl rfl (q := 10) rfl ?_
    refine z_get dX6_isTidier_10 fX6_70 (wo_tidySearch _ _ _) rfl (q := 13) rfl ?_
    refine z_icmp_ne (tgt := 28) dX6_isTidier_13 (by decide) (q := 16) rfl (fun h13 => ?_) (fun h13 => ?_)
    · refine z_iconst (v := 0) dX6_isTidier_28 rfl (q := 29) rfl ?_
      exact z_zret dX6_isTidier_29 rfl (by first | rfl | exact zb_n) ⟨zle rfl, zle rfl⟩ (by first | exact zr1 (Or.inl (by assumption)) | exact zr1 (Or.inr ⟨by assumption, Int32.not_le.mp (by assumption)⟩) | exact zr0 (fun h9 => h9.elim (by assumption) (fun h8 => by first | exact absurd h8.1 (by assumption) | exact absurd h8.2 (Int32.not_lt.mpr (by assumption)))))
    · refine z_iload_n (i := 2) dX6_isTidier_16 rfl rfl (q := 17) rfl ?_
      refine z_aload_n (i := 0) dX6_isTidier_17 rfl rfl (q := 18) rfl ?_
      refine z_get dX6_isTidier_18 fX6_74 (wo_tidySearch _ _ _) rfl (q := 21) rfl ?_
      refine z_icmp_ge (tgt := 28) dX6_isTidier_21 (by decide) (q := 24) rfl (fun h21 => ?_) (fun h21 => ?_)
      · refine z_iconst (v := 0) dX6_isTidier_28 rfl (q := 29) rfl ?_
        exact z_zret dX6_isTidier_29 rfl (by first | rfl | exact zb_n) ⟨zle rfl, zle rfl⟩ (by first | exact zr1 (Or.inl (by assumption)) | exact zr1 (Or.inr ⟨by assumption, Int32.not_le.mp (by assumption)⟩) | exact zr0 (fun h9 => h9.elim (by assumption) (fun h8 => by first | exact absurd h8.1 (by assumption) | exact absurd h8.2 (Int32.not_lt.mpr (by assumption)))))
      · refine z_iconst (v := 1) dX6_isTidier_24 rfl (q := 25) rfl ?_
        refine z_goto (tgt := 29) dX6_isTidier_25 (by decide) ?_
        exact z_zret dX6_isTidier_29 rfl (by first | rfl | exact zb_n) ⟨zle rfl, zle rfl⟩ (by first | exact zr1 (Or.inl (by assumption)) | exact zr1 (Or.inr ⟨by assumption, Int32.not_le.mp (by assumption)⟩) | exact zr0 (fun h9 => h9.elim (by assumption) (fun h8 => by first | exact absurd h8.1 (by assumption) | exact absurd h8.2 (Int32.not_lt.mpr (by assumption)))))
set_option maxRecDepth 100000 in
set_option maxHeartbeats 4000000 in
def kt (X X2 : zX) : Prop := (∀ r, r ≠ 24 → X2.1 r = X.1 r ∧ X2.2.1 r = X.2.1 r) ∧ X2.2.2.2 = X.2.2.2
set_option maxRecDepth 100000 in
set_option maxHeartbeats 4000000 in
theorem kt_row {X X2 : zX} (h : kt X X2) (f : Nat → Int32) (l : Int32) : kt X (xrow X2 24 f l) := ⟨fun r hr => ⟨(xrow_ln X2 hr f l).trans (h.1 r hr).1, (xrow_fn X2 hr f l).trans (h.1 r hr).2⟩, h.2⟩
set_option maxRecDepth 100000 in
set_option maxHeartbeats 4000000 in
theorem kt_int {X X2 : zX} (h : kt X X2) (j : Nat) (v : Int32) : kt X (xint X2 j v) := h
set_option maxRecDepth 100000 in
set_option maxHeartbeats 4000000 in
theorem z_X6_keep_3_21 {n : Nat} {s c : Int32} (hn : X.1 21 = nI n) (h4 : n ≤ 4) : ∀ (m i : Nat) (X1 : zX), i + m = n → kt X X1 → (∀ k, k < i → X1.2.1 24 k = X.2.1 21 k) → Z G mX6_keep (zrm 1 0 0) 0 0 3 [some (.ref 26), some (.ref 49), some (.int s), some (.int c), some (.int (nI i))] [] (zw X1 Y O) (fun r w2 => r = .inl none ∧ ∃ X2, w2 = zw X2 Y O ∧ kt X X2 ∧ X2.2.2.1 0 = s ∧ X2.2.2.1 1 = c ∧ ∀ k, k < n → X2.2.1 24 k = X.2.1 21 k) := by
  intro m
  induction m with
  | zero =>
    intro i X1 hi hk hp
    refine z_iload dX6_keep_3 rfl (q := 5) rfl ?_
    refine z_aload_n (i := 0) dX6_keep_5 rfl rfl (q := 6) rfl ?_
    refine z_get dX6_keep_6 fX6_30 (wo_tidySearch _ _ _) rfl (q := 9) rfl ?_
    refine z_callVF (As := []) dX6_keep_9 kX6_99 (c_X4_length (wr_21 _ _ _)) (wr_21 _ _ _).1 rfl rfl (zle rfl) ⟨zle rfl, zle rfl⟩ ⟨zle rfl, zle rfl⟩ (q := 12) rfl ?_
    rw [show X1.1 21 = nI n from (hk.1 21 (by decide)).1.trans hn]
    refine z_icmp_ge (tgt := 36) dX6_keep_12 (by decide) (q := 15) rfl (fun h12 => ?_) (fun h12 => absurd (zge_t (by omega)) h12)
    refine z_aload_n (i := 0) dX6_keep_36 rfl rfl (q := 37) rfl ?_
    refine z_iload_n (i := 2) dX6_keep_37 rfl rfl (q := 38) rfl ?_
    refine z_put dX6_keep_38 fX6_70 (wo_tidySearch _ _ _) (zle rfl) (zfit_int _) (q := 41) rfl ?_
    refine Z.eqw (wi_0 _ _ _ _) ?_
    refine z_aload_n (i := 0) dX6_keep_41 rfl rfl (q := 42) rfl ?_
    refine z_iload_n (i := 3) dX6_keep_42 rfl rfl (q := 43) rfl ?_
    refine z_put dX6_keep_43 fX6_74 (wo_tidySearch _ _ _) (zle rfl) (zfit_int _) (q := 46) rfl ?_
    refine Z.eqw (wi_1 _ _ _ _) ?_
    exact z_vret dX6_keep_46 rfl ⟨zle rfl, zle rfl⟩ ⟨rfl, _, rfl, kt_int (kt_int hk 0 s) 1 c, rfl, rfl, fun k h => hp k (by omega)⟩
  | succ m ih =>
    intro i X1 hi hk hp
    refine z_iload dX6_keep_3 rfl (q := 5) rfl ?_
    refine z_aload_n (i := 0) dX6_keep_5 rfl rfl (q := 6) rfl ?_
    refine z_get dX6_keep_6 fX6_30 (wo_tidySearch _ _ _) rfl (q := 9) rfl ?_
    refine z_callVF (As := []) dX6_keep_9 kX6_99 (c_X4_length (wr_21 _ _ _)) (wr_21 _ _ _).1 rfl rfl (zle rfl) ⟨zle rfl, zle rfl⟩ ⟨zle rfl, zle rfl⟩ (q := 12) rfl ?_
    rw [show X1.1 21 = nI n from (hk.1 21 (by decide)).1.trans hn]
    refine z_icmp_ge (tgt := 36) dX6_keep_12 (by decide) (q := 15) rfl (fun h12 => absurd h12 (zge_f (by omega) (by omega))) (fun h12 => ?_)
    refine z_aload_n (i := 0) dX6_keep_15 rfl rfl (q := 16) rfl ?_
    refine z_get dX6_keep_16 fX6_40 (wo_tidySearch _ _ _) rfl (q := 19) rfl ?_
    refine z_iload dX6_keep_19 rfl (q := 21) rfl ?_
    refine z_aload_n (i := 1) dX6_keep_21 rfl rfl (q := 22) rfl ?_
    refine z_iload dX6_keep_22 rfl (q := 24) rfl ?_
    refine z_callVF (As := [_]) dX6_keep_24 kX6_77 (c_X4_get  (wr_21 _ _ _) (by omega) (by decide)) (wr_21 _ _ _).1 rfl rfl (zle rfl) ⟨zle rfl, zle rfl⟩ ⟨zle rfl, zle rfl⟩ (q := 27) rfl ?_
    rw [show X1.2.1 21 i = X.2.1 21 i from congrFun (hk.1 21 (by decide)).2 i]
    refine z_callVF (As := [_, _]) dX6_keep_27 kX6_112 (c_X4_set  (wr_24 _ _ _) (by omega) (by decide)) (wr_24 _ _ _).1 rfl rfl (zle rfl) ⟨zle rfl, zle rfl⟩ ⟨zle rfl, zle rfl⟩ (q := 30) rfl ?_
    refine Z.eqw (wp_24 _ _ _ _ _) ?_
    refine z_iinc dX6_keep_30 rfl rfl (zle rfl) rfl (q := 33) rfl ?_
    refine z_goto (tgt := 3) dX6_keep_33 (by decide) ?_
    refine Z.eql (zl2 := [some (.ref 26), some (.ref 49), some (.int s), some (.int c), some (.int (nI (i + 1)))]) (by first | (rw [← nI_1 i]; done) | (rw [← nI_1 i]; rfl)) ?_
    refine ih (i + 1) _ (by omega) (kt_row hk _ _) (fun k h => ?_)
    rw [xrow_f]
    rcases Nat.lt_or_ge k i with h1 | h1
    · exact (if_neg (by omega)).trans (hp k h1)
    · rw [show k = i by omega]; exact if_pos rfl
set_option maxRecDepth 100000 in
set_option maxHeartbeats 4000000 in
theorem c_X6_keep_21 {n : Nat} {s c : Int32} (hn : X.1 21 = nI n) (h4 : n ≤ 4) : ZM G mX6_keep 1 0 0 [.ref 26, .ref 49, .int s, .int c] (zw X Y O) (fun r w2 => r = .inl none ∧ ∃ X2, w2 = zw X2 Y O ∧ kt X X2 ∧ X2.2.2.1 0 = s ∧ X2.2.2.1 1 = c ∧ ∀ k, k < n → X2.2.1 24 k = X.2.1 21 k) := by
  refine ZM.go pX6 rfl rfl (zle rfl) (zl := [some (.ref 26), some (.ref 49), some (.int s), some (.int c), none]) rfl ?_
  refine z_iconst (v := 0) dX6_keep_0 rfl (q := 1) rfl ?_
  refine z_istore dX6_keep_1 (zle rfl) rfl (q := 3) rfl ?_
  exact z_X6_keep_3_21 hn h4 n 0 X (by omega) ⟨fun _ _ => ⟨rfl, rfl⟩, rfl⟩ (fun k h => absurd h (Nat.not_lt_zero _))
set_option maxRecDepth 100000 in
set_option maxHeartbeats 4000000 in
theorem z_X6_keep_3_22 {n : Nat} {s c : Int32} (hn : X.1 21 = nI n) (h4 : n ≤ 4) : ∀ (m i : Nat) (X1 : zX), i + m = n → kt X X1 → (∀ k, k < i → X1.2.1 24 k = X.2.1 22 k) → Z G mX6_keep (zrm 1 0 0) 0 0 3 [some (.ref 26), some (.ref 51), some (.int s), some (.int c), some (.int (nI i))] [] (zw X1 Y O) (fun r w2 => r = .inl none ∧ ∃ X2, w2 = zw X2 Y O ∧ kt X X2 ∧ X2.2.2.1 0 = s ∧ X2.2.2.1 1 = c ∧ ∀ k, k < n → X2.2.1 24 k = X.2.1 22 k) := by
  intro m
  induction m with
  | zero =>
    intro i X1 hi hk hp
    refine z_iload dX6_keep_3 rfl (q := 5) rfl ?_
    refine z_aload_n (i := 0) dX6_keep_5 rfl rfl (q := 6) rfl ?_
    refine z_get dX6_keep_6 fX6_30 (wo_tidySearch _ _ _) rfl (q := 9) rfl ?_
    refine z_callVF (As := []) dX6_keep_9 kX6_99 (c_X4_length (wr_21 _ _ _)) (wr_21 _ _ _).1 rfl rfl (zle rfl) ⟨zle rfl, zle rfl⟩ ⟨zle rfl, zle rfl⟩ (q := 12) rfl ?_
    rw [show X1.1 21 = nI n from (hk.1 21 (by decide)).1.trans hn]
    refine z_icmp_ge (tgt := 36) dX6_keep_12 (by decide) (q := 15) rfl (fun h12 => ?_) (fun h12 => absurd (zge_t (by omega)) h12)
    refine z_aload_n (i := 0) dX6_keep_36 rfl rfl (q := 37) rfl ?_
    refine z_iload_n (i := 2) dX6_keep_37 rfl rfl (q := 38) rfl ?_
    refine z_put dX6_keep_38 fX6_70 (wo_tidySearch _ _ _) (zle rfl) (zfit_int _) (q := 41) rfl ?_
    refine Z.eqw (wi_0 _ _ _ _) ?_
    refine z_aload_n (i := 0) dX6_keep_41 rfl rfl (q := 42) rfl ?_
    refine z_iload_n (i := 3) dX6_keep_42 rfl rfl (q := 43) rfl ?_
    refine z_put dX6_keep_43 fX6_74 (wo_tidySearch _ _ _) (zle rfl) (zfit_int _) (q := 46) rfl ?_
    refine Z.eqw (wi_1 _ _ _ _) ?_
    exact z_vret dX6_keep_46 rfl ⟨zle rfl, zle rfl⟩ ⟨rfl, _, rfl, kt_int (kt_int hk 0 s) 1 c, rfl, rfl, fun k h => hp k (by omega)⟩
  | succ m ih =>
    intro i X1 hi hk hp
    refine z_iload dX6_keep_3 rfl (q := 5) rfl ?_
    refine z_aload_n (i := 0) dX6_keep_5 rfl rfl (q := 6) rfl ?_
    refine z_get dX6_keep_6 fX6_30 (wo_tidySearch _ _ _) rfl (q := 9) rfl ?_
    refine z_callVF (As := []) dX6_keep_9 kX6_99 (c_X4_length (wr_21 _ _ _)) (wr_21 _ _ _).1 rfl rfl (zle rfl) ⟨zle rfl, zle rfl⟩ ⟨zle rfl, zle rfl⟩ (q := 12) rfl ?_
    rw [show X1.1 21 = nI n from (hk.1 21 (by decide)).1.trans hn]
    refine z_icmp_ge (tgt := 36) dX6_keep_12 (by decide) (q := 15) rfl (fun h12 => absurd h12 (zge_f (by omega) (by omega))) (fun h12 => ?_)
    refine z_aload_n (i := 0) dX6_keep_15 rfl rfl (q := 16) rfl ?_
    refine z_get dX6_keep_16 fX6_40 (wo_tidySearch _ _ _) rfl (q := 19) rfl ?_
    refine z_iload dX6_keep_19 rfl (q := 21) rfl ?_
    refine z_aload_n (i := 1) dX6_keep_21 rfl rfl (q := 22) rfl ?_
    refine z_iload dX6_keep_22 rfl (q := 24) rfl ?_
    refine z_callVF (As := [_]) dX6_keep_24 kX6_77 (c_X4_get  (wr_22 _ _ _) (by omega) (by decide)) (wr_22 _ _ _).1 rfl rfl (zle rfl) ⟨zle rfl, zle rfl⟩ ⟨zle rfl, zle rfl⟩ (q := 27) rfl ?_
    rw [show X1.2.1 22 i = X.2.1 22 i from congrFun (hk.1 22 (by decide)).2 i]
    refine z_callVF (As := [_, _]) dX6_keep_27 kX6_112 (c_X4_set  (wr_24 _ _ _) (by omega) (by decide)) (wr_24 _ _ _).1 rfl rfl (zle rfl) ⟨zle rfl, zle rfl⟩ ⟨zle rfl, zle rfl⟩ (q := 30) rfl ?_
    refine Z.eqw (wp_24 _ _ _ _ _) ?_
    refine z_iinc dX6_keep_30 rfl rfl (zle rfl) rfl (q := 33) rfl ?_
    refine z_goto (tgt := 3) dX6_keep_33 (by decide) ?_
    refine Z.eql (zl2 := [some (.ref 26), some (.ref 51), some (.int s), some (.int c), some (.int (nI (i + 1)))]) (by first | (rw [← nI_1 i]; done) | (rw [← nI_1 i]; rfl)) ?_
    refine ih (i + 1) _ (by omega) (kt_row hk _ _) (fun k h => ?_)
    rw [xrow_f]
    rcases Nat.lt_or_ge k i with h1 | h1
    · exact (if_neg (by omega)).trans (hp k h1)
    · rw [show k = i by omega]; exact if_pos rfl
set_option maxRecDepth 100000 in
set_option maxHeartbeats 4000000 in
theorem c_X6_keep_22 {n : Nat} {s c : Int32} (hn : X.1 21 = nI n) (h4 : n ≤ 4) : ZM G mX6_keep 1 0 0 [.ref 26, .ref 51, .int s, .int c] (zw X Y O) (fun r w2 => r = .inl none ∧ ∃ X2, w2 = zw X2 Y O ∧ kt X X2 ∧ X2.2.2.1 0 = s ∧ X2.2.2.1 1 = c ∧ ∀ k, k < n → X2.2.1 24 k = X.2.1 22 k) := by
  refine ZM.go pX6 rfl rfl (zle rfl) (zl := [some (.ref 26), some (.ref 51), some (.int s), some (.int c), none]) rfl ?_
  refine z_iconst (v := 0) dX6_keep_0 rfl (q := 1) rfl ?_
  refine z_istore dX6_keep_1 (zle rfl) rfl (q := 3) rfl ?_
  exact z_X6_keep_3_22 hn h4 n 0 X (by omega) ⟨fun _ _ => ⟨rfl, rfl⟩, rfl⟩ (fun k h => absurd h (Nat.not_lt_zero _))
end
