section
variable {G : zG} {X : zX} {Y : zY} {O : zO}
set_option maxRecDepth 100000 in
set_option maxHeartbeats 4000000 in
def tri : Nat → Nat
  | 0 => 0
  | n + 1 => tri n + n
set_option maxRecDepth 100000 in
set_option maxHeartbeats 4000000 in
theorem tri_6 : ∀ i, i < 4 → tri i + i ≤ 6 := by decide
set_option maxRecDepth 100000 in
set_option maxHeartbeats 4000000 in
theorem nI_min {a b : Nat} (ha : a < 4) (hb : b < 4) : (if nI b < nI a then nI b else nI a) = nI (min a b) := by
  rcases Nat.lt_or_ge b a with h | h
  · rw [if_pos ((nI_ltI (by omega) (by omega)).mpr h), Nat.min_eq_right (by omega)]
  · rw [if_neg (fun h2 => absurd ((nI_ltI (by omega) (by omega)).mp h2) (by omega)), Nat.min_eq_left h]
set_option maxRecDepth 100000 in
set_option maxHeartbeats 4000000 in
theorem nI_max {a b : Nat} (ha : a < 4) (hb : b < 4) : (if nI a < nI b then nI b else nI a) = nI (max a b) := by
  rcases Nat.lt_or_ge a b with h | h
  · rw [if_pos ((nI_ltI (by omega) (by omega)).mpr h), Nat.max_eq_right (by omega)]
  · rw [if_neg (fun h2 => absurd ((nI_ltI (by omega) (by omega)).mp h2) (by omega)), Nat.max_eq_left h]
/- the sizes as loaded -/
set_option maxRecDepth 100000 in
set_option maxHeartbeats 4000000 in
def szI (X : zX) (t : Nat) (X1 : zX) (k : Nat) : Prop := X1.1 14 = nI k ∧ ∀ a, a < k → X1.2.1 14 a = X.2.1 (2 * t + 1) a
/- two shapes share units of the axis u -/
set_option maxRecDepth 100000 in
set_option maxHeartbeats 4000000 in
abbrev barQ (X : zX) (u f s : Nat) : Prop := zmeet (X.2.1 (2 * u) f) (X.2.1 (2 * u + 1) f) (X.2.1 (2 * u) s) (X.2.1 (2 * u + 1) s)
/- the bars as loaded: those of the second shapes below i, and of i with the first ones below j -/
set_option maxRecDepth 100000 in
set_option maxHeartbeats 4000000 in
def barsI (X : zX) (u i j c : Nat) (bf bs : Nat → Nat) (X1 : zX) : Prop := X1.1 15 = nI c ∧ X1.1 16 = nI c ∧ c ≤ tri i + j ∧ (∀ q, q < c → X1.2.1 15 q = nI (bf q) ∧ X1.2.1 16 q = nI (bs q) ∧ bf q < bs q ∧ (bs q < i ∨ bs q = i ∧ bf q < j) ∧ barQ X u (bf q) (bs q)) ∧ ∀ f s, f < s → (s < i ∨ s = i ∧ f < j) → barQ X u f s → ∃ q, q < c ∧ bf q = f ∧ bs q = s
set_option maxRecDepth 100000 in
set_option maxHeartbeats 4000000 in
theorem barsI_add {X : zX} {u i j c : Nat} {bf bs : Nat → Nat} {X1 : zX} (h : barsI X u i j c bf bs X1) (hj : j < i) (hq : barQ X u j i) : barsI X u i (j + 1) (c + 1) (va_up bf c j) (va_up bs c i) (xrow (xrow X1 15 (upd (X1.2.1 15) c (nI j)) (nI (c + 1))) 16 (upd (X1.2.1 16) c (nI i)) (nI (c + 1))) := by
  obtain ⟨h1, h2, h3, h4, h5⟩ := h
  refine ⟨rfl, rfl, by omega, fun q hq2 => ?_, fun f s hfs hs hb => ?_⟩
  · show upd (X1.2.1 15) c (nI j) q = nI (va_up bf c j q) ∧ upd (X1.2.1 16) c (nI i) q = nI (va_up bs c i q) ∧ _
    rcases Nat.lt_or_ge q c with h6 | h6
    · have e1 : va_up bf c j q = bf q := if_neg (by omega)
      have e2 : va_up bs c i q = bs q := if_neg (by omega)
      rw [e1, e2, show upd (X1.2.1 15) c (nI j) q = X1.2.1 15 q from if_neg (by omega), show upd (X1.2.1 16) c (nI i) q = X1.2.1 16 q from if_neg (by omega)]
      obtain ⟨g1, g2, g3, g4, g5⟩ := h4 q h6
      exact ⟨g1, g2, g3, by omega, g5⟩
    · have h7 : q = c := by omega
      rw [h7, show va_up bf c j c = j from if_pos rfl, show va_up bs c i c = i from if_pos rfl]
      exact ⟨if_pos rfl, if_pos rfl, hj, Or.inr ⟨rfl, by omega⟩, hq⟩
  · rcases Decidable.em (s = i ∧ f = j) with h6 | h6
    · exact ⟨c, by omega, by rw [h6.2]; exact if_pos rfl, by rw [h6.1]; exact if_pos rfl⟩
    · obtain ⟨q, g1, g2, g3⟩ := h5 f s hfs (by omega) hb
      exact ⟨q, by omega, (if_neg (by omega)).trans g2, (if_neg (by omega)).trans g3⟩
set_option maxRecDepth 100000 in
set_option maxHeartbeats 4000000 in
theorem barsI_skip {X : zX} {u i j c : Nat} {bf bs : Nat → Nat} {X1 : zX} (h : barsI X u i j c bf bs X1) (hq : ¬ barQ X u j i) : barsI X u i (j + 1) c bf bs X1 := by
  obtain ⟨h1, h2, h3, h4, h5⟩ := h
  refine ⟨h1, h2, by omega, fun q hq2 => ?_, fun f s hfs hs hb => ?_⟩
  · obtain ⟨g1, g2, g3, g4, g5⟩ := h4 q hq2
    exact ⟨g1, g2, g3, by omega, g5⟩
  · rcases Decidable.em (s = i ∧ f = j) with h6 | h6
    · exact absurd (by rw [← h6.1, ← h6.2]; exact hb) hq
    · exact h5 f s hfs (by omega) hb
set_option maxRecDepth 100000 in
set_option maxHeartbeats 4000000 in
theorem barsI_next {X : zX} {u i c : Nat} {bf bs : Nat → Nat} {X1 : zX} (h : barsI X u i i c bf bs X1) : barsI X u (i + 1) 0 c bf bs X1 := by
  obtain ⟨h1, h2, h3, h4, h5⟩ := h
  refine ⟨h1, h2, by show c ≤ tri i + i + 0; omega, fun q hq2 => ?_, fun f s hfs hs hb => h5 f s hfs (by omega) hb⟩
  obtain ⟨g1, g2, g3, g4, g5⟩ := h4 q hq2
  exact ⟨g1, g2, g3, by omega, g5⟩
set_option maxRecDepth 100000 in
set_option maxHeartbeats 4000000 in
theorem barsI_14 {X : zX} {u i j c : Nat} {bf bs : Nat → Nat} {X1 : zX} (h : barsI X u i j c bf bs X1) (f : Nat → Int32) (l : Int32) : barsI X u i j c bf bs (xrow X1 14 f l) := h
set_option maxRecDepth 100000 in
set_option maxHeartbeats 4000000 in
theorem szI_add {X : zX} {t : Nat} {X1 : zX} {k : Nat} (h : szI X t X1 k) : szI X t (xrow X1 14 (upd (X1.2.1 14) k (X.2.1 (2 * t + 1) k)) (nI (k + 1))) (k + 1) := by
  refine ⟨rfl, fun a ha => ?_⟩
  show upd (X1.2.1 14) k (X.2.1 (2 * t + 1) k) a = _
  rcases Nat.lt_or_ge a k with h1 | h1
  · exact (if_neg (by omega)).trans (h.2 a h1)
  · rw [show a = k by omega]; exact if_pos rfl
set_option maxRecDepth 100000 in
set_option maxHeartbeats 4000000 in
theorem z_X5_load_46_0 {i : Nat} {P : zRes → zWorld → Prop} (hi : i < 4) (hx : ∀ (X2 : zX) (c : Nat) (bf bs : Nat → Nat), kp 14 16 X X2 → szI X 0 X2 (i + 1) → barsI X 1 i i c bf bs X2 → Z G mX5_load (zrm 2 0 0) 0 0 94 [some (.ref 34), some (.ref 1), some (.ref 6), some (.int (nI i)), some (.int (nI i))] [] (zw X2 Y O) P) : ∀ (m j c : Nat) (bf bs : Nat → Nat) (X1 : zX), j + m = i → kp 14 16 X X1 → szI X 0 X1 (i + 1) → barsI X 1 i j c bf bs X1 → Z G mX5_load (zrm 2 0 0) 0 0 46 [some (.ref 34), some (.ref 1), some (.ref 6), some (.int (nI i)), some (.int (nI j))] [] (zw X1 Y O) P := by
  intro m
  induction m with
  | zero =>
    intro j c bf bs X1 he hk hs hb
    have hin : j = i := by omega
    rw [hin] at hb ⊢
    refine z_iload dX5_load_46 rfl (q := 48) rfl ?_
    refine z_iload_n (i := 3) dX5_load_48 rfl rfl (q := 49) rfl ?_
    refine z_icmp_ge (tgt := 94) dX5_load_49 (by decide) (q := 52) rfl (fun h49 => ?_) (fun h49 => absurd (zge_t (by omega)) h49)
    exact hx X1 c bf bs hk hs hb
  | succ m ih =>
    intro j c bf bs X1 he hk hs hb
    refine z_iload dX5_load_46 rfl (q := 48) rfl ?_
    refine z_iload_n (i := 3) dX5_load_48 rfl rfl (q := 49) rfl ?_
    refine z_icmp_ge (tgt := 94) dX5_load_49 (by decide) (q := 52) rfl (fun h49 => absurd h49 (zge_f (by omega) (by omega))) (fun h49 => ?_)
    refine z_aload_n (i := 2) dX5_load_52 rfl rfl (q := 53) rfl ?_
    refine z_iload dX5_load_53 rfl (q := 55) rfl ?_
    refine z_aload_n (i := 2) dX5_load_55 rfl rfl (q := 56) rfl ?_
    refine z_iload_n (i := 3) dX5_load_56 rfl rfl (q := 57) rfl ?_
    refine z_callVF (As := [_]) dX5_load_57 kX5_54 (c_X0_startAt (t := 1) (by decide) (by omega)) (wo_down _ _ _) rfl rfl (zle rfl) ⟨zle rfl, zle rfl⟩ ⟨zle rfl, zle rfl⟩ (q := 60) rfl ?_
    refine z_aload_n (i := 2) dX5_load_60 rfl rfl (q := 61) rfl ?_
    refine z_iload_n (i := 3) dX5_load_61 rfl rfl (q := 62) rfl ?_
    refine z_callVF (As := [_]) dX5_load_62 kX5_47 (c_X0_sizeAt (t := 1) (by decide) (by omega)) (wo_down _ _ _) rfl rfl (zle rfl) ⟨zle rfl, zle rfl⟩ ⟨zle rfl, zle rfl⟩ (q := 65) rfl ?_
    refine z_callVF (As := [_, _, _]) dX5_load_65 kX5_57 (c_X0_meets (t := 1) (by decide) (by omega)) (wo_down _ _ _) rfl rfl (zle rfl) ⟨zle rfl, zle rfl⟩ ⟨zle rfl, zle rfl⟩ (q := 68) rfl ?_
    refine z_if_eq (tgt := 88) dX5_load_68 (by decide) (q := 71) rfl (fun h68 => ?_) (fun h68 => ?_)
    · replace h68 := zb_0.mp h68
      rw [(hk.1 (2 * 1) (by decide)).2, (hk.1 (2 * 1 + 1) (by decide)).2] at h68
      refine z_iinc dX5_load_88 rfl rfl (zle rfl) rfl (q := 91) rfl ?_
      refine z_goto (tgt := 46) dX5_load_91 (by decide) ?_
      refine Z.eql (zl2 := [some (.ref 34), some (.ref 1), some (.ref 6), some (.int (nI i)), some (.int (nI (j + 1)))]) (by first | (rw [← nI_1 j]; done) | (rw [← nI_1 j]; rfl)) ?_
      exact ih (j + 1) c bf bs X1 (by omega) hk hs (barsI_skip hb h68)
    · replace h68 := zb_1.mp h68
      rw [(hk.1 (2 * 1) (by decide)).2, (hk.1 (2 * 1 + 1) (by decide)).2] at h68
      have hc6 : c + 1 ≤ 6 := by have h9 := tri_6 i hi; have h8 := hb.2.2.1; omega
      refine z_aload_n (i := 0) dX5_load_71 rfl rfl (q := 72) rfl ?_
      refine z_get dX5_load_72 fX5_20 (wo_rules _ _ _) rfl (q := 75) rfl ?_
      refine z_iload dX5_load_75 rfl (q := 77) rfl ?_
      refine z_callVF (As := [_]) dX5_load_77 kX5_51 (c_X4_append' (k := c) (wr_15 _ _ _) hb.1 (by omega) (by decide)) (wr_15 _ _ _).1 rfl rfl (zle rfl) ⟨zle rfl, zle rfl⟩ ⟨zle rfl, zle rfl⟩ (q := 80) rfl ?_
      refine Z.eqw (wp_15 _ _ _ _ _) ?_
      refine z_aload_n (i := 0) dX5_load_80 rfl rfl (q := 81) rfl ?_
      refine z_get dX5_load_81 fX5_23 (wo_rules _ _ _) rfl (q := 84) rfl ?_
      refine z_iload_n (i := 3) dX5_load_84 rfl rfl (q := 85) rfl ?_
      refine z_callVF (As := [_]) dX5_load_85 kX5_51 (c_X4_append' (k := c) (wr_16 _ _ _) hb.2.1 (by omega) (by decide)) (wr_16 _ _ _).1 rfl rfl (zle rfl) ⟨zle rfl, zle rfl⟩ ⟨zle rfl, zle rfl⟩ (q := 88) rfl ?_
      refine Z.eqw (wp_16 _ _ _ _ _) ?_
      refine z_iinc dX5_load_88 rfl rfl (zle rfl) rfl (q := 91) rfl ?_
      refine z_goto (tgt := 46) dX5_load_91 (by decide) ?_
      refine Z.eql (zl2 := [some (.ref 34), some (.ref 1), some (.ref 6), some (.int (nI i)), some (.int (nI (j + 1)))]) (by first | (rw [← nI_1 j]; done) | (rw [← nI_1 j]; rfl)) ?_
      exact ih (j + 1) (c + 1) _ _ _ (by omega) (kp_row (kp_row hk (r := 15) (by omega) _ _) (r := 16) (by omega) _ _) hs (barsI_add hb (by omega) h68)
set_option maxRecDepth 100000 in
set_option maxHeartbeats 4000000 in
theorem z_X5_load_23_0 {n : Nat} (hn : X.1 (2 * 0) = nI n) (h4 : n ≤ 4) : ∀ (m i c : Nat) (bf bs : Nat → Nat) (X1 : zX) (e4 : Option Value), i + m = n → kp 14 16 X X1 → szI X 0 X1 i → barsI X 1 i 0 c bf bs X1 → Z G mX5_load (zrm 2 0 0) 0 0 23 [some (.ref 34), some (.ref 1), some (.ref 6), some (.int (nI i)), e4] [] (zw X1 Y O) (fun r w2 => r = .inl none ∧ ∃ (X2 : zX) (c : Nat) (bf bs : Nat → Nat), w2 = zw X2 Y O ∧ kp 14 16 X X2 ∧ szI X 0 X2 n ∧ barsI X 1 n 0 c bf bs X2) := by
  intro m
  induction m with
  | zero =>
    intro i c bf bs X1 e4 hi hk hs hb
    have hin : i = n := by omega
    refine z_iload_n (i := 3) dX5_load_23 rfl rfl (q := 24) rfl ?_
    refine z_aload_n (i := 1) dX5_load_24 rfl rfl (q := 25) rfl ?_
    refine z_callVF (As := []) dX5_load_25 kX5_41 (c_X0_count (t := 0) (by decide) ) (wo_across _ _ _) rfl rfl (zle rfl) ⟨zle rfl, zle rfl⟩ ⟨zle rfl, zle rfl⟩ (q := 28) rfl ?_
    rw [show X1.1 (2 * 0) = nI n from (hk.1 _ (by decide)).1.trans hn]
    refine z_icmp_ge (tgt := 100) dX5_load_28 (by decide) (q := 31) rfl (fun h28 => ?_) (fun h28 => absurd (zge_t (by omega)) h28)
    exact z_vret dX5_load_100 rfl ⟨zle rfl, zle rfl⟩ ⟨rfl, X1, c, bf, bs, rfl, hk, by rw [← hin]; exact hs, by rw [← hin]; exact hb⟩
  | succ m ih =>
    intro i c bf bs X1 e4 hi hk hs hb
    refine z_iload_n (i := 3) dX5_load_23 rfl rfl (q := 24) rfl ?_
    refine z_aload_n (i := 1) dX5_load_24 rfl rfl (q := 25) rfl ?_
    refine z_callVF (As := []) dX5_load_25 kX5_41 (c_X0_count (t := 0) (by decide) ) (wo_across _ _ _) rfl rfl (zle rfl) ⟨zle rfl, zle rfl⟩ ⟨zle rfl, zle rfl⟩ (q := 28) rfl ?_
    rw [show X1.1 (2 * 0) = nI n from (hk.1 _ (by decide)).1.trans hn]
    refine z_icmp_ge (tgt := 100) dX5_load_28 (by decide) (q := 31) rfl (fun h28 => absurd h28 (zge_f (by omega) (by omega))) (fun h28 => ?_)
    refine z_aload_n (i := 0) dX5_load_31 rfl rfl (q := 32) rfl ?_
    refine z_get dX5_load_32 fX5_14 (wo_rules _ _ _) rfl (q := 35) rfl ?_
    refine z_aload_n (i := 1) dX5_load_35 rfl rfl (q := 36) rfl ?_
    refine z_iload_n (i := 3) dX5_load_36 rfl rfl (q := 37) rfl ?_
    refine z_callVF (As := [_]) dX5_load_37 kX5_47 (c_X0_sizeAt (t := 0) (by decide) (by omega)) (wo_across _ _ _) rfl rfl (zle rfl) ⟨zle rfl, zle rfl⟩ ⟨zle rfl, zle rfl⟩ (q := 40) rfl ?_
    rw [show X1.2.1 (2 * 0 + 1) i = X.2.1 (2 * 0 + 1) i from kp_f hk (by decide) i]
    refine z_callVF (As := [_]) dX5_load_40 kX5_51 (c_X4_append' (k := i) (wr_14 _ _ _) hs.1 (by omega) (by decide)) (wr_14 _ _ _).1 rfl rfl (zle rfl) ⟨zle rfl, zle rfl⟩ ⟨zle rfl, zle rfl⟩ (q := 43) rfl ?_
    refine Z.eqw (wp_14 _ _ _ _ _) ?_
    refine z_iconst (v := 0) dX5_load_43 rfl (q := 44) rfl ?_
    refine z_istore dX5_load_44 (zle rfl) rfl (q := 46) rfl ?_
    refine z_X5_load_46_0 (X := X) (by omega) (fun X2 c bf bs hk hs hb => ?_) i 0 c bf bs _ (by omega) (kp_row hk (by omega) _ _) (szI_add hs) (barsI_14 hb _ _)
    refine z_iinc dX5_load_94 rfl rfl (zle rfl) rfl (q := 97) rfl ?_
    refine z_goto (tgt := 23) dX5_load_97 (by decide) ?_
    refine Z.eql (zl2 := [some (.ref 34), some (.ref 1), some (.ref 6), some (.int (nI (i + 1))), some (.int (nI i))]) (by first | (rw [← nI_1 i]; done) | (rw [← nI_1 i]; rfl)) ?_
    exact ih (i + 1) c bf bs X2 _ (by omega) hk hs (barsI_next hb)
set_option maxRecDepth 100000 in
set_option maxHeartbeats 4000000 in
theorem c_X5_load_0 {n : Nat} (hn : X.1 (2 * 0) = nI n) (h4 : n ≤ 4) : ZM G mX5_load 2 0 0 [.ref 34, .ref 1, .ref 6] (zw X Y O) (fun r w2 => r = .inl none ∧ ∃ (X2 : zX) (c : Nat) (bf bs : Nat → Nat), w2 = zw X2 Y O ∧ kp 14 16 X X2 ∧ szI X 0 X2 n ∧ barsI X 1 n 0 c bf bs X2) := by
  refine ZM.go pX5 rfl rfl (zle rfl) (zl := [some (.ref 34), some (.ref 1), some (.ref 6), none, none]) rfl ?_
  refine z_aload_n (i := 0) dX5_load_0 rfl rfl (q := 1) rfl ?_
  refine z_get dX5_load_1 fX5_14 (wo_rules _ _ _) rfl (q := 4) rfl ?_
  refine z_callVF (As := []) dX5_load_4 kX5_38 (c_X4_clear (wr_14 _ _ _)) (wr_14 _ _ _).1 rfl rfl (zle rfl) ⟨zle rfl, zle rfl⟩ ⟨zle rfl, zle rfl⟩ (q := 7) rfl ?_
  refine Z.eqw (wp_14 _ _ _ _ _) ?_
  refine z_aload_n (i := 0) dX5_load_7 rfl rfl (q := 8) rfl ?_
  refine z_get dX5_load_8 fX5_20 (wo_rules _ _ _) rfl (q := 11) rfl ?_
  refine z_callVF (As := []) dX5_load_11 kX5_38 (c_X4_clear (wr_15 _ _ _)) (wr_15 _ _ _).1 rfl rfl (zle rfl) ⟨zle rfl, zle rfl⟩ ⟨zle rfl, zle rfl⟩ (q := 14) rfl ?_
  refine Z.eqw (wp_15 _ _ _ _ _) ?_
  refine z_aload_n (i := 0) dX5_load_14 rfl rfl (q := 15) rfl ?_
  refine z_get dX5_load_15 fX5_23 (wo_rules _ _ _) rfl (q := 18) rfl ?_
  refine z_callVF (As := []) dX5_load_18 kX5_38 (c_X4_clear (wr_16 _ _ _)) (wr_16 _ _ _).1 rfl rfl (zle rfl) ⟨zle rfl, zle rfl⟩ ⟨zle rfl, zle rfl⟩ (q := 21) rfl ?_
  refine Z.eqw (wp_16 _ _ _ _ _) ?_
  refine z_iconst (v := 0) dX5_load_21 rfl (q := 22) rfl ?_
  refine z_istore_n (i := 3) dX5_load_22 rfl (zle rfl) rfl (q := 23) rfl ?_
  exact z_X5_load_23_0 hn h4 n 0 0 (fun _ => 0) (fun _ => 0) _ _ (by omega) (kp_row (kp_row (kp_row (kp_refl 14 16 X) (r := 14) (by omega) _ _) (r := 15) (by omega) _ _) (r := 16) (by omega) _ _) ⟨rfl, fun a h => absurd h (Nat.not_lt_zero _)⟩ ⟨rfl, rfl, Nat.zero_le _, fun q h => absurd h (Nat.not_lt_zero _), fun f s _ h => absurd h (by omega)⟩
set_option maxRecDepth 100000 in
set_option maxHeartbeats 4000000 in
theorem z_X5_load_46_1 {i : Nat} {P : zRes → zWorld → Prop} (hi : i < 4) (hx : ∀ (X2 : zX) (c : Nat) (bf bs : Nat → Nat), kp 14 16 X X2 → szI X 1 X2 (i + 1) → barsI X 0 i i c bf bs X2 → Z G mX5_load (zrm 2 0 0) 0 0 94 [some (.ref 34), some (.ref 6), some (.ref 1), some (.int (nI i)), some (.int (nI i))] [] (zw X2 Y O) P) : ∀ (m j c : Nat) (bf bs : Nat → Nat) (X1 : zX), j + m = i → kp 14 16 X X1 → szI X 1 X1 (i + 1) → barsI X 0 i j c bf bs X1 → Z G mX5_load (zrm 2 0 0) 0 0 46 [some (.ref 34), some (.ref 6), some (.ref 1), some (.int (nI i)), some (.int (nI j))] [] (zw X1 Y O) P := by
  intro m
  induction m with
  | zero =>
    intro j c bf bs X1 he hk hs hb
    have hin : j = i := by omega
    rw [hin] at hb ⊢
    refine z_iload dX5_load_46 rfl (q := 48) rfl ?_
    refine z_iload_n (i := 3) dX5_load_48 rfl rfl (q := 49) rfl ?_
    refine z_icmp_ge (tgt := 94) dX5_load_49 (by decide) (q := 52) rfl (fun h49 => ?_) (fun h49 => absurd (zge_t (by omega)) h49)
    exact hx X1 c bf bs hk hs hb
  | succ m ih =>
    intro j c bf bs X1 he hk hs hb
    refine z_iload dX5_load_46 rfl (q := 48) rfl ?_
    refine z_iload_n (i := 3) dX5_load_48 rfl rfl (q := 49) rfl ?_
    refine z_icmp_ge (tgt := 94) dX5_load_49 (by decide) (q := 52) rfl (fun h49 => absurd h49 (zge_f (by omega) (by omega))) (fun h49 => ?_)
    refine z_aload_n (i := 2) dX5_load_52 rfl rfl (q := 53) rfl ?_
    refine z_iload dX5_load_53 rfl (q := 55) rfl ?_
    refine z_aload_n (i := 2) dX5_load_55 rfl rfl (q := 56) rfl ?_
    refine z_iload_n (i := 3) dX5_load_56 rfl rfl (q := 57) rfl ?_
    refine z_callVF (As := [_]) dX5_load_57 kX5_54 (c_X0_startAt (t := 0) (by decide) (by omega)) (wo_across _ _ _) rfl rfl (zle rfl) ⟨zle rfl, zle rfl⟩ ⟨zle rfl, zle rfl⟩ (q := 60) rfl ?_
    refine z_aload_n (i := 2) dX5_load_60 rfl rfl (q := 61) rfl ?_
    refine z_iload_n (i := 3) dX5_load_61 rfl rfl (q := 62) rfl ?_
    refine z_callVF (As := [_]) dX5_load_62 kX5_47 (c_X0_sizeAt (t := 0) (by decide) (by omega)) (wo_across _ _ _) rfl rfl (zle rfl) ⟨zle rfl, zle rfl⟩ ⟨zle rfl, zle rfl⟩ (q := 65) rfl ?_
    refine z_callVF (As := [_, _, _]) dX5_load_65 kX5_57 (c_X0_meets (t := 0) (by decide) (by omega)) (wo_across _ _ _) rfl rfl (zle rfl) ⟨zle rfl, zle rfl⟩ ⟨zle rfl, zle rfl⟩ (q := 68) rfl ?_
    refine z_if_eq (tgt := 88) dX5_load_68 (by decide) (q := 71) rfl (fun h68 => ?_) (fun h68 => ?_)
    · replace h68 := zb_0.mp h68
      rw [(hk.1 (2 * 0) (by decide)).2, (hk.1 (2 * 0 + 1) (by decide)).2] at h68
      refine z_iinc dX5_load_88 rfl rfl (zle rfl) rfl (q := 91) rfl ?_
      refine z_goto (tgt := 46) dX5_load_91 (by decide) ?_
      refine Z.eql (zl2 := [some (.ref 34), some (.ref 6), some (.ref 1), some (.int (nI i)), some (.int (nI (j + 1)))]) (by first | (rw [← nI_1 j]; done) | (rw [← nI_1 j]; rfl)) ?_
      exact ih (j + 1) c bf bs X1 (by omega) hk hs (barsI_skip hb h68)
    · replace h68 := zb_1.mp h68
      rw [(hk.1 (2 * 0) (by decide)).2, (hk.1 (2 * 0 + 1) (by decide)).2] at h68
      have hc6 : c + 1 ≤ 6 := by have h9 := tri_6 i hi; have h8 := hb.2.2.1; omega
      refine z_aload_n (i := 0) dX5_load_71 rfl rfl (q := 72) rfl ?_
      refine z_get dX5_load_72 fX5_20 (wo_rules _ _ _) rfl (q := 75) rfl ?_
      refine z_iload dX5_load_75 rfl (q := 77) rfl ?_
      refine z_callVF (As := [_]) dX5_load_77 kX5_51 (c_X4_append' (k := c) (wr_15 _ _ _) hb.1 (by omega) (by decide)) (wr_15 _ _ _).1 rfl rfl (zle rfl) ⟨zle rfl, zle rfl⟩ ⟨zle rfl, zle rfl⟩ (q := 80) rfl ?_
      refine Z.eqw (wp_15 _ _ _ _ _) ?_
      refine z_aload_n (i := 0) dX5_load_80 rfl rfl (q := 81) rfl ?_
      refine z_get dX5_load_81 fX5_23 (wo_rules _ _ _) rfl (q := 84) rfl ?_
      refine z_iload_n (i := 3) dX5_load_84 rfl rfl (q := 85) rfl ?_
      refine z_callVF (As := [_]) dX5_load_85 kX5_51 (c_X4_append' (k := c) (wr_16 _ _ _) hb.2.1 (by omega) (by decide)) (wr_16 _ _ _).1 rfl rfl (zle rfl) ⟨zle rfl, zle rfl⟩ ⟨zle rfl, zle rfl⟩ (q := 88) rfl ?_
      refine Z.eqw (wp_16 _ _ _ _ _) ?_
      refine z_iinc dX5_load_88 rfl rfl (zle rfl) rfl (q := 91) rfl ?_
      refine z_goto (tgt := 46) dX5_load_91 (by decide) ?_
      refine Z.eql (zl2 := [some (.ref 34), some (.ref 6), some (.ref 1), some (.int (nI i)), some (.int (nI (j + 1)))]) (by first | (rw [← nI_1 j]; done) | (rw [← nI_1 j]; rfl)) ?_
      exact ih (j + 1) (c + 1) _ _ _ (by omega) (kp_row (kp_row hk (r := 15) (by omega) _ _) (r := 16) (by omega) _ _) hs (barsI_add hb (by omega) h68)
set_option maxRecDepth 100000 in
set_option maxHeartbeats 4000000 in
theorem z_X5_load_23_1 {n : Nat} (hn : X.1 (2 * 1) = nI n) (h4 : n ≤ 4) : ∀ (m i c : Nat) (bf bs : Nat → Nat) (X1 : zX) (e4 : Option Value), i + m = n → kp 14 16 X X1 → szI X 1 X1 i → barsI X 0 i 0 c bf bs X1 → Z G mX5_load (zrm 2 0 0) 0 0 23 [some (.ref 34), some (.ref 6), some (.ref 1), some (.int (nI i)), e4] [] (zw X1 Y O) (fun r w2 => r = .inl none ∧ ∃ (X2 : zX) (c : Nat) (bf bs : Nat → Nat), w2 = zw X2 Y O ∧ kp 14 16 X X2 ∧ szI X 1 X2 n ∧ barsI X 0 n 0 c bf bs X2) := by
  intro m
  induction m with
  | zero =>
    intro i c bf bs X1 e4 hi hk hs hb
    have hin : i = n := by omega
    refine z_iload_n (i := 3) dX5_load_23 rfl rfl (q := 24) rfl ?_
    refine z_aload_n (i := 1) dX5_load_24 rfl rfl (q := 25) rfl ?_
    refine z_callVF (As := []) dX5_load_25 kX5_41 (c_X0_count (t := 1) (by decide) ) (wo_down _ _ _) rfl rfl (zle rfl) ⟨zle rfl, zle rfl⟩ ⟨zle rfl, zle rfl⟩ (q := 28) rfl ?_
    rw [show X1.1 (2 * 1) = nI n from (hk.1 _ (by decide)).1.trans hn]
    refine z_icmp_ge (tgt := 100) dX5_load_28 (by decide) (q := 31) rfl (fun h28 => ?_) (fun h28 => absurd (zge_t (by omega)) h28)
    exact z_vret dX5_load_100 rfl ⟨zle rfl, zle rfl⟩ ⟨rfl, X1, c, bf, bs, rfl, hk, by rw [← hin]; exact hs, by rw [← hin]; exact hb⟩
  | succ m ih =>
    intro i c bf bs X1 e4 hi hk hs hb
    refine z_iload_n (i := 3) dX5_load_23 rfl rfl (q := 24) rfl ?_
    refine z_aload_n (i := 1) dX5_load_24 rfl rfl (q := 25) rfl ?_
    refine z_callVF (As := []) dX5_load_25 kX5_41 (c_X0_count (t := 1) (by decide) ) (wo_down _ _ _) rfl rfl (zle rfl) ⟨zle rfl, zle rfl⟩ ⟨zle rfl, zle rfl⟩ (q := 28) rfl ?_
    rw [show X1.1 (2 * 1) = nI n from (hk.1 _ (by decide)).1.trans hn]
    refine z_icmp_ge (tgt := 100) dX5_load_28 (by decide) (q := 31) rfl (fun h28 => absurd h28 (zge_f (by omega) (by omega))) (fun h28 => ?_)
    refine z_aload_n (i := 0) dX5_load_31 rfl rfl (q := 32) rfl ?_
    refine z_get dX5_load_32 fX5_14 (wo_rules _ _ _) rfl (q := 35) rfl ?_
    refine z_aload_n (i := 1) dX5_load_35 rfl rfl (q := 36) rfl ?_
    refine z_iload_n (i := 3) dX5_load_36 rfl rfl (q := 37) rfl ?_
    refine z_callVF (As := [_]) dX5_load_37 kX5_47 (c_X0_sizeAt (t := 1) (by decide) (by omega)) (wo_down _ _ _) rfl rfl (zle rfl) ⟨zle rfl, zle rfl⟩ ⟨zle rfl, zle rfl⟩ (q := 40) rfl ?_
    rw [show X1.2.1 (2 * 1 + 1) i = X.2.1 (2 * 1 + 1) i from kp_f hk (by decide) i]
    refine z_callVF (As := [_]) dX5_load_40 kX5_51 (c_X4_append' (k := i) (wr_14 _ _ _) hs.1 (by omega) (by decide)) (wr_14 _ _ _).1 rfl rfl (zle rfl) ⟨zle rfl, zle rfl⟩ ⟨zle rfl, zle rfl⟩ (q := 43) rfl ?_
    refine Z.eqw (wp_14 _ _ _ _ _) ?_
    refine z_iconst (v := 0) dX5_load_43 rfl (q := 44) rfl ?_
    refine z_istore dX5_load_44 (zle rfl) rfl (q := 46) rfl ?_
    refine z_X5_load_46_1 (X := X) (by omega) (fun X2 c bf bs hk hs hb => ?_) i 0 c bf bs _ (by omega) (kp_row hk (by omega) _ _) (szI_add hs) (barsI_14 hb _ _)
    refine z_iinc dX5_load_94 rfl rfl (zle rfl) rfl (q := 97) rfl ?_
    refine z_goto (tgt := 23) dX5_load_97 (by decide) ?_
    refine Z.eql (zl2 := [some (.ref 34), some (.ref 6), some (.ref 1), some (.int (nI (i + 1))), some (.int (nI i))]) (by first | (rw [← nI_1 i]; done) | (rw [← nI_1 i]; rfl)) ?_
    exact ih (i + 1) c bf bs X2 _ (by omega) hk hs (barsI_next hb)
set_option maxRecDepth 100000 in
set_option maxHeartbeats 4000000 in
theorem c_X5_load_1 {n : Nat} (hn : X.1 (2 * 1) = nI n) (h4 : n ≤ 4) : ZM G mX5_load 2 0 0 [.ref 34, .ref 6, .ref 1] (zw X Y O) (fun r w2 => r = .inl none ∧ ∃ (X2 : zX) (c : Nat) (bf bs : Nat → Nat), w2 = zw X2 Y O ∧ kp 14 16 X X2 ∧ szI X 1 X2 n ∧ barsI X 0 n 0 c bf bs X2) := by
  refine ZM.go pX5 rfl rfl (zle rfl) (zl := [some (.ref 34), some (.ref 6), some (.ref 1), none, none]) rfl ?_
  refine z_aload_n (i := 0) dX5_load_0 rfl rfl (q := 1) rfl ?_
  refine z_get dX5_load_1 fX5_14 (wo_rules _ _ _) rfl (q := 4) rfl ?_
  refine z_callVF (As := []) dX5_load_4 kX5_38 (c_X4_clear (wr_14 _ _ _)) (wr_14 _ _ _).1 rfl rfl (zle rfl) ⟨zle rfl, zle rfl⟩ ⟨zle rfl, zle rfl⟩ (q := 7) rfl ?_
  refine Z.eqw (wp_14 _ _ _ _ _) ?_
  refine z_aload_n (i := 0) dX5_load_7 rfl rfl (q := 8) rfl ?_
  refine z_get dX5_load_8 fX5_20 (wo_rules _ _ _) rfl (q := 11) rfl ?_
  refine z_callVF (As := []) dX5_load_11 kX5_38 (c_X4_clear (wr_15 _ _ _)) (wr_15 _ _ _).1 rfl rfl (zle rfl) ⟨zle rfl, zle rfl⟩ ⟨zle rfl, zle rfl⟩ (q := 14) rfl ?_
  refine Z.eqw (wp_15 _ _ _ _ _) ?_
  refine z_aload_n (i := 0) dX5_load_14 rfl rfl (q := 15) rfl ?_
  refine z_get dX5_load_15 fX5_23 (wo_rules _ _ _) rfl (q := 18) rfl ?_
  refine z_callVF (As := []) dX5_load_18 kX5_38 (c_X4_clear (wr_16 _ _ _)) (wr_16 _ _ _).1 rfl rfl (zle rfl) ⟨zle rfl, zle rfl⟩ ⟨zle rfl, zle rfl⟩ (q := 21) rfl ?_
  refine Z.eqw (wp_16 _ _ _ _ _) ?_
  refine z_iconst (v := 0) dX5_load_21 rfl (q := 22) rfl ?_
  refine z_istore_n (i := 3) dX5_load_22 rfl (zle rfl) rfl (q := 23) rfl ?_
  exact z_X5_load_23_1 hn h4 n 0 0 (fun _ => 0) (fun _ => 0) _ _ (by omega) (kp_row (kp_row (kp_row (kp_refl 14 16 X) (r := 14) (by omega) _ _) (r := 15) (by omega) _ _) (r := 16) (by omega) _ _) ⟨rfl, fun a h => absurd h (Nat.not_lt_zero _)⟩ ⟨rfl, rfl, Nat.zero_le _, fun q h => absurd h (Nat.not_lt_zero _), fun f s _ h => absurd h (by omega)⟩
/- two shapes' parts overlap along the axis -/
set_option maxRecDepth 100000 in
set_option maxHeartbeats 4000000 in
abbrev clash (L S : Nat → Int32) (f s : Nat) : Prop := L f < L s + S s ∧ L s < L f + S f
set_option maxRecDepth 100000 in
set_option maxHeartbeats 4000000 in
abbrev barHit (X : zX) (r : Nat) (bf bs : Nat → Nat) (a b : Int32) (q : Nat) : Prop := ¬ nI (bs q) < a ∧ ¬ b < nI (bs q) ∧ clash (X.2.1 r) (X.2.1 14) (bf q) (bs q)
set_option maxRecDepth 100000 in
set_option maxHeartbeats 4000000 in
def barsAt (X : zX) (c : Nat) (bf bs : Nat → Nat) : Prop := X.1 15 = nI c ∧ c ≤ 6 ∧ ∀ q, q < c → X.2.1 15 q = nI (bf q) ∧ X.2.1 16 q = nI (bs q) ∧ bf q < 4 ∧ bs q < 4
set_option maxRecDepth 100000 in
set_option maxHeartbeats 4000000 in
theorem z_X5_keepsApart_3 {c : Nat} {bf bs : Nat → Nat} {a b : Int32} (hb : barsAt X c bf bs) : ∀ (m i : Nat) (e5 e6 : Option Value), i + m = c → Z G mX5_keepsApart (zrm 1 0 0) 0 0 3 [some (.ref 34), some (.ref 51), some (.int a), some (.int b), some (.int (nI i)), e5, e6] [] (zw X Y O) (zEq (some (.int (zB (!rany (barHit X 22 bf bs a b) i m)))) (zw X Y O)) := by
  intro m
  induction m with
  | zero =>
    intro i e5 e6 hi
    refine z_iload dX5_keepsApart_3 rfl (q := 5) rfl ?_
    refine z_aload_n (i := 0) dX5_keepsApart_5 rfl rfl (q := 6) rfl ?_
    refine z_get dX5_keepsApart_6 fX5_20 (wo_rules _ _ _) rfl (q := 9) rfl ?_
    refine z_callVF (As := []) dX5_keepsApart_9 kX5_95 (c_X4_length (wr_15 _ _ _)) (wr_15 _ _ _).1 rfl rfl (zle rfl) ⟨zle rfl, zle rfl⟩ ⟨zle rfl, zle rfl⟩ (q := 12) rfl ?_
    rw [hb.1]
    refine z_icmp_ge (tgt := 107) dX5_keepsApart_12 (by decide) (q := 15) rfl (fun h12 => ?_) (fun h12 => absurd (zge_t (by omega)) h12)
    refine z_iconst (v := 1) dX5_keepsApart_107 rfl (q := 108) rfl ?_
    exact z_zret dX5_keepsApart_108 rfl rfl ⟨zle rfl, zle rfl⟩ ⟨rfl, rfl⟩
  | succ m ih =>
    intro i e5 e6 hi
    have hq := hb.2.2 i (by omega)
    have hc := hb.2.1
    refine z_iload dX5_keepsApart_3 rfl (q := 5) rfl ?_
    refine z_aload_n (i := 0) dX5_keepsApart_5 rfl rfl (q := 6) rfl ?_
    refine z_get dX5_keepsApart_6 fX5_20 (wo_rules _ _ _) rfl (q := 9) rfl ?_
    refine z_callVF (As := []) dX5_keepsApart_9 kX5_95 (c_X4_length (wr_15 _ _ _)) (wr_15 _ _ _).1 rfl rfl (zle rfl) ⟨zle rfl, zle rfl⟩ ⟨zle rfl, zle rfl⟩ (q := 12) rfl ?_
    rw [hb.1]
    refine z_icmp_ge (tgt := 107) dX5_keepsApart_12 (by decide) (q := 15) rfl (fun h12 => absurd h12 (zge_f (by omega) (by omega))) (fun h12 => ?_)
    refine z_aload_n (i := 0) dX5_keepsApart_15 rfl rfl (q := 16) rfl ?_
    refine z_get dX5_keepsApart_16 fX5_20 (wo_rules _ _ _) rfl (q := 19) rfl ?_
    refine z_iload dX5_keepsApart_19 rfl (q := 21) rfl ?_
    refine z_callVF (As := [_]) dX5_keepsApart_21 kX5_98 (c_X4_get  (wr_15 _ _ _) (by omega) (by decide)) (wr_15 _ _ _).1 rfl rfl (zle rfl) ⟨zle rfl, zle rfl⟩ ⟨zle rfl, zle rfl⟩ (q := 24) rfl ?_
    rw [hq.1]
    refine z_istore dX5_keepsApart_24 (zle rfl) rfl (q := 26) rfl ?_
    refine z_aload_n (i := 0) dX5_keepsApart_26 rfl rfl (q := 27) rfl ?_
    refine z_get dX5_keepsApart_27 fX5_23 (wo_rules _ _ _) rfl (q := 30) rfl ?_
    refine z_iload dX5_keepsApart_30 rfl (q := 32) rfl ?_
    refine z_callVF (As := [_]) dX5_keepsApart_32 kX5_98 (c_X4_get  (wr_16 _ _ _) (by omega) (by decide)) (wr_16 _ _ _).1 rfl rfl (zle rfl) ⟨zle rfl, zle rfl⟩ ⟨zle rfl, zle rfl⟩ (q := 35) rfl ?_
    rw [hq.2.1]
    refine z_istore dX5_keepsApart_35 (zle rfl) rfl (q := 37) rfl ?_
    refine z_iload dX5_keepsApart_37 rfl (q := 39) rfl ?_
    refine z_iload_n (i := 2) dX5_keepsApart_39 rfl rfl (q := 40) rfl ?_
    refine z_icmp_lt (tgt := 101) dX5_keepsApart_40 (by decide) (q := 43) rfl (fun h40 => ?_) (fun h40 => ?_)
    · refine z_iinc dX5_keepsApart_101 rfl rfl (zle rfl) rfl (q := 104) rfl ?_
      refine z_goto (tgt := 3) dX5_keepsApart_104 (by decide) ?_
      refine Z.eql (zl2 := [some (.ref 34), some (.ref 51), some (.int a), some (.int b), some (.int (nI (i + 1))), some (.int (nI (bf i))), some (.int (nI (bs i)))]) (by first | (rw [← nI_1 i]; done) | (rw [← nI_1 i]; rfl)) ?_
      rw [show rany (barHit X 22 bf bs a b) i (m + 1) = rany (barHit X 22 bf bs a b) (i + 1) m by rw [rany, if_neg (fun h9 => h9.1 h40)]]
      exact ih (i + 1) _ _ (by omega)
    · refine z_iload dX5_keepsApart_43 rfl (q := 45) rfl ?_
      refine z_iload_n (i := 3) dX5_keepsApart_45 rfl rfl (q := 46) rfl ?_
      refine z_icmp_gt (tgt := 101) dX5_keepsApart_46 (by decide) (q := 49) rfl (fun h46 => ?_) (fun h46 => ?_)
      · refine z_iinc dX5_keepsApart_101 rfl rfl (zle rfl) rfl (q := 104) rfl ?_
        refine z_goto (tgt := 3) dX5_keepsApart_104 (by decide) ?_
        refine Z.eql (zl2 := [some (.ref 34), some (.ref 51), some (.int a), some (.int b), some (.int (nI (i + 1))), some (.int (nI (bf i))), some (.int (nI (bs i)))]) (by first | (rw [← nI_1 i]; done) | (rw [← nI_1 i]; rfl)) ?_
        rw [show rany (barHit X 22 bf bs a b) i (m + 1) = rany (barHit X 22 bf bs a b) (i + 1) m by rw [rany, if_neg (fun h9 => h9.2.1 h46)]]
        exact ih (i + 1) _ _ (by omega)
      · refine z_aload_n (i := 1) dX5_keepsApart_49 rfl rfl (q := 50) rfl ?_
        refine z_iload dX5_keepsApart_50 rfl (q := 52) rfl ?_
        refine z_callVF (As := [_]) dX5_keepsApart_52 kX5_98 (c_X4_get  (wr_22 _ _ _) (by omega) (by decide)) (wr_22 _ _ _).1 rfl rfl (zle rfl) ⟨zle rfl, zle rfl⟩ ⟨zle rfl, zle rfl⟩ (q := 55) rfl ?_
        refine z_aload_n (i := 1) dX5_keepsApart_55 rfl rfl (q := 56) rfl ?_
        refine z_iload dX5_keepsApart_56 rfl (q := 58) rfl ?_
        refine z_callVF (As := [_]) dX5_keepsApart_58 kX5_98 (c_X4_get  (wr_22 _ _ _) (by omega) (by decide)) (wr_22 _ _ _).1 rfl rfl (zle rfl) ⟨zle rfl, zle rfl⟩ ⟨zle rfl, zle rfl⟩ (q := 61) rfl ?_
        refine z_aload_n (i := 0) dX5_keepsApart_61 rfl rfl (q := 62) rfl ?_
        refine z_get dX5_keepsApart_62 fX5_14 (wo_rules _ _ _) rfl (q := 65) rfl ?_
        refine z_iload dX5_keepsApart_65 rfl (q := 67) rfl ?_
        refine z_callVF (As := [_]) dX5_keepsApart_67 kX5_98 (c_X4_get  (wr_14 _ _ _) (by omega) (by decide)) (wr_14 _ _ _).1 rfl rfl (zle rfl) ⟨zle rfl, zle rfl⟩ ⟨zle rfl, zle rfl⟩ (q := 70) rfl ?_
        refine z_iadd dX5_keepsApart_70 (q := 71) rfl ?_
        refine z_icmp_ge (tgt := 101) dX5_keepsApart_71 (by decide) (q := 74) rfl (fun h71 => ?_) (fun h71 => ?_)
        · refine z_iinc dX5_keepsApart_101 rfl rfl (zle rfl) rfl (q := 104) rfl ?_
          refine z_goto (tgt := 3) dX5_keepsApart_104 (by decide) ?_
          refine Z.eql (zl2 := [some (.ref 34), some (.ref 51), some (.int a), some (.int b), some (.int (nI (i + 1))), some (.int (nI (bf i))), some (.int (nI (bs i)))]) (by first | (rw [← nI_1 i]; done) | (rw [← nI_1 i]; rfl)) ?_
          rw [show rany (barHit X 22 bf bs a b) i (m + 1) = rany (barHit X 22 bf bs a b) (i + 1) m by rw [rany, if_neg (fun h9 => absurd h9.2.2.1 (Int32.not_lt.mpr h71))]]
          exact ih (i + 1) _ _ (by omega)
        · refine z_aload_n (i := 1) dX5_keepsApart_74 rfl rfl (q := 75) rfl ?_
          refine z_iload dX5_keepsApart_75 rfl (q := 77) rfl ?_
          refine z_callVF (As := [_]) dX5_keepsApart_77 kX5_98 (c_X4_get  (wr_22 _ _ _) (by omega) (by decide)) (wr_22 _ _ _).1 rfl rfl (zle rfl) ⟨zle rfl, zle rfl⟩ ⟨zle rfl, zle rfl⟩ (q := 80) rfl ?_
          refine z_aload_n (i := 1) dX5_keepsApart_80 rfl rfl (q := 81) rfl ?_
          refine z_iload dX5_keepsApart_81 rfl (q := 83) rfl ?_
          refine z_callVF (As := [_]) dX5_keepsApart_83 kX5_98 (c_X4_get  (wr_22 _ _ _) (by omega) (by decide)) (wr_22 _ _ _).1 rfl rfl (zle rfl) ⟨zle rfl, zle rfl⟩ ⟨zle rfl, zle rfl⟩ (q := 86) rfl ?_
          refine z_aload_n (i := 0) dX5_keepsApart_86 rfl rfl (q := 87) rfl ?_
          refine z_get dX5_keepsApart_87 fX5_14 (wo_rules _ _ _) rfl (q := 90) rfl ?_
          refine z_iload dX5_keepsApart_90 rfl (q := 92) rfl ?_
          refine z_callVF (As := [_]) dX5_keepsApart_92 kX5_98 (c_X4_get  (wr_14 _ _ _) (by omega) (by decide)) (wr_14 _ _ _).1 rfl rfl (zle rfl) ⟨zle rfl, zle rfl⟩ ⟨zle rfl, zle rfl⟩ (q := 95) rfl ?_
          refine z_iadd dX5_keepsApart_95 (q := 96) rfl ?_
          refine z_icmp_ge (tgt := 101) dX5_keepsApart_96 (by decide) (q := 99) rfl (fun h96 => ?_) (fun h96 => ?_)
          · refine z_iinc dX5_keepsApart_101 rfl rfl (zle rfl) rfl (q := 104) rfl ?_
            refine z_goto (tgt := 3) dX5_keepsApart_104 (by decide) ?_
            refine Z.eql (zl2 := [some (.ref 34), some (.ref 51), some (.int a), some (.int b), some (.int (nI (i + 1))), some (.int (nI (bf i))), some (.int (nI (bs i)))]) (by first | (rw [← nI_1 i]; done) | (rw [← nI_1 i]; rfl)) ?_
            rw [show rany (barHit X 22 bf bs a b) i (m + 1) = rany (barHit X 22 bf bs a b) (i + 1) m by rw [rany, if_neg (fun h9 => absurd h9.2.2.2 (Int32.not_lt.mpr h96))]]
            exact ih (i + 1) _ _ (by omega)
          · refine z_iconst (v := 0) dX5_keepsApart_99 rfl (q := 100) rfl ?_
            exact z_zret dX5_keepsApart_100 rfl rfl ⟨zle rfl, zle rfl⟩ ⟨by rw [rany, if_pos ⟨h40, h46, Int32.not_le.mp h71, Int32.not_le.mp h96⟩]; rfl, rfl⟩
set_option maxRecDepth 100000 in
set_option maxHeartbeats 4000000 in
theorem c_X5_keepsApart {c : Nat} {bf bs : Nat → Nat} {a b : Int32} (hb : barsAt X c bf bs) : ZM G mX5_keepsApart 1 0 0 [.ref 34, .ref 51, .int a, .int b] (zw X Y O) (zEq (some (.int (zB (!rany (barHit X 22 bf bs a b) 0 c)))) (zw X Y O)) := by
  refine ZM.go pX5 rfl rfl (zle rfl) (zl := [some (.ref 34), some (.ref 51), some (.int a), some (.int b), none, none, none]) rfl ?_
  refine z_iconst (v := 0) dX5_keepsApart_0 rfl (q := 1) rfl ?_
  refine z_istore dX5_keepsApart_1 (zle rfl) rfl (q := 3) rfl ?_
  exact z_X5_keepsApart_3 hb c 0 _ _ (by omega)
end
