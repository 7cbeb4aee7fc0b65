section
variable {G : zG} {X : zX} {Y : zY} {O : zO}
set_option maxRecDepth 100000 in
set_option maxHeartbeats 4000000 in
theorem nI_rem4 {a : Nat} (h : a < 2 ^ 31) : nI a - nI a / 4 * 4 = nI (a % 4) := by
  have e : nI a / 4 = nI (a / 4) := (Int32.ofNat_div (b := 4) h (by decide)).symm
  rw [e, show nI (a / 4) * 4 = nI (a / 4 * 4) from nI_mul _ 4, nI_sub (Nat.div_mul_le_self a 4), show a - a / 4 * 4 = a % 4 by omega]
/- a start along t in numbers -/
set_option maxRecDepth 100000 in
set_option maxHeartbeats 4000000 in
abbrev sN (X : zX) (t k : Nat) : Nat := num (X.2.1 (2 * t) k)
set_option maxRecDepth 100000 in
set_option maxHeartbeats 4000000 in
abbrev zN (X : zX) (t k : Nat) : Nat := num (X.2.1 (2 * t + 1) k)
/- start and number as one -/
set_option maxRecDepth 100000 in
set_option maxHeartbeats 4000000 in
def key4 (X : zX) (t i : Nat) (v : Int32) : Prop := ∃ j, j < i ∧ v = nI (sN X t j * 4 + j)
set_option maxRecDepth 100000 in
set_option maxHeartbeats 4000000 in
theorem key4_new {t n i k : Nat} {f : Nat → Int32} (hs : ∀ j, j < n → isN (X.2.1 (2 * t) j) 200) (hi : i < n) (h4 : n ≤ 4) (h : slist f i (key4 X t i)) (hk : k = i) : slist (rins f (nI (sN X t i * 4 + i)) i) (i + 1) (key4 X t (i + 1)) := by
  have hne : ¬ rany (fun j => f j = nI (sN X t i * 4 + i)) 0 i = true := fun h9 => by
    obtain ⟨j, _, hj, e⟩ := (rany_iff _ _).mp h9
    obtain ⟨j2, hj2, e2⟩ := h.2.1 j (by omega)
    have h8 : nI (sN X t i * 4 + i) = nI (sN X t j2 * 4 + j2) := e.symm.trans e2
    have b1 := (hs i hi).2
    have b2 := (hs j2 (by omega)).2
    rw [nI_eq (by show num _ * 4 + i < _; omega) (by show num _ * 4 + j2 < _; omega)] at h8
    omega
  have h2 := slist_ins (a := (f, i)) (v := nI (sN X t i * 4 + i)) (q := key4 X t (i + 1)) h (fun w => by
    constructor
    · rintro ⟨j, hj, e⟩
      rcases Nat.lt_or_ge j i with h5 | h5
      · exact Or.inl ⟨j, h5, e⟩
      · rw [show j = i by omega] at e; exact Or.inr e
    · rintro (⟨j, hj, e⟩ | e)
      · exact ⟨j, by omega, e⟩
      · exact ⟨i, by omega, e⟩)
  rw [show insNew (nI (sN X t i * 4 + i)) (f, i) = (rins f (nI (sN X t i * 4 + i)) i, i + 1) from if_neg hne] at h2
  exact h2
/- the order by start, then number -/
set_option maxRecDepth 100000 in
set_option maxHeartbeats 4000000 in
def ordR (X : zX) (t n : Nat) (o : Nat → Nat) : Prop := (∀ p, p < n → o p < n) ∧ (∀ p q, p < q → q < n → sN X t (o p) * 4 + o p < sN X t (o q) * 4 + o q) ∧ ∀ j, j < n → ∃ p, p < n ∧ o p = j
set_option maxRecDepth 100000 in
set_option maxHeartbeats 4000000 in
theorem ordR_of {t n : Nat} {f : Nat → Int32} (hs : ∀ j, j < n → isN (X.2.1 (2 * t) j) 200) (h4 : n ≤ 4) (h : slist f n (key4 X t n)) : ordR X t n (fun p => num (f p) % 4) ∧ ∀ p, p < n → isN (f p) 1000 := by
  have hv : ∀ p, p < n → ∃ j, j < n ∧ f p = nI (sN X t j * 4 + j) ∧ sN X t j ≤ 200 := fun p hp => by
    obtain ⟨j, hj, e⟩ := h.2.1 p hp
    exact ⟨j, hj, e, (hs j hj).2⟩
  have hk : ∀ p, p < n → num (f p) % 4 < n ∧ f p = nI (sN X t (num (f p) % 4) * 4 + num (f p) % 4) ∧ sN X t (num (f p) % 4) ≤ 200 := fun p hp => by
    obtain ⟨j, hj, e, hb⟩ := hv p hp
    have e2 : num (f p) % 4 = j := by rw [e, num_nI (by omega)]; omega
    rw [e2]; exact ⟨hj, e, hb⟩
  refine ⟨⟨fun p hp => (hk p hp).1, fun p q hpq hq => ?_, fun j hj => ?_⟩, fun p hp => ?_⟩
  · have h1 := h.1 p q hpq hq
    have k1 := hk p (by omega)
    have k2 := hk q hq
    rw [k1.2.1, k2.2.1, nI_ltI (by have := k1.2.2; have := k1.1; omega) (by have := k2.2.2; have := k2.1; omega)] at h1
    exact h1
  · obtain ⟨p, hp, e⟩ := h.2.2 (nI (sN X t j * 4 + j)) ⟨j, hj, rfl⟩
    refine ⟨p, hp, ?_⟩
    show num (f p) % 4 = j
    have := (hs j hj).2
    rw [e, num_nI (by show num _ * 4 + j < _; omega)]; omega
  · obtain ⟨j, hj, e, hb⟩ := hv p hp
    rw [e]; exact isN_nI (by omega) (by decide)
set_option maxRecDepth 100000 in
set_option maxHeartbeats 4000000 in
theorem z_X2_listOrder_41_0 {n : Nat} {f : Nat → Int32} (h4 : n ≤ 4) (ho : ordR X 0 n (fun p => num (f p) % 4)) (hb : ∀ p, p < n → isN (f p) 1000) : ∀ (m i : Nat) (X1 : zX), i + m = n → kp 25 25 X X1 → X1.1 25 = nI n → (∀ p, p < i → X1.2.1 25 p = nI (num (f p) % 4)) → (∀ p, i ≤ p → p < n → X1.2.1 25 p = f p) → Z G mX2_listOrder (zrm 2 0 0) 0 0 41 [some (.ref 57), some (.ref 1), some (.int (nI i))] [] (zw X1 Y O) (fun r w2 => r = .inl none ∧ ∃ (X2 : zX) (o : Nat → Nat), w2 = zw X2 Y O ∧ kp 25 25 X X2 ∧ X2.1 25 = nI n ∧ (∀ p, p < n → X2.2.1 25 p = nI (o p)) ∧ ordR X 0 n o) := by
  intro m
  induction m with
  | zero =>
    intro i X1 hi hk hl hp1 hp2
    refine z_iload_n (i := 2) dX2_listOrder_41 rfl rfl (q := 42) rfl ?_
    refine z_aload_n (i := 0) dX2_listOrder_42 rfl rfl (q := 43) rfl ?_
    refine z_get dX2_listOrder_43 fX2_14 (wo_evenSearch _ _ _) rfl (q := 46) rfl ?_
    refine z_callVF (As := []) dX2_listOrder_46 kX2_39 (c_X4_length (wr_25 _ _ _)) (wr_25 _ _ _).1 rfl rfl (zle rfl) ⟨zle rfl, zle rfl⟩ ⟨zle rfl, zle rfl⟩ (q := 49) rfl ?_
    rw [hl]
    refine z_icmp_ge (tgt := 76) dX2_listOrder_49 (by decide) (q := 52) rfl (fun h49 => ?_) (fun h49 => absurd (zge_t (by omega)) h49)
    exact z_vret dX2_listOrder_76 rfl ⟨zle rfl, zle rfl⟩ ⟨rfl, X1, fun p => num (f p) % 4, rfl, hk, hl, fun p hp => (hp1 p (by omega)), ho⟩
  | succ m ih =>
    intro i X1 hi hk hl hp1 hp2
    refine z_iload_n (i := 2) dX2_listOrder_41 rfl rfl (q := 42) rfl ?_
    refine z_aload_n (i := 0) dX2_listOrder_42 rfl rfl (q := 43) rfl ?_
    refine z_get dX2_listOrder_43 fX2_14 (wo_evenSearch _ _ _) rfl (q := 46) rfl ?_
    refine z_callVF (As := []) dX2_listOrder_46 kX2_39 (c_X4_length (wr_25 _ _ _)) (wr_25 _ _ _).1 rfl rfl (zle rfl) ⟨zle rfl, zle rfl⟩ ⟨zle rfl, zle rfl⟩ (q := 49) rfl ?_
    rw [hl]
    refine z_icmp_ge (tgt := 76) dX2_listOrder_49 (by decide) (q := 52) rfl (fun h49 => absurd h49 (zge_f (by omega) (by omega))) (fun h49 => ?_)
    refine z_aload_n (i := 0) dX2_listOrder_52 rfl rfl (q := 53) rfl ?_
    refine z_get dX2_listOrder_53 fX2_14 (wo_evenSearch _ _ _) rfl (q := 56) rfl ?_
    refine z_iload_n (i := 2) dX2_listOrder_56 rfl rfl (q := 57) rfl ?_
    refine z_aload_n (i := 0) dX2_listOrder_57 rfl rfl (q := 58) rfl ?_
    refine z_get dX2_listOrder_58 fX2_14 (wo_evenSearch _ _ _) rfl (q := 61) rfl ?_
    refine z_iload_n (i := 2) dX2_listOrder_61 rfl rfl (q := 62) rfl ?_
    refine z_callVF (As := [_]) dX2_listOrder_62 kX2_43 (c_X4_get  (wr_25 _ _ _) (by omega) (by decide)) (wr_25 _ _ _).1 rfl rfl (zle rfl) ⟨zle rfl, zle rfl⟩ ⟨zle rfl, zle rfl⟩ (q := 65) rfl ?_
    rw [show X1.2.1 25 i = nI (num (f i)) from (hp2 i (Nat.le_refl _) (by omega)).trans (hb i (by omega)).1]
    refine z_iconst (v := 4) dX2_listOrder_65 rfl (q := 66) rfl ?_
    refine z_irem dX2_listOrder_66 (by decide) (q := 67) rfl ?_
    rw [nI_rem4 (by have := (hb i (by omega)).2; omega)]
    refine z_callVF (As := [_, _]) dX2_listOrder_67 kX2_71 (c_X4_set  (wr_25 _ _ _) (by omega) (by decide)) (wr_25 _ _ _).1 rfl rfl (zle rfl) ⟨zle rfl, zle rfl⟩ ⟨zle rfl, zle rfl⟩ (q := 70) rfl ?_
    refine Z.eqw (wp_25 _ _ _ _ _) ?_
    refine z_iinc dX2_listOrder_70 rfl rfl (zle rfl) rfl (q := 73) rfl ?_
    refine z_goto (tgt := 41) dX2_listOrder_73 (by decide) ?_
    refine Z.eql (zl2 := [some (.ref 57), some (.ref 1), some (.int (nI (i + 1)))]) (by first | (rw [← nI_1 i]; done) | (rw [← nI_1 i]; rfl)) ?_
    refine ih (i + 1) _ (by omega) (kp_row hk (by omega) _ _) hl (fun p hp => ?_) (fun p hp hp3 => ?_)
    · rw [xrow_f]
      rcases Nat.lt_or_ge p i with h1 | h1
      · exact (if_neg (by omega)).trans (hp1 p h1)
      · rw [show p = i by omega]; exact if_pos rfl
    · rw [xrow_f]; exact (if_neg (by omega)).trans (hp2 p (by omega) hp3)
set_option maxRecDepth 100000 in
set_option maxHeartbeats 4000000 in
theorem z_X2_listOrder_9_0 {n : Nat} (hn : X.1 (2 * 0) = nI n) (h4 : n ≤ 4) (hs : ∀ j, j < n → isN (X.2.1 (2 * 0) j) 200) : ∀ (m i : Nat) (X1 : zX), i + m = n → kp 25 25 X X1 → X1.1 25 = nI i → slist (X1.2.1 25) i (key4 X 0 i) → Z G mX2_listOrder (zrm 2 0 0) 0 0 9 [some (.ref 57), some (.ref 1), some (.int (nI i))] [] (zw X1 Y O) (fun r w2 => r = .inl none ∧ ∃ (X2 : zX) (o : Nat → Nat), w2 = zw X2 Y O ∧ kp 25 25 X X2 ∧ X2.1 25 = nI n ∧ (∀ p, p < n → X2.2.1 25 p = nI (o p)) ∧ ordR X 0 n o) := by
  intro m
  induction m with
  | zero =>
    intro i X1 hi hk hl hp
    refine z_iload_n (i := 2) dX2_listOrder_9 rfl rfl (q := 10) rfl ?_
    refine z_aload_n (i := 1) dX2_listOrder_10 rfl rfl (q := 11) rfl ?_
    refine z_callVF (As := []) dX2_listOrder_11 kX2_65 (c_X0_count (t := 0) (by decide) ) (wo_across _ _ _) rfl rfl (zle rfl) ⟨zle rfl, zle rfl⟩ ⟨zle rfl, zle rfl⟩ (q := 14) rfl ?_
    rw [show X1.1 (2 * 0) = nI n from (hk.1 _ (by decide)).1.trans hn]
    refine z_icmp_ge (tgt := 39) dX2_listOrder_14 (by decide) (q := 17) rfl (fun h14 => ?_) (fun h14 => absurd (zge_t (by omega)) h14)
    refine z_iconst (v := 0) dX2_listOrder_39 rfl (q := 40) rfl ?_
    refine z_istore_n (i := 2) dX2_listOrder_40 rfl (zle rfl) rfl (q := 41) rfl ?_
    rw [show i = n by omega] at hl hp
    obtain ⟨ho, hb⟩ := ordR_of hs h4 hp
    exact z_X2_listOrder_41_0 h4 ho hb n 0 X1 (by omega) hk hl (fun p h => absurd h (Nat.not_lt_zero _)) (fun p _ _ => rfl)
  | succ m ih =>
    intro i X1 hi hk hl hp
    refine z_iload_n (i := 2) dX2_listOrder_9 rfl rfl (q := 10) rfl ?_
    refine z_aload_n (i := 1) dX2_listOrder_10 rfl rfl (q := 11) rfl ?_
    refine z_callVF (As := []) dX2_listOrder_11 kX2_65 (c_X0_count (t := 0) (by decide) ) (wo_across _ _ _) rfl rfl (zle rfl) ⟨zle rfl, zle rfl⟩ ⟨zle rfl, zle rfl⟩ (q := 14) rfl ?_
    rw [show X1.1 (2 * 0) = nI n from (hk.1 _ (by decide)).1.trans hn]
    refine z_icmp_ge (tgt := 39) dX2_listOrder_14 (by decide) (q := 17) rfl (fun h14 => absurd h14 (zge_f (by omega) (by omega))) (fun h14 => ?_)
    refine z_aload_n (i := 0) dX2_listOrder_17 rfl rfl (q := 18) rfl ?_
    refine z_get dX2_listOrder_18 fX2_14 (wo_evenSearch _ _ _) rfl (q := 21) rfl ?_
    refine z_aload_n (i := 1) dX2_listOrder_21 rfl rfl (q := 22) rfl ?_
    refine z_iload_n (i := 2) dX2_listOrder_22 rfl rfl (q := 23) rfl ?_
    refine z_callVF (As := [_]) dX2_listOrder_23 kX2_47 (c_X0_startAt (t := 0) (by decide) (by omega)) (wo_across _ _ _) rfl rfl (zle rfl) ⟨zle rfl, zle rfl⟩ ⟨zle rfl, zle rfl⟩ (q := 26) rfl ?_
    rw [show X1.2.1 (2 * 0) i = nI (sN X 0 i) from (kp_f hk (by decide) i).trans (hs i (by omega)).1]
    refine z_iconst (v := 4) dX2_listOrder_26 rfl (q := 27) rfl ?_
    refine z_imul dX2_listOrder_27 (q := 28) rfl ?_
    rw [show nI (sN X 0 i) * 4 = nI (sN X 0 i * 4) from nI_mul _ 4]
    refine z_iload_n (i := 2) dX2_listOrder_28 rfl rfl (q := 29) rfl ?_
    refine z_iadd dX2_listOrder_29 (q := 30) rfl ?_
    rw [nI_add]
    refine z_callVF (As := [_]) dX2_listOrder_30 kX2_68 (c_X4_insert' (k := i) (wr_25 _ _ _) hl (by omega) (by decide)) (wr_25 _ _ _).1 rfl rfl (zle rfl) ⟨zle rfl, zle rfl⟩ ⟨zle rfl, zle rfl⟩ (q := 33) rfl ?_
    refine Z.eqw (wp_25 _ _ _ _ _) ?_
    refine z_iinc dX2_listOrder_33 rfl rfl (zle rfl) rfl (q := 36) rfl ?_
    refine z_goto (tgt := 9) dX2_listOrder_36 (by decide) ?_
    refine Z.eql (zl2 := [some (.ref 57), some (.ref 1), some (.int (nI (i + 1)))]) (by first | (rw [← nI_1 i]; done) | (rw [← nI_1 i]; rfl)) ?_
    refine ih (i + 1) _ (by omega) (kp_row hk (by omega) _ _) (xrow_l X1 25 _ _) ?_
    rw [xrow_f]
    exact key4_new hs (by omega) h4 hp rfl
set_option maxRecDepth 100000 in
set_option maxHeartbeats 4000000 in
theorem c_X2_listOrder_0 {n : Nat} (hn : X.1 (2 * 0) = nI n) (h4 : n ≤ 4) (hs : ∀ j, j < n → isN (X.2.1 (2 * 0) j) 200) : ZM G mX2_listOrder 2 0 0 [.ref 57, .ref 1] (zw X Y O) (fun r w2 => r = .inl none ∧ ∃ (X2 : zX) (o : Nat → Nat), w2 = zw X2 Y O ∧ kp 25 25 X X2 ∧ X2.1 25 = nI n ∧ (∀ p, p < n → X2.2.1 25 p = nI (o p)) ∧ ordR X 0 n o) := by
  refine ZM.go pX2 rfl rfl (zle rfl) (zl := [some (.ref 57), some (.ref 1), none]) rfl ?_
  refine z_aload_n (i := 0) dX2_listOrder_0 rfl rfl (q := 1) rfl ?_
  refine z_get dX2_listOrder_1 fX2_14 (wo_evenSearch _ _ _) rfl (q := 4) rfl ?_
  refine z_callVF (As := []) dX2_listOrder_4 kX2_36 (c_X4_clear (wr_25 _ _ _)) (wr_25 _ _ _).1 rfl rfl (zle rfl) ⟨zle rfl, zle rfl⟩ ⟨zle rfl, zle rfl⟩ (q := 7) rfl ?_
  refine Z.eqw (wp_25 _ _ _ _ _) ?_
  refine z_iconst (v := 0) dX2_listOrder_7 rfl (q := 8) rfl ?_
  refine z_istore_n (i := 2) dX2_listOrder_8 rfl (zle rfl) rfl (q := 9) rfl ?_
  exact z_X2_listOrder_9_0 hn h4 hs n 0 _ (by omega) (kp_row (kp_refl 25 25 X) (by omega) _ _) (xrow_l X 25 _ _) ⟨fun a b _ h => absurd h (Nat.not_lt_zero _), fun j h => absurd h (Nat.not_lt_zero _), fun v ⟨j, h, _⟩ => absurd h (Nat.not_lt_zero _)⟩
set_option maxRecDepth 100000 in
set_option maxHeartbeats 4000000 in
theorem z_X2_listOrder_41_1 {n : Nat} {f : Nat → Int32} (h4 : n ≤ 4) (ho : ordR X 1 n (fun p => num (f p) % 4)) (hb : ∀ p, p < n → isN (f p) 1000) : ∀ (m i : Nat) (X1 : zX), i + m = n → kp 25 25 X X1 → X1.1 25 = nI n → (∀ p, p < i → X1.2.1 25 p = nI (num (f p) % 4)) → (∀ p, i ≤ p → p < n → X1.2.1 25 p = f p) → Z G mX2_listOrder (zrm 2 0 0) 0 0 41 [some (.ref 57), some (.ref 6), some (.int (nI i))] [] (zw X1 Y O) (fun r w2 => r = .inl none ∧ ∃ (X2 : zX) (o : Nat → Nat), w2 = zw X2 Y O ∧ kp 25 25 X X2 ∧ X2.1 25 = nI n ∧ (∀ p, p < n → X2.2.1 25 p = nI (o p)) ∧ ordR X 1 n o) := by
  intro m
  induction m with
  | zero =>
    intro i X1 hi hk hl hp1 hp2
    refine z_iload_n (i := 2) dX2_listOrder_41 rfl rfl (q := 42) rfl ?_
    refine z_aload_n (i := 0) dX2_listOrder_42 rfl rfl (q := 43) rfl ?_
    refine z_get dX2_listOrder_43 fX2_14 (wo_evenSearch _ _ _) rfl (q := 46) rfl ?_
    refine z_callVF (As := []) dX2_listOrder_46 kX2_39 (c_X4_length (wr_25 _ _ _)) (wr_25 _ _ _).1 rfl rfl (zle rfl) ⟨zle rfl, zle rfl⟩ ⟨zle rfl, zle rfl⟩ (q := 49) rfl ?_
    rw [hl]
    refine z_icmp_ge (tgt := 76) dX2_listOrder_49 (by decide) (q := 52) rfl (fun h49 => ?_) (fun h49 => absurd (zge_t (by omega)) h49)
    exact z_vret dX2_listOrder_76 rfl ⟨zle rfl, zle rfl⟩ ⟨rfl, X1, fun p => num (f p) % 4, rfl, hk, hl, fun p hp => (hp1 p (by omega)), ho⟩
  | succ m ih =>
    intro i X1 hi hk hl hp1 hp2
    refine z_iload_n (i := 2) dX2_listOrder_41 rfl rfl (q := 42) rfl ?_
    refine z_aload_n (i := 0) dX2_listOrder_42 rfl rfl (q := 43) rfl ?_
    refine z_get dX2_listOrder_43 fX2_14 (wo_evenSearch _ _ _) rfl (q := 46) rfl ?_
    refine z_callVF (As := []) dX2_listOrder_46 kX2_39 (c_X4_length (wr_25 _ _ _)) (wr_25 _ _ _).1 rfl rfl (zle rfl) ⟨zle rfl, zle rfl⟩ ⟨zle rfl, zle rfl⟩ (q := 49) rfl ?_
    rw [hl]
    refine z_icmp_ge (tgt := 76) dX2_listOrder_49 (by decide) (q := 52) rfl (fun h49 => absurd h49 (zge_f (by omega) (by omega))) (fun h49 => ?_)
    refine z_aload_n (i := 0) dX2_listOrder_52 rfl rfl (q := 53) rfl ?_
    refine z_get dX2_listOrder_53 fX2_14 (wo_evenSearch _ _ _) rfl (q := 56) rfl ?_
    refine z_iload_n (i := 2) dX2_listOrder_56 rfl rfl (q := 57) rfl ?_
    refine z_aload_n (i := 0) dX2_listOrder_57 rfl rfl (q := 58) rfl ?_
    refine z_get dX2_listOrder_58 fX2_14 (wo_evenSearch _ _ _) rfl (q := 61) rfl ?_
    refine z_iload_n (i := 2) dX2_listOrder_61 rfl rfl (q := 62) rfl ?_
    refine z_callVF (As := [_]) dX2_listOrder_62 kX2_43 (c_X4_get  (wr_25 _ _ _) (by omega) (by decide)) (wr_25 _ _ _).1 rfl rfl (zle rfl) ⟨zle rfl, zle rfl⟩ ⟨zle rfl, zle rfl⟩ (q := 65) rfl ?_
    rw [show X1.2.1 25 i = nI (num (f i)) from (hp2 i (Nat.le_refl _) (by omega)).trans (hb i (by omega)).1]
    refine z_iconst (v := 4) dX2_listOrder_65 rfl (q := 66) rfl ?_
    refine z_irem dX2_listOrder_66 (by decide) (q := 67) rfl ?_
    rw [nI_rem4 (by have := (hb i (by omega)).2; omega)]
    refine z_callVF (As := [_, _]) dX2_listOrder_67 kX2_71 (c_X4_set  (wr_25 _ _ _) (by omega) (by decide)) (wr_25 _ _ _).1 rfl rfl (zle rfl) ⟨zle rfl, zle rfl⟩ ⟨zle rfl, zle rfl⟩ (q := 70) rfl ?_
    refine Z.eqw (wp_25 _ _ _ _ _) ?_
    refine z_iinc dX2_listOrder_70 rfl rfl (zle rfl) rfl (q := 73) rfl ?_
    refine z_goto (tgt := 41) dX2_listOrder_73 (by decide) ?_
    refine Z.eql (zl2 := [some (.ref 57), some (.ref 6), some (.int (nI (i + 1)))]) (by first | (rw [← nI_1 i]; done) | (rw [← nI_1 i]; rfl)) ?_
    refine ih (i + 1) _ (by omega) (kp_row hk (by omega) _ _) hl (fun p hp => ?_) (fun p hp hp3 => ?_)
    · rw [xrow_f]
      rcases Nat.lt_or_ge p i with h1 | h1
      · exact (if_neg (by omega)).trans (hp1 p h1)
      · rw [show p = i by omega]; exact if_pos rfl
    · rw [xrow_f]; exact (if_neg (by omega)).trans (hp2 p (by omega) hp3)
set_option maxRecDepth 100000 in
set_option maxHeartbeats 4000000 in
theorem z_X2_listOrder_9_1 {n : Nat} (hn : X.1 (2 * 1) = nI n) (h4 : n ≤ 4) (hs : ∀ j, j < n → isN (X.2.1 (2 * 1) j) 200) : ∀ (m i : Nat) (X1 : zX), i + m = n → kp 25 25 X X1 → X1.1 25 = nI i → slist (X1.2.1 25) i (key4 X 1 i) → Z G mX2_listOrder (zrm 2 0 0) 0 0 9 [some (.ref 57), some (.ref 6), some (.int (nI i))] [] (zw X1 Y O) (fun r w2 => r = .inl none ∧ ∃ (X2 : zX) (o : Nat → Nat), w2 = zw X2 Y O ∧ kp 25 25 X X2 ∧ X2.1 25 = nI n ∧ (∀ p, p < n → X2.2.1 25 p = nI (o p)) ∧ ordR X 1 n o) := by
  intro m
  induction m with
  | zero =>
    intro i X1 hi hk hl hp
    refine z_iload_n (i := 2) dX2_listOrder_9 rfl rfl (q := 10) rfl ?_
    refine z_aload_n (i := 1) dX2_listOrder_10 rfl rfl (q := 11) rfl ?_
    refine z_callVF (As := []) dX2_listOrder_11 kX2_65 (c_X0_count (t := 1) (by decide) ) (wo_down _ _ _) rfl rfl (zle rfl) ⟨zle rfl, zle rfl⟩ ⟨zle rfl, zle rfl⟩ (q := 14) rfl ?_
    rw [show X1.1 (2 * 1) = nI n from (hk.1 _ (by decide)).1.trans hn]
    refine z_icmp_ge (tgt := 39) dX2_listOrder_14 (by decide) (q := 17) rfl (fun h14 => ?_) (fun h14 => absurd (zge_t (by omega)) h14)
    refine z_iconst (v := 0) dX2_listOrder_39 rfl (q := 40) rfl ?_
    refine z_istore_n (i := 2) dX2_listOrder_40 rfl (zle rfl) rfl (q := 41) rfl ?_
    rw [show i = n by omega] at hl hp
    obtain ⟨ho, hb⟩ := ordR_of hs h4 hp
    exact z_X2_listOrder_41_1 h4 ho hb n 0 X1 (by omega) hk hl (fun p h => absurd h (Nat.not_lt_zero _)) (fun p _ _ => rfl)
  | succ m ih =>
    intro i X1 hi hk hl hp
    refine z_iload_n (i := 2) dX2_listOrder_9 rfl rfl (q := 10) rfl ?_
    refine z_aload_n (i := 1) dX2_listOrder_10 rfl rfl (q := 11) rfl ?_
    refine z_callVF (As := []) dX2_listOrder_11 kX2_65 (c_X0_count (t := 1) (by decide) ) (wo_down _ _ _) rfl rfl (zle rfl) ⟨zle rfl, zle rfl⟩ ⟨zle rfl, zle rfl⟩ (q := 14) rfl ?_
    rw [show X1.1 (2 * 1) = nI n from (hk.1 _ (by decide)).1.trans hn]
    refine z_icmp_ge (tgt := 39) dX2_listOrder_14 (by decide) (q := 17) rfl (fun h14 => absurd h14 (zge_f (by omega) (by omega))) (fun h14 => ?_)
    refine z_aload_n (i := 0) dX2_listOrder_17 rfl rfl (q := 18) rfl ?_
    refine z_get dX2_listOrder_18 fX2_14 (wo_evenSearch _ _ _) rfl (q := 21) rfl ?_
    refine z_aload_n (i := 1) dX2_listOrder_21 rfl rfl (q := 22) rfl ?_
    refine z_iload_n (i := 2) dX2_listOrder_22 rfl rfl (q := 23) rfl ?_
    refine z_callVF (As := [_]) dX2_listOrder_23 kX2_47 (c_X0_startAt (t := 1) (by decide) (by omega)) (wo_down _ _ _) rfl rfl (zle rfl) ⟨zle rfl, zle rfl⟩ ⟨zle rfl, zle rfl⟩ (q := 26) rfl ?_
    rw [show X1.2.1 (2 * 1) i = nI (sN X 1 i) from (kp_f hk (by decide) i).trans (hs i (by omega)).1]
    refine z_iconst (v := 4) dX2_listOrder_26 rfl (q := 27) rfl ?_
    refine z_imul dX2_listOrder_27 (q := 28) rfl ?_
    rw [show nI (sN X 1 i) * 4 = nI (sN X 1 i * 4) from nI_mul _ 4]
    refine z_iload_n (i := 2) dX2_listOrder_28 rfl rfl (q := 29) rfl ?_
    refine z_iadd dX2_listOrder_29 (q := 30) rfl ?_
    rw [nI_add]
    refine z_callVF (As := [_]) dX2_listOrder_30 kX2_68 (c_X4_insert' (k := i) (wr_25 _ _ _) hl (by omega) (by decide)) (wr_25 _ _ _).1 rfl rfl (zle rfl) ⟨zle rfl, zle rfl⟩ ⟨zle rfl, zle rfl⟩ (q := 33) rfl ?_
    refine Z.eqw (wp_25 _ _ _ _ _) ?_
    refine z_iinc dX2_listOrder_33 rfl rfl (zle rfl) rfl (q := 36) rfl ?_
    refine z_goto (tgt := 9) dX2_listOrder_36 (by decide) ?_
    refine Z.eql (zl2 := [some (.ref 57), some (.ref 6), some (.int (nI (i + 1)))]) (by first | (rw [← nI_1 i]; done) | (rw [← nI_1 i]; rfl)) ?_
    refine ih (i + 1) _ (by omega) (kp_row hk (by omega) _ _) (xrow_l X1 25 _ _) ?_
    rw [xrow_f]
    exact key4_new hs (by omega) h4 hp rfl
set_option maxRecDepth 100000 in
set_option maxHeartbeats 4000000 in
theorem c_X2_listOrder_1 {n : Nat} (hn : X.1 (2 * 1) = nI n) (h4 : n ≤ 4) (hs : ∀ j, j < n → isN (X.2.1 (2 * 1) j) 200) : ZM G mX2_listOrder 2 0 0 [.ref 57, .ref 6] (zw X Y O) (fun r w2 => r = .inl none ∧ ∃ (X2 : zX) (o : Nat → Nat), w2 = zw X2 Y O ∧ kp 25 25 X X2 ∧ X2.1 25 = nI n ∧ (∀ p, p < n → X2.2.1 25 p = nI (o p)) ∧ ordR X 1 n o) := by
  refine ZM.go pX2 rfl rfl (zle rfl) (zl := [some (.ref 57), some (.ref 6), none]) rfl ?_
  refine z_aload_n (i := 0) dX2_listOrder_0 rfl rfl (q := 1) rfl ?_
  refine z_get dX2_listOrder_1 fX2_14 (wo_evenSearch _ _ _) rfl (q := 4) rfl ?_
  refine z_callVF (As := []) dX2_listOrder_4 kX2_36 (c_X4_clear (wr_25 _ _ _)) (wr_25 _ _ _).1 rfl rfl (zle rfl) ⟨zle rfl, zle rfl⟩ ⟨zle rfl, zle rfl⟩ (q := 7) rfl ?_
  refine Z.eqw (wp_25 _ _ _ _ _) ?_
  refine z_iconst (v := 0) dX2_listOrder_7 rfl (q := 8) rfl ?_
  refine z_istore_n (i := 2) dX2_listOrder_8 rfl (zle rfl) rfl (q := 9) rfl ?_
  exact z_X2_listOrder_9_1 hn h4 hs n 0 _ (by omega) (kp_row (kp_refl 25 25 X) (by omega) _ _) (xrow_l X 25 _ _) ⟨fun a b _ h => absurd h (Nat.not_lt_zero _), fun j h => absurd h (Nat.not_lt_zero _), fun v ⟨j, h, _⟩ => absurd h (Nat.not_lt_zero _)⟩
end
