section
variable {G : zG} {X : zX} {Y : zY} {O : zO}
set_option maxRecDepth 100000 in
set_option maxHeartbeats 4000000 in
theorem zB_1 {b : Bool} (h : zB b ≠ 0) : b = true := by cases b; exact absurd rfl h; rfl
set_option maxRecDepth 100000 in
set_option maxHeartbeats 4000000 in
theorem zB_0 {b : Bool} (h : zB b = 0) : ¬ b = true := by cases b; decide; exact absurd h (by decide)
set_option maxRecDepth 100000 in
set_option maxHeartbeats 4000000 in
theorem xrow_xrow (X : zX) (r : Nat) (f g : Nat → Int32) (l l2 : Int32) : xrow (xrow X r f l) r g l2 = xrow X r g l2 := by
  unfold xrow
  refine Prod.ext (funext fun j => ?_) (Prod.ext (funext fun j => ?_) rfl)
  · by_cases h2 : j = r <;> simp [va_up, h2]
  · by_cases h2 : j = r <;> simp [va_up, h2]
/- a row's contents and length -/
set_option maxRecDepth 100000 in
set_option maxHeartbeats 4000000 in
abbrev rst : Type := (Nat → Int32) × Nat
set_option maxRecDepth 100000 in
set_option maxHeartbeats 4000000 in
def insNew (v : Int32) (a : rst) : rst := if rany (fun j => a.1 j = v) 0 a.2 = true then a else (rins a.1 v a.2, a.2 + 1)
/- the snaps by the edges e .. of another shape; s0 z0: the other's, zk: its own size -/
set_option maxRecDepth 100000 in
set_option maxHeartbeats 4000000 in
def snE (s0 z0 zk : Int32) : Nat → Nat → rst → rst
  | _, 0, a => a
  | e, m + 1, a => snE s0 z0 zk (e + 1) m (if 2 * s0 + nI e * (z0 - zk) - (2 * s0 + nI e * (z0 - zk)) / 2 * 2 = 0 then insNew ((2 * s0 + nI e * (z0 - zk)) / 2) a else a)
set_option maxRecDepth 100000 in
set_option maxHeartbeats 4000000 in
def snO (st sz : Nat → Int32) (k : Nat) : Nat → Nat → rst → rst
  | _, 0, a => a
  | i, m + 1, a => snO st sz k (i + 1) m (if i = k then a else snE (st i) (sz i) (sz k) 0 3 a)
set_option maxRecDepth 100000 in
set_option maxHeartbeats 4000000 in
def snAll (f : Nat → Int32) (st sz : Nat → Int32) (n k : Nat) : rst := snO st sz k 0 n (rins f (st k) 0, 1)
set_option maxRecDepth 100000 in
set_option maxHeartbeats 4000000 in
theorem insNew_len (v : Int32) (a : rst) : (insNew v a).2 ≤ a.2 + 1 := by
  unfold insNew; split
  · omega
  · exact Nat.le_refl _
set_option maxRecDepth 100000 in
set_option maxHeartbeats 4000000 in
theorem snE_len (s0 z0 zk : Int32) : ∀ (m e : Nat) (a : rst), (snE s0 z0 zk e m a).2 ≤ a.2 + m
  | 0, _, a => Nat.le_refl _
  | m + 1, e, a => by
    unfold snE
    refine Nat.le_trans (snE_len s0 z0 zk m (e + 1) _) ?_
    split
    · have := insNew_len ((2 * s0 + nI e * (z0 - zk)) / 2) a; omega
    · omega
set_option maxRecDepth 100000 in
set_option maxHeartbeats 4000000 in
theorem z_X0_listSnaps_32_0_32 {n k : Nat} (hn : X.1 0 = nI n) (h4 : n ≤ 4) (hk : k < n) {i : Nat} {P : zRes → zWorld → Prop} (hi : i < n) (hik : ¬ i = k) : ∀ (m e : Nat) (a : rst) (tl : Option Value), e + m = 3 → a.2 + m ≤ 10 → (∀ tl, Z G mX0_listSnaps (zrm 1 0 0) 0 0 108 [some (.ref 1), some (.int (nI k)), some (.ref 73), some (.int (nI i)), some (.int (nI 3)), tl] [] (zw (xrow X 32 (snE ((X.2.1 0) i) ((X.2.1 1) i) ((X.2.1 1) k) e m a).1 (nI (snE ((X.2.1 0) i) ((X.2.1 1) i) ((X.2.1 1) k) e m a).2)) Y O) P) → Z G mX0_listSnaps (zrm 1 0 0) 0 0 32 [some (.ref 1), some (.int (nI k)), some (.ref 73), some (.int (nI i)), some (.int (nI e)), tl] [] (zw (xrow X 32 a.1 (nI a.2)) Y O) P := by
  intro m
  induction m with
  | zero =>
    intro e a tl he hl hx
    have hin : e = 3 := by omega
    subst hin
    simp only [snE] at hx
    refine z_iload dX0_listSnaps_32 rfl (q := 34) rfl ?_
    refine z_iconst (v := 2) dX0_listSnaps_34 rfl (q := 35) rfl ?_
    refine z_icmp_gt (tgt := 108) dX0_listSnaps_35 (by decide) (q := 38) rfl (fun h35 => ?_) (fun h35 => absurd (nI_lt (a := 2) (b := 3) (by omega) (by omega)) h35)
    exact hx tl
  | succ m ih =>
    intro e a tl he hl hx
    refine z_iload dX0_listSnaps_32 rfl (q := 34) rfl ?_
    refine z_iconst (v := 2) dX0_listSnaps_34 rfl (q := 35) rfl ?_
    refine z_icmp_gt (tgt := 108) dX0_listSnaps_35 (by decide) (q := 38) rfl (fun h35 => absurd h35 (fun h9 => absurd (nI_le (a := e) (b := 2) (by omega) (by omega)) (Int32.not_le.mpr h9))) (fun h35 => ?_)
    refine z_iload_n (i := 3) dX0_listSnaps_38 rfl rfl (q := 39) rfl ?_
    refine z_iload_n (i := 1) dX0_listSnaps_39 rfl rfl (q := 40) rfl ?_
    refine z_icmp_eq (tgt := 108) dX0_listSnaps_40 (by decide) (q := 43) rfl (fun h40 => absurd ((nI_eq (by omega) (by omega)).mp h40) hik) (fun h40 => ?_)
    refine z_iconst (v := 2) dX0_listSnaps_43 rfl (q := 44) rfl ?_
    refine z_aload_n (i := 0) dX0_listSnaps_44 rfl rfl (q := 45) rfl ?_
    refine z_get dX0_listSnaps_45 fX0_14 (wo_across _ _ _) rfl (q := 48) rfl ?_
    refine z_iload_n (i := 3) dX0_listSnaps_48 rfl rfl (q := 49) rfl ?_
    refine z_callVF (As := [_]) dX0_listSnaps_49 kX0_34 (c_X4_get  (wr_0 _ _ _) (by omega) (by decide)) (wr_0 _ _ _).1 rfl rfl (zle rfl) ⟨zle rfl, zle rfl⟩ ⟨zle rfl, zle rfl⟩ (q := 52) rfl ?_
    refine z_imul dX0_listSnaps_52 (q := 53) rfl ?_
    refine z_iload dX0_listSnaps_53 rfl (q := 55) rfl ?_
    refine z_aload_n (i := 0) dX0_listSnaps_55 rfl rfl (q := 56) rfl ?_
    refine z_get dX0_listSnaps_56 fX0_20 (wo_across _ _ _) rfl (q := 59) rfl ?_
    refine z_iload_n (i := 3) dX0_listSnaps_59 rfl rfl (q := 60) rfl ?_
    refine z_callVF (As := [_]) dX0_listSnaps_60 kX0_34 (c_X4_get  (wr_1 _ _ _) (by omega) (by decide)) (wr_1 _ _ _).1 rfl rfl (zle rfl) ⟨zle rfl, zle rfl⟩ ⟨zle rfl, zle rfl⟩ (q := 63) rfl ?_
    refine z_aload_n (i := 0) dX0_listSnaps_63 rfl rfl (q := 64) rfl ?_
    refine z_get dX0_listSnaps_64 fX0_20 (wo_across _ _ _) rfl (q := 67) rfl ?_
    refine z_iload_n (i := 1) dX0_listSnaps_67 rfl rfl (q := 68) rfl ?_
    refine z_callVF (As := [_]) dX0_listSnaps_68 kX0_34 (c_X4_get  (wr_1 _ _ _) (by omega) (by decide)) (wr_1 _ _ _).1 rfl rfl (zle rfl) ⟨zle rfl, zle rfl⟩ ⟨zle rfl, zle rfl⟩ (q := 71) rfl ?_
    refine z_isub dX0_listSnaps_71 (q := 72) rfl ?_
    refine z_imul dX0_listSnaps_72 (q := 73) rfl ?_
    refine z_iadd dX0_listSnaps_73 (q := 74) rfl ?_
    refine z_istore dX0_listSnaps_74 (zle rfl) rfl (q := 76) rfl ?_
    refine z_iload dX0_listSnaps_76 rfl (q := 78) rfl ?_
    refine z_iconst (v := 2) dX0_listSnaps_78 rfl (q := 79) rfl ?_
    refine z_irem dX0_listSnaps_79 (by decide) (q := 80) rfl ?_
    refine z_if_ne (tgt := 102) dX0_listSnaps_80 (by decide) (q := 83) rfl (fun h80 => ?_) (fun h80 => ?_)
    · refine z_iinc dX0_listSnaps_102 rfl rfl (zle rfl) rfl (q := 105) rfl ?_
      refine z_goto (tgt := 32) dX0_listSnaps_105 (by decide) ?_
      refine Z.eql (zl2 := [some (.ref 1), some (.int (nI k)), some (.ref 73), some (.int (nI i)), some (.int (nI (e + 1))), some (.int (2 * (X.2.1 0) i + nI e * ((X.2.1 1) i - (X.2.1 1) k)))]) (by first | (rw [← nI_1 e]; done) | (rw [← nI_1 e]; rfl)) ?_
      rw [show snE ((X.2.1 0) i) ((X.2.1 1) i) ((X.2.1 1) k) e (m + 1) a = snE ((X.2.1 0) i) ((X.2.1 1) i) ((X.2.1 1) k) (e + 1) m a from congrArg _ (if_neg h80)] at hx
      exact ih (e + 1) a _ (by omega) (by omega) hx
    · refine z_aload_n (i := 2) dX0_listSnaps_83 rfl rfl (q := 84) rfl ?_
      refine z_iload dX0_listSnaps_84 rfl (q := 86) rfl ?_
      refine z_iconst (v := 2) dX0_listSnaps_86 rfl (q := 87) rfl ?_
      refine z_idiv dX0_listSnaps_87 (by decide) (q := 88) rfl ?_
      refine z_callVF (As := [_]) dX0_listSnaps_88 kX0_54 (c_X4_contains (k := a.2) (wr_32 _ _ _) rfl (by omega) (by decide)) (wr_32 _ _ _).1 rfl rfl (zle rfl) ⟨zle rfl, zle rfl⟩ ⟨zle rfl, zle rfl⟩ (q := 91) rfl ?_
      refine z_if_ne (tgt := 102) dX0_listSnaps_91 (by decide) (q := 94) rfl (fun h91 => ?_) (fun h91 => ?_)
      · refine z_iinc dX0_listSnaps_102 rfl rfl (zle rfl) rfl (q := 105) rfl ?_
        refine z_goto (tgt := 32) dX0_listSnaps_105 (by decide) ?_
        refine Z.eql (zl2 := [some (.ref 1), some (.int (nI k)), some (.ref 73), some (.int (nI i)), some (.int (nI (e + 1))), some (.int (2 * (X.2.1 0) i + nI e * ((X.2.1 1) i - (X.2.1 1) k)))]) (by first | (rw [← nI_1 e]; done) | (rw [← nI_1 e]; rfl)) ?_
        rw [show snE ((X.2.1 0) i) ((X.2.1 1) i) ((X.2.1 1) k) e (m + 1) a = snE ((X.2.1 0) i) ((X.2.1 1) i) ((X.2.1 1) k) (e + 1) m a from congrArg _ ((if_pos h80).trans (if_pos (show rany (fun j => a.1 j = (2 * (X.2.1 0) i + nI e * ((X.2.1 1) i - (X.2.1 1) k)) / 2) 0 a.2 = true from zB_1 h91)))] at hx
        exact ih (e + 1) a _ (by omega) (by omega) hx
      · have h91 := h91
        refine z_aload_n (i := 2) dX0_listSnaps_94 rfl rfl (q := 95) rfl ?_
        refine z_iload dX0_listSnaps_95 rfl (q := 97) rfl ?_
        refine z_iconst (v := 2) dX0_listSnaps_97 rfl (q := 98) rfl ?_
        refine z_idiv dX0_listSnaps_98 (by decide) (q := 99) rfl ?_
        refine z_callVF (As := [_]) dX0_listSnaps_99 kX0_51 (c_X4_insert' (k := a.2) (wr_32 _ _ _) rfl (by omega) (by decide)) (wr_32 _ _ _).1 rfl rfl (zle rfl) ⟨zle rfl, zle rfl⟩ ⟨zle rfl, zle rfl⟩ (q := 102) rfl ?_
        refine Z.eqw (wp_32 _ _ _ _ _) ?_
        rw [xrow_xrow]
        refine z_iinc dX0_listSnaps_102 rfl rfl (zle rfl) rfl (q := 105) rfl ?_
        refine z_goto (tgt := 32) dX0_listSnaps_105 (by decide) ?_
        refine Z.eql (zl2 := [some (.ref 1), some (.int (nI k)), some (.ref 73), some (.int (nI i)), some (.int (nI (e + 1))), some (.int (2 * (X.2.1 0) i + nI e * ((X.2.1 1) i - (X.2.1 1) k)))]) (by first | (rw [← nI_1 e]; done) | (rw [← nI_1 e]; rfl)) ?_
        rw [show snE ((X.2.1 0) i) ((X.2.1 1) i) ((X.2.1 1) k) e (m + 1) a = snE ((X.2.1 0) i) ((X.2.1 1) i) ((X.2.1 1) k) (e + 1) m (rins a.1 ((2 * (X.2.1 0) i + nI e * ((X.2.1 1) i - (X.2.1 1) k)) / 2) a.2, a.2 + 1) from congrArg _ ((if_pos h80).trans (if_neg (show ¬ rany (fun j => a.1 j = (2 * (X.2.1 0) i + nI e * ((X.2.1 1) i - (X.2.1 1) k)) / 2) 0 a.2 = true from zB_0 h91)))] at hx
        exact ih (e + 1) (rins a.1 ((2 * (X.2.1 0) i + nI e * ((X.2.1 1) i - (X.2.1 1) k)) / 2) a.2, a.2 + 1) _ (by omega) (by show a.2 + 1 + m ≤ 10; omega) hx
set_option maxRecDepth 100000 in
set_option maxHeartbeats 4000000 in
theorem z_X0_listSnaps_18_0_32 {n k : Nat} (hn : X.1 0 = nI n) (h4 : n ≤ 4) (hk : k < n) : ∀ (m i : Nat) (a : rst) (e4 tl : Option Value), i + m = n → a.2 + (if k < i then 1 else 0) * 3 ≤ 1 + 3 * i → Z G mX0_listSnaps (zrm 1 0 0) 0 0 18 [some (.ref 1), some (.int (nI k)), some (.ref 73), some (.int (nI i)), e4, tl] [] (zw (xrow X 32 a.1 (nI a.2)) Y O) (fun r w2 => r = .inl none ∧ w2 = zw (xrow X 32 (snO (X.2.1 0) (X.2.1 1) k i m a).1 (nI (snO (X.2.1 0) (X.2.1 1) k i m a).2)) Y O) := by
  intro m
  induction m with
  | zero =>
    intro i a e4 tl hi hl
    refine z_iload_n (i := 3) dX0_listSnaps_18 rfl rfl (q := 19) rfl ?_
    refine z_aload_n (i := 0) dX0_listSnaps_19 rfl rfl (q := 20) rfl ?_
    refine z_get dX0_listSnaps_20 fX0_14 (wo_across _ _ _) rfl (q := 23) rfl ?_
    refine z_callVF (As := []) dX0_listSnaps_23 kX0_27 (c_X4_length (wr_0 _ _ _)) (wr_0 _ _ _).1 rfl rfl (zle rfl) ⟨zle rfl, zle rfl⟩ ⟨zle rfl, zle rfl⟩ (q := 26) rfl ?_
    rw [show (xrow X 32 a.1 (nI a.2)).1 0 = nI n from hn]
    refine z_icmp_ge (tgt := 114) dX0_listSnaps_26 (by decide) (q := 29) rfl (fun h26 => ?_) (fun h26 => absurd (zge_t (by omega)) h26)
    exact z_vret dX0_listSnaps_114 rfl ⟨zle rfl, zle rfl⟩ ⟨rfl, rfl⟩
  | succ m ih =>
    intro i a e4 tl hi hl
    have hl2 : a.2 ≤ 1 + 3 * i := by omega
    have hl10 : ¬ i = k → a.2 + 3 ≤ 10 := fun h => by
      rcases Nat.lt_or_ge k i with h9 | h9
      · rw [if_pos h9] at hl; omega
      · omega
    refine z_iload_n (i := 3) dX0_listSnaps_18 rfl rfl (q := 19) rfl ?_
    refine z_aload_n (i := 0) dX0_listSnaps_19 rfl rfl (q := 20) rfl ?_
    refine z_get dX0_listSnaps_20 fX0_14 (wo_across _ _ _) rfl (q := 23) rfl ?_
    refine z_callVF (As := []) dX0_listSnaps_23 kX0_27 (c_X4_length (wr_0 _ _ _)) (wr_0 _ _ _).1 rfl rfl (zle rfl) ⟨zle rfl, zle rfl⟩ ⟨zle rfl, zle rfl⟩ (q := 26) rfl ?_
    rw [show (xrow X 32 a.1 (nI a.2)).1 0 = nI n from hn]
    refine z_icmp_ge (tgt := 114) dX0_listSnaps_26 (by decide) (q := 29) rfl (fun h26 => absurd h26 (zge_f (by omega) (by omega))) (fun h26 => ?_)
    refine z_iconst (v := 0) dX0_listSnaps_29 rfl (q := 30) rfl ?_
    refine z_istore dX0_listSnaps_30 (zle rfl) rfl (q := 32) rfl ?_
    rcases Decidable.em (i = k) with hik | hik
    · -- its own: nothing
      refine z_iload dX0_listSnaps_32 rfl (q := 34) rfl ?_
      refine z_iconst (v := 2) dX0_listSnaps_34 rfl (q := 35) rfl ?_
      refine z_icmp_gt (tgt := 108) dX0_listSnaps_35 (by decide) (q := 38) rfl (fun h35 => absurd h35 (by decide)) (fun h35 => ?_)
      refine z_iload_n (i := 3) dX0_listSnaps_38 rfl rfl (q := 39) rfl ?_
      refine z_iload_n (i := 1) dX0_listSnaps_39 rfl rfl (q := 40) rfl ?_
      refine z_icmp_eq (tgt := 108) dX0_listSnaps_40 (by decide) (q := 43) rfl (fun h40 => ?_) (fun h40 => absurd (by rw [hik]) h40)
      refine z_iinc dX0_listSnaps_108 rfl rfl (zle rfl) rfl (q := 111) rfl ?_
      refine z_goto (tgt := 18) dX0_listSnaps_111 (by decide) ?_
      refine Z.eql (zl2 := [some (.ref 1), some (.int (nI k)), some (.ref 73), some (.int (nI (i + 1))), some (.int 0), tl]) (by first | (rw [← nI_1 i]; done) | (rw [← nI_1 i]; rfl)) ?_
      rw [show snO (X.2.1 0) (X.2.1 1) k i (m + 1) a = snO (X.2.1 0) (X.2.1 1) k (i + 1) m a from congrArg _ (if_pos hik)]
      exact ih (i + 1) a _ _ (by omega) (by rw [if_pos (show k < i + 1 by omega)]; rw [if_neg (show ¬ k < i by omega)] at hl; omega)
    · refine z_X0_listSnaps_32_0_32 hn h4 hk (by omega) hik 3 0 a _ (by omega) (hl10 hik) (fun tl => ?_)
      refine z_iinc dX0_listSnaps_108 rfl rfl (zle rfl) rfl (q := 111) rfl ?_
      refine z_goto (tgt := 18) dX0_listSnaps_111 (by decide) ?_
      refine Z.eql (zl2 := [some (.ref 1), some (.int (nI k)), some (.ref 73), some (.int (nI (i + 1))), some (.int (nI 3)), tl]) (by first | (rw [← nI_1 i]; done) | (rw [← nI_1 i]; rfl)) ?_
      rw [show snO (X.2.1 0) (X.2.1 1) k i (m + 1) a = snO (X.2.1 0) (X.2.1 1) k (i + 1) m (snE ((X.2.1 0) i) ((X.2.1 1) i) ((X.2.1 1) k) 0 3 a) from congrArg _ (if_neg hik)]
      have hlen := snE_len ((X.2.1 0) i) ((X.2.1 1) i) ((X.2.1 1) k) 3 0 a
      exact ih (i + 1) _ _ _ (by omega) (by split at hl <;> split <;> omega)
set_option maxRecDepth 100000 in
set_option maxHeartbeats 4000000 in
theorem c_X0_listSnaps_0_32 {n k : Nat} (hn : X.1 0 = nI n) (h4 : n ≤ 4) (hk : k < n) : ZM G mX0_listSnaps 1 0 0 [.ref 1, .int (nI k), .ref 73] (zw X Y O) (zEq none (zw (xrow X 32 (snAll (X.2.1 32) (X.2.1 0) (X.2.1 1) n k).1 (nI (snAll (X.2.1 32) (X.2.1 0) (X.2.1 1) n k).2)) Y O)) := by
  refine ZM.go pX0 rfl rfl (zle rfl) (zl := [some (.ref 1), some (.int (nI k)), some (.ref 73), none, none, none]) rfl ?_
  refine z_aload_n (i := 2) dX0_listSnaps_0 rfl rfl (q := 1) rfl ?_
  refine z_callVF (As := []) dX0_listSnaps_1 kX0_48 (c_X4_clear (wr_32 _ _ _)) (wr_32 _ _ _).1 rfl rfl (zle rfl) ⟨zle rfl, zle rfl⟩ ⟨zle rfl, zle rfl⟩ (q := 4) rfl ?_
  refine Z.eqw (wp_32 _ _ _ _ _) ?_
  refine z_aload_n (i := 2) dX0_listSnaps_4 rfl rfl (q := 5) rfl ?_
  refine z_aload_n (i := 0) dX0_listSnaps_5 rfl rfl (q := 6) rfl ?_
  refine z_get dX0_listSnaps_6 fX0_14 (wo_across _ _ _) rfl (q := 9) rfl ?_
  refine z_iload_n (i := 1) dX0_listSnaps_9 rfl rfl (q := 10) rfl ?_
  refine z_callVF (As := [_]) dX0_listSnaps_10 kX0_34 (c_X4_get  (wr_0 _ _ _) (by omega) (by decide)) (wr_0 _ _ _).1 rfl rfl (zle rfl) ⟨zle rfl, zle rfl⟩ ⟨zle rfl, zle rfl⟩ (q := 13) rfl ?_
  rw [show (xrow X 32 (X.2.1 32) 0).2.1 0 k = X.2.1 0 k from rfl]
  refine z_callVF (As := [_]) dX0_listSnaps_13 kX0_51 (c_X4_insert' (k := 0) (wr_32 _ _ _) (xrow_l X 32 _ _) (by omega) (by decide)) (wr_32 _ _ _).1 rfl rfl (zle rfl) ⟨zle rfl, zle rfl⟩ ⟨zle rfl, zle rfl⟩ (q := 16) rfl ?_
  refine Z.eqw (wp_32 _ _ _ _ _) ?_
  rw [xrow_xrow]
  refine z_iconst (v := 0) dX0_listSnaps_16 rfl (q := 17) rfl ?_
  refine z_istore_n (i := 3) dX0_listSnaps_17 rfl (zle rfl) rfl (q := 18) rfl ?_
  refine (z_X0_listSnaps_18_0_32 hn h4 hk n 0 (rins (X.2.1 32) (X.2.1 0 k) 0, 1) _ _ (by omega) (by simp))
set_option maxRecDepth 100000 in
set_option maxHeartbeats 4000000 in
theorem z_X0_listSnaps_32_0_13 {n k : Nat} (hn : X.1 0 = nI n) (h4 : n ≤ 4) (hk : k < n) {i : Nat} {P : zRes → zWorld → Prop} (hi : i < n) (hik : ¬ i = k) : ∀ (m e : Nat) (a : rst) (tl : Option Value), e + m = 3 → a.2 + m ≤ 10 → (∀ tl, Z G mX0_listSnaps (zrm 1 0 0) 0 0 108 [some (.ref 1), some (.int (nI k)), some (.ref 32), some (.int (nI i)), some (.int (nI 3)), tl] [] (zw (xrow X 13 (snE ((X.2.1 0) i) ((X.2.1 1) i) ((X.2.1 1) k) e m a).1 (nI (snE ((X.2.1 0) i) ((X.2.1 1) i) ((X.2.1 1) k) e m a).2)) Y O) P) → Z G mX0_listSnaps (zrm 1 0 0) 0 0 32 [some (.ref 1), some (.int (nI k)), some (.ref 32), some (.int (nI i)), some (.int (nI e)), tl] [] (zw (xrow X 13 a.1 (nI a.2)) Y O) P := by
  intro m
  induction m with
  | zero =>
    intro e a tl he hl hx
    have hin : e = 3 := by omega
    subst hin
    simp only [snE] at hx
    refine z_iload dX0_listSnaps_32 rfl (q := 34) rfl ?_
    refine z_iconst (v := 2) dX0_listSnaps_34 rfl (q := 35) rfl ?_
    refine z_icmp_gt (tgt := 108) dX0_listSnaps_35 (by decide) (q := 38) rfl (fun h35 => ?_) (fun h35 => absurd (nI_lt (a := 2) (b := 3) (by omega) (by omega)) h35)
    exact hx tl
  | succ m ih =>
    intro e a tl he hl hx
    refine z_iload dX0_listSnaps_32 rfl (q := 34) rfl ?_
    refine z_iconst (v := 2) dX0_listSnaps_34 rfl (q := 35) rfl ?_
    refine z_icmp_gt (tgt := 108) dX0_listSnaps_35 (by decide) (q := 38) rfl (fun h35 => absurd h35 (fun h9 => absurd (nI_le (a := e) (b := 2) (by omega) (by omega)) (Int32.not_le.mpr h9))) (fun h35 => ?_)
    refine z_iload_n (i := 3) dX0_listSnaps_38 rfl rfl (q := 39) rfl ?_
    refine z_iload_n (i := 1) dX0_listSnaps_39 rfl rfl (q := 40) rfl ?_
    refine z_icmp_eq (tgt := 108) dX0_listSnaps_40 (by decide) (q := 43) rfl (fun h40 => absurd ((nI_eq (by omega) (by omega)).mp h40) hik) (fun h40 => ?_)
    refine z_iconst (v := 2) dX0_listSnaps_43 rfl (q := 44) rfl ?_
    refine z_aload_n (i := 0) dX0_listSnaps_44 rfl rfl (q := 45) rfl ?_
    refine z_get dX0_listSnaps_45 fX0_14 (wo_across _ _ _) rfl (q := 48) rfl ?_
    refine z_iload_n (i := 3) dX0_listSnaps_48 rfl rfl (q := 49) rfl ?_
    refine z_callVF (As := [_]) dX0_listSnaps_49 kX0_34 (c_X4_get  (wr_0 _ _ _) (by omega) (by decide)) (wr_0 _ _ _).1 rfl rfl (zle rfl) ⟨zle rfl, zle rfl⟩ ⟨zle rfl, zle rfl⟩ (q := 52) rfl ?_
    refine z_imul dX0_listSnaps_52 (q := 53) rfl ?_
    refine z_iload dX0_listSnaps_53 rfl (q := 55) rfl ?_
    refine z_aload_n (i := 0) dX0_listSnaps_55 rfl rfl (q := 56) rfl ?_
    refine z_get dX0_listSnaps_56 fX0_20 (wo_across _ _ _) rfl (q := 59) rfl ?_
    refine z_iload_n (i := 3) dX0_listSnaps_59 rfl rfl (q := 60) rfl ?_
    refine z_callVF (As := [_]) dX0_listSnaps_60 kX0_34 (c_X4_get  (wr_1 _ _ _) (by omega) (by decide)) (wr_1 _ _ _).1 rfl rfl (zle rfl) ⟨zle rfl, zle rfl⟩ ⟨zle rfl, zle rfl⟩ (q := 63) rfl ?_
    refine z_aload_n (i := 0) dX0_listSnaps_63 rfl rfl (q := 64) rfl ?_
    refine z_get dX0_listSnaps_64 fX0_20 (wo_across _ _ _) rfl (q := 67) rfl ?_
    refine z_iload_n (i := 1) dX0_listSnaps_67 rfl rfl (q := 68) rfl ?_
    refine z_callVF (As := [_]) dX0_listSnaps_68 kX0_34 (c_X4_get  (wr_1 _ _ _) (by omega) (by decide)) (wr_1 _ _ _).1 rfl rfl (zle rfl) ⟨zle rfl, zle rfl⟩ ⟨zle rfl, zle rfl⟩ (q := 71) rfl ?_
    refine z_isub dX0_listSnaps_71 (q := 72) rfl ?_
    refine z_imul dX0_listSnaps_72 (q := 73) rfl ?_
    refine z_iadd dX0_listSnaps_73 (q := 74) rfl ?_
    refine z_istore dX0_listSnaps_74 (zle rfl) rfl (q := 76) rfl ?_
    refine z_iload dX0_listSnaps_76 rfl (q := 78) rfl ?_
    refine z_iconst (v := 2) dX0_listSnaps_78 rfl (q := 79) rfl ?_
    refine z_irem dX0_listSnaps_79 (by decide) (q := 80) rfl ?_
    refine z_if_ne (tgt := 102) dX0_listSnaps_80 (by decide) (q := 83) rfl (fun h80 => ?_) (fun h80 => ?_)
    · refine z_iinc dX0_listSnaps_102 rfl rfl (zle rfl) rfl (q := 105) rfl ?_
      refine z_goto (tgt := 32) dX0_listSnaps_105 (by decide) ?_
      refine Z.eql (zl2 := [some (.ref 1), some (.int (nI k)), some (.ref 32), some (.int (nI i)), some (.int (nI (e + 1))), some (.int (2 * (X.2.1 0) i + nI e * ((X.2.1 1) i - (X.2.1 1) k)))]) (by first | (rw [← nI_1 e]; done) | (rw [← nI_1 e]; rfl)) ?_
      rw [show snE ((X.2.1 0) i) ((X.2.1 1) i) ((X.2.1 1) k) e (m + 1) a = snE ((X.2.1 0) i) ((X.2.1 1) i) ((X.2.1 1) k) (e + 1) m a from congrArg _ (if_neg h80)] at hx
      exact ih (e + 1) a _ (by omega) (by omega) hx
    · refine z_aload_n (i := 2) dX0_listSnaps_83 rfl rfl (q := 84) rfl ?_
      refine z_iload dX0_listSnaps_84 rfl (q := 86) rfl ?_
      refine z_iconst (v := 2) dX0_listSnaps_86 rfl (q := 87) rfl ?_
      refine z_idiv dX0_listSnaps_87 (by decide) (q := 88) rfl ?_
      refine z_callVF (As := [_]) dX0_listSnaps_88 kX0_54 (c_X4_contains (k := a.2) (wr_13 _ _ _) rfl (by omega) (by decide)) (wr_13 _ _ _).1 rfl rfl (zle rfl) ⟨zle rfl, zle rfl⟩ ⟨zle rfl, zle rfl⟩ (q := 91) rfl ?_
      refine z_if_ne (tgt := 102) dX0_listSnaps_91 (by decide) (q := 94) rfl (fun h91 => ?_) (fun h91 => ?_)
      · refine z_iinc dX0_listSnaps_102 rfl rfl (zle rfl) rfl (q := 105) rfl ?_
        refine z_goto (tgt := 32) dX0_listSnaps_105 (by decide) ?_
        refine Z.eql (zl2 := [some (.ref 1), some (.int (nI k)), some (.ref 32), some (.int (nI i)), some (.int (nI (e + 1))), some (.int (2 * (X.2.1 0) i + nI e * ((X.2.1 1) i - (X.2.1 1) k)))]) (by first | (rw [← nI_1 e]; done) | (rw [← nI_1 e]; rfl)) ?_
        rw [show snE ((X.2.1 0) i) ((X.2.1 1) i) ((X.2.1 1) k) e (m + 1) a = snE ((X.2.1 0) i) ((X.2.1 1) i) ((X.2.1 1) k) (e + 1) m a from congrArg _ ((if_pos h80).trans (if_pos (show rany (fun j => a.1 j = (2 * (X.2.1 0) i + nI e * ((X.2.1 1) i - (X.2.1 1) k)) / 2) 0 a.2 = true from zB_1 h91)))] at hx
        exact ih (e + 1) a _ (by omega) (by omega) hx
      · have h91 := h91
        refine z_aload_n (i := 2) dX0_listSnaps_94 rfl rfl (q := 95) rfl ?_
        refine z_iload dX0_listSnaps_95 rfl (q := 97) rfl ?_
        refine z_iconst (v := 2) dX0_listSnaps_97 rfl (q := 98) rfl ?_
        refine z_idiv dX0_listSnaps_98 (by decide) (q := 99) rfl ?_
        refine z_callVF (As := [_]) dX0_listSnaps_99 kX0_51 (c_X4_insert' (k := a.2) (wr_13 _ _ _) rfl (by omega) (by decide)) (wr_13 _ _ _).1 rfl rfl (zle rfl) ⟨zle rfl, zle rfl⟩ ⟨zle rfl, zle rfl⟩ (q := 102) rfl ?_
        refine Z.eqw (wp_13 _ _ _ _ _) ?_
        rw [xrow_xrow]
        refine z_iinc dX0_listSnaps_102 rfl rfl (zle rfl) rfl (q := 105) rfl ?_
        refine z_goto (tgt := 32) dX0_listSnaps_105 (by decide) ?_
        refine Z.eql (zl2 := [some (.ref 1), some (.int (nI k)), some (.ref 32), some (.int (nI i)), some (.int (nI (e + 1))), some (.int (2 * (X.2.1 0) i + nI e * ((X.2.1 1) i - (X.2.1 1) k)))]) (by first | (rw [← nI_1 e]; done) | (rw [← nI_1 e]; rfl)) ?_
        rw [show snE ((X.2.1 0) i) ((X.2.1 1) i) ((X.2.1 1) k) e (m + 1) a = snE ((X.2.1 0) i) ((X.2.1 1) i) ((X.2.1 1) k) (e + 1) m (rins a.1 ((2 * (X.2.1 0) i + nI e * ((X.2.1 1) i - (X.2.1 1) k)) / 2) a.2, a.2 + 1) from congrArg _ ((if_pos h80).trans (if_neg (show ¬ rany (fun j => a.1 j = (2 * (X.2.1 0) i + nI e * ((X.2.1 1) i - (X.2.1 1) k)) / 2) 0 a.2 = true from zB_0 h91)))] at hx
        exact ih (e + 1) (rins a.1 ((2 * (X.2.1 0) i + nI e * ((X.2.1 1) i - (X.2.1 1) k)) / 2) a.2, a.2 + 1) _ (by omega) (by show a.2 + 1 + m ≤ 10; omega) hx
set_option maxRecDepth 100000 in
set_option maxHeartbeats 4000000 in
theorem z_X0_listSnaps_18_0_13 {n k : Nat} (hn : X.1 0 = nI n) (h4 : n ≤ 4) (hk : k < n) : ∀ (m i : Nat) (a : rst) (e4 tl : Option Value), i + m = n → a.2 + (if k < i then 1 else 0) * 3 ≤ 1 + 3 * i → Z G mX0_listSnaps (zrm 1 0 0) 0 0 18 [some (.ref 1), some (.int (nI k)), some (.ref 32), some (.int (nI i)), e4, tl] [] (zw (xrow X 13 a.1 (nI a.2)) Y O) (fun r w2 => r = .inl none ∧ w2 = zw (xrow X 13 (snO (X.2.1 0) (X.2.1 1) k i m a).1 (nI (snO (X.2.1 0) (X.2.1 1) k i m a).2)) Y O) := by
  intro m
  induction m with
  | zero =>
    intro i a e4 tl hi hl
    refine z_iload_n (i := 3) dX0_listSnaps_18 rfl rfl (q := 19) rfl ?_
    refine z_aload_n (i := 0) dX0_listSnaps_19 rfl rfl (q := 20) rfl ?_
    refine z_get dX0_listSnaps_20 fX0_14 (wo_across _ _ _) rfl (q := 23) rfl ?_
    refine z_callVF (As := []) dX0_listSnaps_23 kX0_27 (c_X4_length (wr_0 _ _ _)) (wr_0 _ _ _).1 rfl rfl (zle rfl) ⟨zle rfl, zle rfl⟩ ⟨zle rfl, zle rfl⟩ (q := 26) rfl ?_
    rw [show (xrow X 13 a.1 (nI a.2)).1 0 = nI n from hn]
    refine z_icmp_ge (tgt := 114) dX0_listSnaps_26 (by decide) (q := 29) rfl (fun h26 => ?_) (fun h26 => absurd (zge_t (by omega)) h26)
    exact z_vret dX0_listSnaps_114 rfl ⟨zle rfl, zle rfl⟩ ⟨rfl, rfl⟩
  | succ m ih =>
    intro i a e4 tl hi hl
    have hl2 : a.2 ≤ 1 + 3 * i := by omega
    have hl10 : ¬ i = k → a.2 + 3 ≤ 10 := fun h => by
      rcases Nat.lt_or_ge k i with h9 | h9
      · rw [if_pos h9] at hl; omega
      · omega
    refine z_iload_n (i := 3) dX0_listSnaps_18 rfl rfl (q := 19) rfl ?_
    refine z_aload_n (i := 0) dX0_listSnaps_19 rfl rfl (q := 20) rfl ?_
    refine z_get dX0_listSnaps_20 fX0_14 (wo_across _ _ _) rfl (q := 23) rfl ?_
    refine z_callVF (As := []) dX0_listSnaps_23 kX0_27 (c_X4_length (wr_0 _ _ _)) (wr_0 _ _ _).1 rfl rfl (zle rfl) ⟨zle rfl, zle rfl⟩ ⟨zle rfl, zle rfl⟩ (q := 26) rfl ?_
    rw [show (xrow X 13 a.1 (nI a.2)).1 0 = nI n from hn]
    refine z_icmp_ge (tgt := 114) dX0_listSnaps_26 (by decide) (q := 29) rfl (fun h26 => absurd h26 (zge_f (by omega) (by omega))) (fun h26 => ?_)
    refine z_iconst (v := 0) dX0_listSnaps_29 rfl (q := 30) rfl ?_
    refine z_istore dX0_listSnaps_30 (zle rfl) rfl (q := 32) rfl ?_
    rcases Decidable.em (i = k) with hik | hik
    · -- its own: nothing
      refine z_iload dX0_listSnaps_32 rfl (q := 34) rfl ?_
      refine z_iconst (v := 2) dX0_listSnaps_34 rfl (q := 35) rfl ?_
      refine z_icmp_gt (tgt := 108) dX0_listSnaps_35 (by decide) (q := 38) rfl (fun h35 => absurd h35 (by decide)) (fun h35 => ?_)
      refine z_iload_n (i := 3) dX0_listSnaps_38 rfl rfl (q := 39) rfl ?_
      refine z_iload_n (i := 1) dX0_listSnaps_39 rfl rfl (q := 40) rfl ?_
      refine z_icmp_eq (tgt := 108) dX0_listSnaps_40 (by decide) (q := 43) rfl (fun h40 => ?_) (fun h40 => absurd (by rw [hik]) h40)
      refine z_iinc dX0_listSnaps_108 rfl rfl (zle rfl) rfl (q := 111) rfl ?_
      refine z_goto (tgt := 18) dX0_listSnaps_111 (by decide) ?_
      refine Z.eql (zl2 := [some (.ref 1), some (.int (nI k)), some (.ref 32), some (.int (nI (i + 1))), some (.int 0), tl]) (by first | (rw [← nI_1 i]; done) | (rw [← nI_1 i]; rfl)) ?_
      rw [show snO (X.2.1 0) (X.2.1 1) k i (m + 1) a = snO (X.2.1 0) (X.2.1 1) k (i + 1) m a from congrArg _ (if_pos hik)]
      exact ih (i + 1) a _ _ (by omega) (by rw [if_pos (show k < i + 1 by omega)]; rw [if_neg (show ¬ k < i by omega)] at hl; omega)
    · refine z_X0_listSnaps_32_0_13 hn h4 hk (by omega) hik 3 0 a _ (by omega) (hl10 hik) (fun tl => ?_)
      refine z_iinc dX0_listSnaps_108 rfl rfl (zle rfl) rfl (q := 111) rfl ?_
      refine z_goto (tgt := 18) dX0_listSnaps_111 (by decide) ?_
      refine Z.eql (zl2 := [some (.ref 1), some (.int (nI k)), some (.ref 32), some (.int (nI (i + 1))), some (.int (nI 3)), tl]) (by first | (rw [← nI_1 i]; done) | (rw [← nI_1 i]; rfl)) ?_
      rw [show snO (X.2.1 0) (X.2.1 1) k i (m + 1) a = snO (X.2.1 0) (X.2.1 1) k (i + 1) m (snE ((X.2.1 0) i) ((X.2.1 1) i) ((X.2.1 1) k) 0 3 a) from congrArg _ (if_neg hik)]
      have hlen := snE_len ((X.2.1 0) i) ((X.2.1 1) i) ((X.2.1 1) k) 3 0 a
      exact ih (i + 1) _ _ _ (by omega) (by split at hl <;> split <;> omega)
set_option maxRecDepth 100000 in
set_option maxHeartbeats 4000000 in
theorem c_X0_listSnaps_0_13 {n k : Nat} (hn : X.1 0 = nI n) (h4 : n ≤ 4) (hk : k < n) : ZM G mX0_listSnaps 1 0 0 [.ref 1, .int (nI k), .ref 32] (zw X Y O) (zEq none (zw (xrow X 13 (snAll (X.2.1 13) (X.2.1 0) (X.2.1 1) n k).1 (nI (snAll (X.2.1 13) (X.2.1 0) (X.2.1 1) n k).2)) Y O)) := by
  refine ZM.go pX0 rfl rfl (zle rfl) (zl := [some (.ref 1), some (.int (nI k)), some (.ref 32), none, none, none]) rfl ?_
  refine z_aload_n (i := 2) dX0_listSnaps_0 rfl rfl (q := 1) rfl ?_
  refine z_callVF (As := []) dX0_listSnaps_1 kX0_48 (c_X4_clear (wr_13 _ _ _)) (wr_13 _ _ _).1 rfl rfl (zle rfl) ⟨zle rfl, zle rfl⟩ ⟨zle rfl, zle rfl⟩ (q := 4) rfl ?_
  refine Z.eqw (wp_13 _ _ _ _ _) ?_
  refine z_aload_n (i := 2) dX0_listSnaps_4 rfl rfl (q := 5) rfl ?_
  refine z_aload_n (i := 0) dX0_listSnaps_5 rfl rfl (q := 6) rfl ?_
  refine z_get dX0_listSnaps_6 fX0_14 (wo_across _ _ _) rfl (q := 9) rfl ?_
  refine z_iload_n (i := 1) dX0_listSnaps_9 rfl rfl (q := 10) rfl ?_
  refine z_callVF (As := [_]) dX0_listSnaps_10 kX0_34 (c_X4_get  (wr_0 _ _ _) (by omega) (by decide)) (wr_0 _ _ _).1 rfl rfl (zle rfl) ⟨zle rfl, zle rfl⟩ ⟨zle rfl, zle rfl⟩ (q := 13) rfl ?_
  rw [show (xrow X 13 (X.2.1 13) 0).2.1 0 k = X.2.1 0 k from rfl]
  refine z_callVF (As := [_]) dX0_listSnaps_13 kX0_51 (c_X4_insert' (k := 0) (wr_13 _ _ _) (xrow_l X 13 _ _) (by omega) (by decide)) (wr_13 _ _ _).1 rfl rfl (zle rfl) ⟨zle rfl, zle rfl⟩ ⟨zle rfl, zle rfl⟩ (q := 16) rfl ?_
  refine Z.eqw (wp_13 _ _ _ _ _) ?_
  rw [xrow_xrow]
  refine z_iconst (v := 0) dX0_listSnaps_16 rfl (q := 17) rfl ?_
  refine z_istore_n (i := 3) dX0_listSnaps_17 rfl (zle rfl) rfl (q := 18) rfl ?_
  refine (z_X0_listSnaps_18_0_13 hn h4 hk n 0 (rins (X.2.1 13) (X.2.1 0 k) 0, 1) _ _ (by omega) (by simp))
set_option maxRecDepth 100000 in
set_option maxHeartbeats 4000000 in
theorem z_X0_listSnaps_32_1_32 {n k : Nat} (hn : X.1 2 = nI n) (h4 : n ≤ 4) (hk : k < n) {i : Nat} {P : zRes → zWorld → Prop} (hi : i < n) (hik : ¬ i = k) : ∀ (m e : Nat) (a : rst) (tl : Option Value), e + m = 3 → a.2 + m ≤ 10 → (∀ tl, Z G mX0_listSnaps (zrm 1 0 0) 0 0 108 [some (.ref 6), some (.int (nI k)), some (.ref 73), some (.int (nI i)), some (.int (nI 3)), tl] [] (zw (xrow X 32 (snE ((X.2.1 2) i) ((X.2.1 3) i) ((X.2.1 3) k) e m a).1 (nI (snE ((X.2.1 2) i) ((X.2.1 3) i) ((X.2.1 3) k) e m a).2)) Y O) P) → Z G mX0_listSnaps (zrm 1 0 0) 0 0 32 [some (.ref 6), some (.int (nI k)), some (.ref 73), some (.int (nI i)), some (.int (nI e)), tl] [] (zw (xrow X 32 a.1 (nI a.2)) Y O) P := by
  intro m
  induction m with
  | zero =>
    intro e a tl he hl hx
    have hin : e = 3 := by omega
    subst hin
    simp only [snE] at hx
    refine z_iload dX0_listSnaps_32 rfl (q := 34) rfl ?_
    refine z_iconst (v := 2) dX0_listSnaps_34 rfl (q := 35) rfl ?_
    refine z_icmp_gt (tgt := 108) dX0_listSnaps_35 (by decide) (q := 38) rfl (fun h35 => ?_) (fun h35 => absurd (nI_lt (a := 2) (b := 3) (by omega) (by omega)) h35)
    exact hx tl
  | succ m ih =>
    intro e a tl he hl hx
    refine z_iload dX0_listSnaps_32 rfl (q := 34) rfl ?_
    refine z_iconst (v := 2) dX0_listSnaps_34 rfl (q := 35) rfl ?_
    refine z_icmp_gt (tgt := 108) dX0_listSnaps_35 (by decide) (q := 38) rfl (fun h35 => absurd h35 (fun h9 => absurd (nI_le (a := e) (b := 2) (by omega) (by omega)) (Int32.not_le.mpr h9))) (fun h35 => ?_)
    refine z_iload_n (i := 3) dX0_listSnaps_38 rfl rfl (q := 39) rfl ?_
    refine z_iload_n (i := 1) dX0_listSnaps_39 rfl rfl (q := 40) rfl ?_
    refine z_icmp_eq (tgt := 108) dX0_listSnaps_40 (by decide) (q := 43) rfl (fun h40 => absurd ((nI_eq (by omega) (by omega)).mp h40) hik) (fun h40 => ?_)
    refine z_iconst (v := 2) dX0_listSnaps_43 rfl (q := 44) rfl ?_
    refine z_aload_n (i := 0) dX0_listSnaps_44 rfl rfl (q := 45) rfl ?_
    refine z_get dX0_listSnaps_45 fX0_14 (wo_down _ _ _) rfl (q := 48) rfl ?_
    refine z_iload_n (i := 3) dX0_listSnaps_48 rfl rfl (q := 49) rfl ?_
    refine z_callVF (As := [_]) dX0_listSnaps_49 kX0_34 (c_X4_get  (wr_2 _ _ _) (by omega) (by decide)) (wr_2 _ _ _).1 rfl rfl (zle rfl) ⟨zle rfl, zle rfl⟩ ⟨zle rfl, zle rfl⟩ (q := 52) rfl ?_
    refine z_imul dX0_listSnaps_52 (q := 53) rfl ?_
    refine z_iload dX0_listSnaps_53 rfl (q := 55) rfl ?_
    refine z_aload_n (i := 0) dX0_listSnaps_55 rfl rfl (q := 56) rfl ?_
    refine z_get dX0_listSnaps_56 fX0_20 (wo_down _ _ _) rfl (q := 59) rfl ?_
    refine z_iload_n (i := 3) dX0_listSnaps_59 rfl rfl (q := 60) rfl ?_
    refine z_callVF (As := [_]) dX0_listSnaps_60 kX0_34 (c_X4_get  (wr_3 _ _ _) (by omega) (by decide)) (wr_3 _ _ _).1 rfl rfl (zle rfl) ⟨zle rfl, zle rfl⟩ ⟨zle rfl, zle rfl⟩ (q := 63) rfl ?_
    refine z_aload_n (i := 0) dX0_listSnaps_63 rfl rfl (q := 64) rfl ?_
    refine z_get dX0_listSnaps_64 fX0_20 (wo_down _ _ _) rfl (q := 67) rfl ?_
    refine z_iload_n (i := 1) dX0_listSnaps_67 rfl rfl (q := 68) rfl ?_
    refine z_callVF (As := [_]) dX0_listSnaps_68 kX0_34 (c_X4_get  (wr_3 _ _ _) (by omega) (by decide)) (wr_3 _ _ _).1 rfl rfl (zle rfl) ⟨zle rfl, zle rfl⟩ ⟨zle rfl, zle rfl⟩ (q := 71) rfl ?_
    refine z_isub dX0_listSnaps_71 (q := 72) rfl ?_
    refine z_imul dX0_listSnaps_72 (q := 73) rfl ?_
    refine z_iadd dX0_listSnaps_73 (q := 74) rfl ?_
    refine z_istore dX0_listSnaps_74 (zle rfl) rfl (q := 76) rfl ?_
    refine z_iload dX0_listSnaps_76 rfl (q := 78) rfl ?_
    refine z_iconst (v := 2) dX0_listSnaps_78 rfl (q := 79) rfl ?_
    refine z_irem dX0_listSnaps_79 (by decide) (q := 80) rfl ?_
    refine z_if_ne (tgt := 102) dX0_listSnaps_80 (by decide) (q := 83) rfl (fun h80 => ?_) (fun h80 => ?_)
    · refine z_iinc dX0_listSnaps_102 rfl rfl (zle rfl) rfl (q := 105) rfl ?_
      refine z_goto (tgt := 32) dX0_listSnaps_105 (by decide) ?_
      refine Z.eql (zl2 := [some (.ref 6), some (.int (nI k)), some (.ref 73), some (.int (nI i)), some (.int (nI (e + 1))), some (.int (2 * (X.2.1 2) i + nI e * ((X.2.1 3) i - (X.2.1 3) k)))]) (by first | (rw [← nI_1 e]; done) | (rw [← nI_1 e]; rfl)) ?_
      rw [show snE ((X.2.1 2) i) ((X.2.1 3) i) ((X.2.1 3) k) e (m + 1) a = snE ((X.2.1 2) i) ((X.2.1 3) i) ((X.2.1 3) k) (e + 1) m a from congrArg _ (if_neg h80)] at hx
      exact ih (e + 1) a _ (by omega) (by omega) hx
    · refine z_aload_n (i := 2) dX0_listSnaps_83 rfl rfl (q := 84) rfl ?_
      refine z_iload dX0_listSnaps_84 rfl (q := 86) rfl ?_
      refine z_iconst (v := 2) dX0_listSnaps_86 rfl (q := 87) rfl ?_
      refine z_idiv dX0_listSnaps_87 (by decide) (q := 88) rfl ?_
      refine z_callVF (As := [_]) dX0_listSnaps_88 kX0_54 (c_X4_contains (k := a.2) (wr_32 _ _ _) rfl (by omega) (by decide)) (wr_32 _ _ _).1 rfl rfl (zle rfl) ⟨zle rfl, zle rfl⟩ ⟨zle rfl, zle rfl⟩ (q := 91) rfl ?_
      refine z_if_ne (tgt := 102) dX0_listSnaps_91 (by decide) (q := 94) rfl (fun h91 => ?_) (fun h91 => ?_)
      · refine z_iinc dX0_listSnaps_102 rfl rfl (zle rfl) rfl (q := 105) rfl ?_
        refine z_goto (tgt := 32) dX0_listSnaps_105 (by decide) ?_
        refine Z.eql (zl2 := [some (.ref 6), some (.int (nI k)), some (.ref 73), some (.int (nI i)), some (.int (nI (e + 1))), some (.int (2 * (X.2.1 2) i + nI e * ((X.2.1 3) i - (X.2.1 3) k)))]) (by first | (rw [← nI_1 e]; done) | (rw [← nI_1 e]; rfl)) ?_
        rw [show snE ((X.2.1 2) i) ((X.2.1 3) i) ((X.2.1 3) k) e (m + 1) a = snE ((X.2.1 2) i) ((X.2.1 3) i) ((X.2.1 3) k) (e + 1) m a from congrArg _ ((if_pos h80).trans (if_pos (show rany (fun j => a.1 j = (2 * (X.2.1 2) i + nI e * ((X.2.1 3) i - (X.2.1 3) k)) / 2) 0 a.2 = true from zB_1 h91)))] at hx
        exact ih (e + 1) a _ (by omega) (by omega) hx
      · have h91 := h91
        refine z_aload_n (i := 2) dX0_listSnaps_94 rfl rfl (q := 95) rfl ?_
        refine z_iload dX0_listSnaps_95 rfl (q := 97) rfl ?_
        refine z_iconst (v := 2) dX0_listSnaps_97 rfl (q := 98) rfl ?_
        refine z_idiv dX0_listSnaps_98 (by decide) (q := 99) rfl ?_
        refine z_callVF (As := [_]) dX0_listSnaps_99 kX0_51 (c_X4_insert' (k := a.2) (wr_32 _ _ _) rfl (by omega) (by decide)) (wr_32 _ _ _).1 rfl rfl (zle rfl) ⟨zle rfl, zle rfl⟩ ⟨zle rfl, zle rfl⟩ (q := 102) rfl ?_
        refine Z.eqw (wp_32 _ _ _ _ _) ?_
        rw [xrow_xrow]
        refine z_iinc dX0_listSnaps_102 rfl rfl (zle rfl) rfl (q := 105) rfl ?_
        refine z_goto (tgt := 32) dX0_listSnaps_105 (by decide) ?_
        refine Z.eql (zl2 := [some (.ref 6), some (.int (nI k)), some (.ref 73), some (.int (nI i)), some (.int (nI (e + 1))), some (.int (2 * (X.2.1 2) i + nI e * ((X.2.1 3) i - (X.2.1 3) k)))]) (by first | (rw [← nI_1 e]; done) | (rw [← nI_1 e]; rfl)) ?_
        rw [show snE ((X.2.1 2) i) ((X.2.1 3) i) ((X.2.1 3) k) e (m + 1) a = snE ((X.2.1 2) i) ((X.2.1 3) i) ((X.2.1 3) k) (e + 1) m (rins a.1 ((2 * (X.2.1 2) i + nI e * ((X.2.1 3) i - (X.2.1 3) k)) / 2) a.2, a.2 + 1) from congrArg _ ((if_pos h80).trans (if_neg (show ¬ rany (fun j => a.1 j = (2 * (X.2.1 2) i + nI e * ((X.2.1 3) i - (X.2.1 3) k)) / 2) 0 a.2 = true from zB_0 h91)))] at hx
        exact ih (e + 1) (rins a.1 ((2 * (X.2.1 2) i + nI e * ((X.2.1 3) i - (X.2.1 3) k)) / 2) a.2, a.2 + 1) _ (by omega) (by show a.2 + 1 + m ≤ 10; omega) hx
set_option maxRecDepth 100000 in
set_option maxHeartbeats 4000000 in
theorem z_X0_listSnaps_18_1_32 {n k : Nat} (hn : X.1 2 = nI n) (h4 : n ≤ 4) (hk : k < n) : ∀ (m i : Nat) (a : rst) (e4 tl : Option Value), i + m = n → a.2 + (if k < i then 1 else 0) * 3 ≤ 1 + 3 * i → Z G mX0_listSnaps (zrm 1 0 0) 0 0 18 [some (.ref 6), some (.int (nI k)), some (.ref 73), some (.int (nI i)), e4, tl] [] (zw (xrow X 32 a.1 (nI a.2)) Y O) (fun r w2 => r = .inl none ∧ w2 = zw (xrow X 32 (snO (X.2.1 2) (X.2.1 3) k i m a).1 (nI (snO (X.2.1 2) (X.2.1 3) k i m a).2)) Y O) := by
  intro m
  induction m with
  | zero =>
    intro i a e4 tl hi hl
    refine z_iload_n (i := 3) dX0_listSnaps_18 rfl rfl (q := 19) rfl ?_
    refine z_aload_n (i := 0) dX0_listSnaps_19 rfl rfl (q := 20) rfl ?_
    refine z_get dX0_listSnaps_20 fX0_14 (wo_down _ _ _) rfl (q := 23) rfl ?_
    refine z_callVF (As := []) dX0_listSnaps_23 kX0_27 (c_X4_length (wr_2 _ _ _)) (wr_2 _ _ _).1 rfl rfl (zle rfl) ⟨zle rfl, zle rfl⟩ ⟨zle rfl, zle rfl⟩ (q := 26) rfl ?_
    rw [show (xrow X 32 a.1 (nI a.2)).1 2 = nI n from hn]
    refine z_icmp_ge (tgt := 114) dX0_listSnaps_26 (by decide) (q := 29) rfl (fun h26 => ?_) (fun h26 => absurd (zge_t (by omega)) h26)
    exact z_vret dX0_listSnaps_114 rfl ⟨zle rfl, zle rfl⟩ ⟨rfl, rfl⟩
  | succ m ih =>
    intro i a e4 tl hi hl
    have hl2 : a.2 ≤ 1 + 3 * i := by omega
    have hl10 : ¬ i = k → a.2 + 3 ≤ 10 := fun h => by
      rcases Nat.lt_or_ge k i with h9 | h9
      · rw [if_pos h9] at hl; omega
      · omega
    refine z_iload_n (i := 3) dX0_listSnaps_18 rfl rfl (q := 19) rfl ?_
    refine z_aload_n (i := 0) dX0_listSnaps_19 rfl rfl (q := 20) rfl ?_
    refine z_get dX0_listSnaps_20 fX0_14 (wo_down _ _ _) rfl (q := 23) rfl ?_
    refine z_callVF (As := []) dX0_listSnaps_23 kX0_27 (c_X4_length (wr_2 _ _ _)) (wr_2 _ _ _).1 rfl rfl (zle rfl) ⟨zle rfl, zle rfl⟩ ⟨zle rfl, zle rfl⟩ (q := 26) rfl ?_
    rw [show (xrow X 32 a.1 (nI a.2)).1 2 = nI n from hn]
    refine z_icmp_ge (tgt := 114) dX0_listSnaps_26 (by decide) (q := 29) rfl (fun h26 => absurd h26 (zge_f (by omega) (by omega))) (fun h26 => ?_)
    refine z_iconst (v := 0) dX0_listSnaps_29 rfl (q := 30) rfl ?_
    refine z_istore dX0_listSnaps_30 (zle rfl) rfl (q := 32) rfl ?_
    rcases Decidable.em (i = k) with hik | hik
    · -- its own: nothing
      refine z_iload dX0_listSnaps_32 rfl (q := 34) rfl ?_
      refine z_iconst (v := 2) dX0_listSnaps_34 rfl (q := 35) rfl ?_
      refine z_icmp_gt (tgt := 108) dX0_listSnaps_35 (by decide) (q := 38) rfl (fun h35 => absurd h35 (by decide)) (fun h35 => ?_)
      refine z_iload_n (i := 3) dX0_listSnaps_38 rfl rfl (q := 39) rfl ?_
      refine z_iload_n (i := 1) dX0_listSnaps_39 rfl rfl (q := 40) rfl ?_
      refine z_icmp_eq (tgt := 108) dX0_listSnaps_40 (by decide) (q := 43) rfl (fun h40 => ?_) (fun h40 => absurd (by rw [hik]) h40)
      refine z_iinc dX0_listSnaps_108 rfl rfl (zle rfl) rfl (q := 111) rfl ?_
      refine z_goto (tgt := 18) dX0_listSnaps_111 (by decide) ?_
      refine Z.eql (zl2 := [some (.ref 6), some (.int (nI k)), some (.ref 73), some (.int (nI (i + 1))), some (.int 0), tl]) (by first | (rw [← nI_1 i]; done) | (rw [← nI_1 i]; rfl)) ?_
      rw [show snO (X.2.1 2) (X.2.1 3) k i (m + 1) a = snO (X.2.1 2) (X.2.1 3) k (i + 1) m a from congrArg _ (if_pos hik)]
      exact ih (i + 1) a _ _ (by omega) (by rw [if_pos (show k < i + 1 by omega)]; rw [if_neg (show ¬ k < i by omega)] at hl; omega)
    · refine z_X0_listSnaps_32_1_32 hn h4 hk (by omega) hik 3 0 a _ (by omega) (hl10 hik) (fun tl => ?_)
      refine z_iinc dX0_listSnaps_108 rfl rfl (zle rfl) rfl (q := 111) rfl ?_
      refine z_goto (tgt := 18) dX0_listSnaps_111 (by decide) ?_
      refine Z.eql (zl2 := [some (.ref 6), some (.int (nI k)), some (.ref 73), some (.int (nI (i + 1))), some (.int (nI 3)), tl]) (by first | (rw [← nI_1 i]; done) | (rw [← nI_1 i]; rfl)) ?_
      rw [show snO (X.2.1 2) (X.2.1 3) k i (m + 1) a = snO (X.2.1 2) (X.2.1 3) k (i + 1) m (snE ((X.2.1 2) i) ((X.2.1 3) i) ((X.2.1 3) k) 0 3 a) from congrArg _ (if_neg hik)]
      have hlen := snE_len ((X.2.1 2) i) ((X.2.1 3) i) ((X.2.1 3) k) 3 0 a
      exact ih (i + 1) _ _ _ (by omega) (by split at hl <;> split <;> omega)
set_option maxRecDepth 100000 in
set_option maxHeartbeats 4000000 in
theorem c_X0_listSnaps_1_32 {n k : Nat} (hn : X.1 2 = nI n) (h4 : n ≤ 4) (hk : k < n) : ZM G mX0_listSnaps 1 0 0 [.ref 6, .int (nI k), .ref 73] (zw X Y O) (zEq none (zw (xrow X 32 (snAll (X.2.1 32) (X.2.1 2) (X.2.1 3) n k).1 (nI (snAll (X.2.1 32) (X.2.1 2) (X.2.1 3) n k).2)) Y O)) := by
  refine ZM.go pX0 rfl rfl (zle rfl) (zl := [some (.ref 6), some (.int (nI k)), some (.ref 73), none, none, none]) rfl ?_
  refine z_aload_n (i := 2) dX0_listSnaps_0 rfl rfl (q := 1) rfl ?_
  refine z_callVF (As := []) dX0_listSnaps_1 kX0_48 (c_X4_clear (wr_32 _ _ _)) (wr_32 _ _ _).1 rfl rfl (zle rfl) ⟨zle rfl, zle rfl⟩ ⟨zle rfl, zle rfl⟩ (q := 4) rfl ?_
  refine Z.eqw (wp_32 _ _ _ _ _) ?_
  refine z_aload_n (i := 2) dX0_listSnaps_4 rfl rfl (q := 5) rfl ?_
  refine z_aload_n (i := 0) dX0_listSnaps_5 rfl rfl (q := 6) rfl ?_
  refine z_get dX0_listSnaps_6 fX0_14 (wo_down _ _ _) rfl (q := 9) rfl ?_
  refine z_iload_n (i := 1) dX0_listSnaps_9 rfl rfl (q := 10) rfl ?_
  refine z_callVF (As := [_]) dX0_listSnaps_10 kX0_34 (c_X4_get  (wr_2 _ _ _) (by omega) (by decide)) (wr_2 _ _ _).1 rfl rfl (zle rfl) ⟨zle rfl, zle rfl⟩ ⟨zle rfl, zle rfl⟩ (q := 13) rfl ?_
  rw [show (xrow X 32 (X.2.1 32) 0).2.1 2 k = X.2.1 2 k from rfl]
  refine z_callVF (As := [_]) dX0_listSnaps_13 kX0_51 (c_X4_insert' (k := 0) (wr_32 _ _ _) (xrow_l X 32 _ _) (by omega) (by decide)) (wr_32 _ _ _).1 rfl rfl (zle rfl) ⟨zle rfl, zle rfl⟩ ⟨zle rfl, zle rfl⟩ (q := 16) rfl ?_
  refine Z.eqw (wp_32 _ _ _ _ _) ?_
  rw [xrow_xrow]
  refine z_iconst (v := 0) dX0_listSnaps_16 rfl (q := 17) rfl ?_
  refine z_istore_n (i := 3) dX0_listSnaps_17 rfl (zle rfl) rfl (q := 18) rfl ?_
  refine (z_X0_listSnaps_18_1_32 hn h4 hk n 0 (rins (X.2.1 32) (X.2.1 2 k) 0, 1) _ _ (by omega) (by simp))
set_option maxRecDepth 100000 in
set_option maxHeartbeats 4000000 in
theorem z_X0_listSnaps_32_1_13 {n k : Nat} (hn : X.1 2 = nI n) (h4 : n ≤ 4) (hk : k < n) {i : Nat} {P : zRes → zWorld → Prop} (hi : i < n) (hik : ¬ i = k) : ∀ (m e : Nat) (a : rst) (tl : Option Value), e + m = 3 → a.2 + m ≤ 10 → (∀ tl, Z G mX0_listSnaps (zrm 1 0 0) 0 0 108 [some (.ref 6), some (.int (nI k)), some (.ref 32), some (.int (nI i)), some (.int (nI 3)), tl] [] (zw (xrow X 13 (snE ((X.2.1 2) i) ((X.2.1 3) i) ((X.2.1 3) k) e m a).1 (nI (snE ((X.2.1 2) i) ((X.2.1 3) i) ((X.2.1 3) k) e m a).2)) Y O) P) → Z G mX0_listSnaps (zrm 1 0 0) 0 0 32 [some (.ref 6), some (.int (nI k)), some (.ref 32), some (.int (nI i)), some (.int (nI e)), tl] [] (zw (xrow X 13 a.1 (nI a.2)) Y O) P := by
  intro m
  induction m with
  | zero =>
    intro e a tl he hl hx
    have hin : e = 3 := by omega
    subst hin
    simp only [snE] at hx
    refine z_iload dX0_listSnaps_32 rfl (q := 34) rfl ?_
    refine z_iconst (v := 2) dX0_listSnaps_34 rfl (q := 35) rfl ?_
    refine z_icmp_gt (tgt := 108) dX0_listSnaps_35 (by decide) (q := 38) rfl (fun h35 => ?_) (fun h35 => absurd (nI_lt (a := 2) (b := 3) (by omega) (by omega)) h35)
    exact hx tl
  | succ m ih =>
    intro e a tl he hl hx
    refine z_iload dX0_listSnaps_32 rfl (q := 34) rfl ?_
    refine z_iconst (v := 2) dX0_listSnaps_34 rfl (q := 35) rfl ?_
    refine z_icmp_gt (tgt := 108) dX0_listSnaps_35 (by decide) (q := 38) rfl (fun h35 => absurd h35 (fun h9 => absurd (nI_le (a := e) (b := 2) (by omega) (by omega)) (Int32.not_le.mpr h9))) (fun h35 => ?_)
    refine z_iload_n (i := 3) dX0_listSnaps_38 rfl rfl (q := 39) rfl ?_
    refine z_iload_n (i := 1) dX0_listSnaps_39 rfl rfl (q := 40) rfl ?_
    refine z_icmp_eq (tgt := 108) dX0_listSnaps_40 (by decide) (q := 43) rfl (fun h40 => absurd ((nI_eq (by omega) (by omega)).mp h40) hik) (fun h40 => ?_)
    refine z_iconst (v := 2) dX0_listSnaps_43 rfl (q := 44) rfl ?_
    refine z_aload_n (i := 0) dX0_listSnaps_44 rfl rfl (q := 45) rfl ?_
    refine z_get dX0_listSnaps_45 fX0_14 (wo_down _ _ _) rfl (q := 48) rfl ?_
    refine z_iload_n (i := 3) dX0_listSnaps_48 rfl rfl (q := 49) rfl ?_
    refine z_callVF (As := [_]) dX0_listSnaps_49 kX0_34 (c_X4_get  (wr_2 _ _ _) (by omega) (by decide)) (wr_2 _ _ _).1 rfl rfl (zle rfl) ⟨zle rfl, zle rfl⟩ ⟨zle rfl, zle rfl⟩ (q := 52) rfl ?_
    refine z_imul dX0_listSnaps_52 (q := 53) rfl ?_
    refine z_iload dX0_listSnaps_53 rfl (q := 55) rfl ?_
    refine z_aload_n (i := 0) dX0_listSnaps_55 rfl rfl (q := 56) rfl ?_
    refine z_get dX0_listSnaps_56 fX0_20 (wo_down _ _ _) rfl (q := 59) rfl ?_
    refine z_iload_n (i := 3) dX0_listSnaps_59 rfl rfl (q := 60) rfl ?_
    refine z_callVF (As := [_]) dX0_listSnaps_60 kX0_34 (c_X4_get  (wr_3 _ _ _) (by omega) (by decide)) (wr_3 _ _ _).1 rfl rfl (zle rfl) ⟨zle rfl, zle rfl⟩ ⟨zle rfl, zle rfl⟩ (q := 63) rfl ?_
    refine z_aload_n (i := 0) dX0_listSnaps_63 rfl rfl (q := 64) rfl ?_
    refine z_get dX0_listSnaps_64 fX0_20 (wo_down _ _ _) rfl (q := 67) rfl ?_
    refine z_iload_n (i := 1) dX0_listSnaps_67 rfl rfl (q := 68) rfl ?_
    refine z_callVF (As := [_]) dX0_listSnaps_68 kX0_34 (c_X4_get  (wr_3 _ _ _) (by omega) (by decide)) (wr_3 _ _ _).1 rfl rfl (zle rfl) ⟨zle rfl, zle rfl⟩ ⟨zle rfl, zle rfl⟩ (q := 71) rfl ?_
    refine z_isub dX0_listSnaps_71 (q := 72) rfl ?_
    refine z_imul dX0_listSnaps_72 (q := 73) rfl ?_
    refine z_iadd dX0_listSnaps_73 (q := 74) rfl ?_
    refine z_istore dX0_listSnaps_74 (zle rfl) rfl (q := 76) rfl ?_
    refine z_iload dX0_listSnaps_76 rfl (q := 78) rfl ?_
    refine z_iconst (v := 2) dX0_listSnaps_78 rfl (q := 79) rfl ?_
    refine z_irem dX0_listSnaps_79 (by decide) (q := 80) rfl ?_
    refine z_if_ne (tgt := 102) dX0_listSnaps_80 (by decide) (q := 83) rfl (fun h80 => ?_) (fun h80 => ?_)
    · refine z_iinc dX0_listSnaps_102 rfl rfl (zle rfl) rfl (q := 105) rfl ?_
      refine z_goto (tgt := 32) dX0_listSnaps_105 (by decide) ?_
      refine Z.eql (zl2 := [some (.ref 6), some (.int (nI k)), some (.ref 32), some (.int (nI i)), some (.int (nI (e + 1))), some (.int (2 * (X.2.1 2) i + nI e * ((X.2.1 3) i - (X.2.1 3) k)))]) (by first | (rw [← nI_1 e]; done) | (rw [← nI_1 e]; rfl)) ?_
      rw [show snE ((X.2.1 2) i) ((X.2.1 3) i) ((X.2.1 3) k) e (m + 1) a = snE ((X.2.1 2) i) ((X.2.1 3) i) ((X.2.1 3) k) (e + 1) m a from congrArg _ (if_neg h80)] at hx
      exact ih (e + 1) a _ (by omega) (by omega) hx
    · refine z_aload_n (i := 2) dX0_listSnaps_83 rfl rfl (q := 84) rfl ?_
      refine z_iload dX0_listSnaps_84 rfl (q := 86) rfl ?_
      refine z_iconst (v := 2) dX0_listSnaps_86 rfl (q := 87) rfl ?_
      refine z_idiv dX0_listSnaps_87 (by decide) (q := 88) rfl ?_
      refine z_callVF (As := [_]) dX0_listSnaps_88 kX0_54 (c_X4_contains (k := a.2) (wr_13 _ _ _) rfl (by omega) (by decide)) (wr_13 _ _ _).1 rfl rfl (zle rfl) ⟨zle rfl, zle rfl⟩ ⟨zle rfl, zle rfl⟩ (q := 91) rfl ?_
      refine z_if_ne (tgt := 102) dX0_listSnaps_91 (by decide) (q := 94) rfl (fun h91 => ?_) (fun h91 => ?_)
      · refine z_iinc dX0_listSnaps_102 rfl rfl (zle rfl) rfl (q := 105) rfl ?_
        refine z_goto (tgt := 32) dX0_listSnaps_105 (by decide) ?_
        refine Z.eql (zl2 := [some (.ref 6), some (.int (nI k)), some (.ref 32), some (.int (nI i)), some (.int (nI (e + 1))), some (.int (2 * (X.2.1 2) i + nI e * ((X.2.1 3) i - (X.2.1 3) k)))]) (by first | (rw [← nI_1 e]; done) | (rw [← nI_1 e]; rfl)) ?_
        rw [show snE ((X.2.1 2) i) ((X.2.1 3) i) ((X.2.1 3) k) e (m + 1) a = snE ((X.2.1 2) i) ((X.2.1 3) i) ((X.2.1 3) k) (e + 1) m a from congrArg _ ((if_pos h80).trans (if_pos (show rany (fun j => a.1 j = (2 * (X.2.1 2) i + nI e * ((X.2.1 3) i - (X.2.1 3) k)) / 2) 0 a.2 = true from zB_1 h91)))] at hx
        exact ih (e + 1) a _ (by omega) (by omega) hx
      · have h91 := h91
        refine z_aload_n (i := 2) dX0_listSnaps_94 rfl rfl (q := 95) rfl ?_
        refine z_iload dX0_listSnaps_95 rfl (q := 97) rfl ?_
        refine z_iconst (v := 2) dX0_listSnaps_97 rfl (q := 98) rfl ?_
        refine z_idiv dX0_listSnaps_98 (by decide) (q := 99) rfl ?_
        refine z_callVF (As := [_]) dX0_listSnaps_99 kX0_51 (c_X4_insert' (k := a.2) (wr_13 _ _ _) rfl (by omega) (by decide)) (wr_13 _ _ _).1 rfl rfl (zle rfl) ⟨zle rfl, zle rfl⟩ ⟨zle rfl, zle rfl⟩ (q := 102) rfl ?_
        refine Z.eqw (wp_13 _ _ _ _ _) ?_
        rw [xrow_xrow]
        refine z_iinc dX0_listSnaps_102 rfl rfl (zle rfl) rfl (q := 105) rfl ?_
        refine z_goto (tgt := 32) dX0_listSnaps_105 (by decide) ?_
        refine Z.eql (zl2 := [some (.ref 6), some (.int (nI k)), some (.ref 32), some (.int (nI i)), some (.int (nI (e + 1))), some (.int (2 * (X.2.1 2) i + nI e * ((X.2.1 3) i - (X.2.1 3) k)))]) (by first | (rw [← nI_1 e]; done) | (rw [← nI_1 e]; rfl)) ?_
        rw [show snE ((X.2.1 2) i) ((X.2.1 3) i) ((X.2.1 3) k) e (m + 1) a = snE ((X.2.1 2) i) ((X.2.1 3) i) ((X.2.1 3) k) (e + 1) m (rins a.1 ((2 * (X.2.1 2) i + nI e * ((X.2.1 3) i - (X.2.1 3) k)) / 2) a.2, a.2 + 1) from congrArg _ ((if_pos h80).trans (if_neg (show ¬ rany (fun j => a.1 j = (2 * (X.2.1 2) i + nI e * ((X.2.1 3) i - (X.2.1 3) k)) / 2) 0 a.2 = true from zB_0 h91)))] at hx
        exact ih (e + 1) (rins a.1 ((2 * (X.2.1 2) i + nI e * ((X.2.1 3) i - (X.2.1 3) k)) / 2) a.2, a.2 + 1) _ (by omega) (by show a.2 + 1 + m ≤ 10; omega) hx
set_option maxRecDepth 100000 in
set_option maxHeartbeats 4000000 in
theorem z_X0_listSnaps_18_1_13 {n k : Nat} (hn : X.1 2 = nI n) (h4 : n ≤ 4) (hk : k < n) : ∀ (m i : Nat) (a : rst) (e4 tl : Option Value), i + m = n → a.2 + (if k < i then 1 else 0) * 3 ≤ 1 + 3 * i → Z G mX0_listSnaps (zrm 1 0 0) 0 0 18 [some (.ref 6), some (.int (nI k)), some (.ref 32), some (.int (nI i)), e4, tl] [] (zw (xrow X 13 a.1 (nI a.2)) Y O) (fun r w2 => r = .inl none ∧ w2 = zw (xrow X 13 (snO (X.2.1 2) (X.2.1 3) k i m a).1 (nI (snO (X.2.1 2) (X.2.1 3) k i m a).2)) Y O) := by
  intro m
  induction m with
  | zero =>
    intro i a e4 tl hi hl
    refine z_iload_n (i := 3) dX0_listSnaps_18 rfl rfl (q := 19) rfl ?_
    refine z_aload_n (i := 0) dX0_listSnaps_19 rfl rfl (q := 20) rfl ?_
    refine z_get dX0_listSnaps_20 fX0_14 (wo_down _ _ _) rfl (q := 23) rfl ?_
    refine z_callVF (As := []) dX0_listSnaps_23 kX0_27 (c_X4_length (wr_2 _ _ _)) (wr_2 _ _ _).1 rfl rfl (zle rfl) ⟨zle rfl, zle rfl⟩ ⟨zle rfl, zle rfl⟩ (q := 26) rfl ?_
    rw [show (xrow X 13 a.1 (nI a.2)).1 2 = nI n from hn]
    refine z_icmp_ge (tgt := 114) dX0_listSnaps_26 (by decide) (q := 29) rfl (fun h26 => ?_) (fun h26 => absurd (zge_t (by omega)) h26)
    exact z_vret dX0_listSnaps_114 rfl ⟨zle rfl, zle rfl⟩ ⟨rfl, rfl⟩
  | succ m ih =>
    intro i a e4 tl hi hl
    have hl2 : a.2 ≤ 1 + 3 * i := by omega
    have hl10 : ¬ i = k → a.2 + 3 ≤ 10 := fun h => by
      rcases Nat.lt_or_ge k i with h9 | h9
      · rw [if_pos h9] at hl; omega
      · omega
    refine z_iload_n (i := 3) dX0_listSnaps_18 rfl rfl (q := 19) rfl ?_
    refine z_aload_n (i := 0) dX0_listSnaps_19 rfl rfl (q := 20) rfl ?_
    refine z_get dX0_listSnaps_20 fX0_14 (wo_down _ _ _) rfl (q := 23) rfl ?_
    refine z_callVF (As := []) dX0_listSnaps_23 kX0_27 (c_X4_length (wr_2 _ _ _)) (wr_2 _ _ _).1 rfl rfl (zle rfl) ⟨zle rfl, zle rfl⟩ ⟨zle rfl, zle rfl⟩ (q := 26) rfl ?_
    rw [show (xrow X 13 a.1 (nI a.2)).1 2 = nI n from hn]
    refine z_icmp_ge (tgt := 114) dX0_listSnaps_26 (by decide) (q := 29) rfl (fun h26 => absurd h26 (zge_f (by omega) (by omega))) (fun h26 => ?_)
    refine z_iconst (v := 0) dX0_listSnaps_29 rfl (q := 30) rfl ?_
    refine z_istore dX0_listSnaps_30 (zle rfl) rfl (q := 32) rfl ?_
    rcases Decidable.em (i = k) with hik | hik
    · -- its own: nothing
      refine z_iload dX0_listSnaps_32 rfl (q := 34) rfl ?_
      refine z_iconst (v := 2) dX0_listSnaps_34 rfl (q := 35) rfl ?_
      refine z_icmp_gt (tgt := 108) dX0_listSnaps_35 (by decide) (q := 38) rfl (fun h35 => absurd h35 (by decide)) (fun h35 => ?_)
      refine z_iload_n (i := 3) dX0_listSnaps_38 rfl rfl (q := 39) rfl ?_
      refine z_iload_n (i := 1) dX0_listSnaps_39 rfl rfl (q := 40) rfl ?_
      refine z_icmp_eq (tgt := 108) dX0_listSnaps_40 (by decide) (q := 43) rfl (fun h40 => ?_) (fun h40 => absurd (by rw [hik]) h40)
      refine z_iinc dX0_listSnaps_108 rfl rfl (zle rfl) rfl (q := 111) rfl ?_
      refine z_goto (tgt := 18) dX0_listSnaps_111 (by decide) ?_
      refine Z.eql (zl2 := [some (.ref 6), some (.int (nI k)), some (.ref 32), some (.int (nI (i + 1))), some (.int 0), tl]) (by first | (rw [← nI_1 i]; done) | (rw [← nI_1 i]; rfl)) ?_
      rw [show snO (X.2.1 2) (X.2.1 3) k i (m + 1) a = snO (X.2.1 2) (X.2.1 3) k (i + 1) m a from congrArg _ (if_pos hik)]
      exact ih (i + 1) a _ _ (by omega) (by rw [if_pos (show k < i + 1 by omega)]; rw [if_neg (show ¬ k < i by omega)] at hl; omega)
    · refine z_X0_listSnaps_32_1_13 hn h4 hk (by omega) hik 3 0 a _ (by omega) (hl10 hik) (fun tl => ?_)
      refine z_iinc dX0_listSnaps_108 rfl rfl (zle rfl) rfl (q := 111) rfl ?_
      refine z_goto (tgt := 18) dX0_listSnaps_111 (by decide) ?_
      refine Z.eql (zl2 := [some (.ref 6), some (.int (nI k)), some (.ref 32), some (.int (nI (i + 1))), some (.int (nI 3)), tl]) (by first | (rw [← nI_1 i]; done) | (rw [← nI_1 i]; rfl)) ?_
      rw [show snO (X.2.1 2) (X.2.1 3) k i (m + 1) a = snO (X.2.1 2) (X.2.1 3) k (i + 1) m (snE ((X.2.1 2) i) ((X.2.1 3) i) ((X.2.1 3) k) 0 3 a) from congrArg _ (if_neg hik)]
      have hlen := snE_len ((X.2.1 2) i) ((X.2.1 3) i) ((X.2.1 3) k) 3 0 a
      exact ih (i + 1) _ _ _ (by omega) (by split at hl <;> split <;> omega)
set_option maxRecDepth 100000 in
set_option maxHeartbeats 4000000 in
theorem c_X0_listSnaps_1_13 {n k : Nat} (hn : X.1 2 = nI n) (h4 : n ≤ 4) (hk : k < n) : ZM G mX0_listSnaps 1 0 0 [.ref 6, .int (nI k), .ref 32] (zw X Y O) (zEq none (zw (xrow X 13 (snAll (X.2.1 13) (X.2.1 2) (X.2.1 3) n k).1 (nI (snAll (X.2.1 13) (X.2.1 2) (X.2.1 3) n k).2)) Y O)) := by
  refine ZM.go pX0 rfl rfl (zle rfl) (zl := [some (.ref 6), some (.int (nI k)), some (.ref 32), none, none, none]) rfl ?_
  refine z_aload_n (i := 2) dX0_listSnaps_0 rfl rfl (q := 1) rfl ?_
  refine z_callVF (As := []) dX0_listSnaps_1 kX0_48 (c_X4_clear (wr_13 _ _ _)) (wr_13 _ _ _).1 rfl rfl (zle rfl) ⟨zle rfl, zle rfl⟩ ⟨zle rfl, zle rfl⟩ (q := 4) rfl ?_
  refine Z.eqw (wp_13 _ _ _ _ _) ?_
  refine z_aload_n (i := 2) dX0_listSnaps_4 rfl rfl (q := 5) rfl ?_
  refine z_aload_n (i := 0) dX0_listSnaps_5 rfl rfl (q := 6) rfl ?_
  refine z_get dX0_listSnaps_6 fX0_14 (wo_down _ _ _) rfl (q := 9) rfl ?_
  refine z_iload_n (i := 1) dX0_listSnaps_9 rfl rfl (q := 10) rfl ?_
  refine z_callVF (As := [_]) dX0_listSnaps_10 kX0_34 (c_X4_get  (wr_2 _ _ _) (by omega) (by decide)) (wr_2 _ _ _).1 rfl rfl (zle rfl) ⟨zle rfl, zle rfl⟩ ⟨zle rfl, zle rfl⟩ (q := 13) rfl ?_
  rw [show (xrow X 13 (X.2.1 13) 0).2.1 2 k = X.2.1 2 k from rfl]
  refine z_callVF (As := [_]) dX0_listSnaps_13 kX0_51 (c_X4_insert' (k := 0) (wr_13 _ _ _) (xrow_l X 13 _ _) (by omega) (by decide)) (wr_13 _ _ _).1 rfl rfl (zle rfl) ⟨zle rfl, zle rfl⟩ ⟨zle rfl, zle rfl⟩ (q := 16) rfl ?_
  refine Z.eqw (wp_13 _ _ _ _ _) ?_
  rw [xrow_xrow]
  refine z_iconst (v := 0) dX0_listSnaps_16 rfl (q := 17) rfl ?_
  refine z_istore_n (i := 3) dX0_listSnaps_17 rfl (zle rfl) rfl (q := 18) rfl ?_
  refine (z_X0_listSnaps_18_1_13 hn h4 hk n 0 (rins (X.2.1 13) (X.2.1 2 k) 0, 1) _ _ (by omega) (by simp))
end
