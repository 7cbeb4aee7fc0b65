section
variable {G : zG} {X : zX} {Y : zY} {O : zO}
set_option maxRecDepth 100000 in
set_option maxHeartbeats 4000000 in
def sbf (z : Nat → Nat) : Nat → Nat
  | 0 => 0
  | p + 1 => sbf z p + z p
/- the rows of the even search as loaded up to the place i -/
set_option maxRecDepth 100000 in
set_option maxHeartbeats 4000000 in
def evI (X : zX) (t n : Nat) (o : Nat → Nat) (i : Nat) (X1 : zX) : Prop := X1.1 25 = nI n ∧ (∀ p, p < n → X1.2.1 25 p = nI (o p)) ∧ X1.1 26 = nI i ∧ X1.1 27 = nI i ∧ X1.1 28 = nI i ∧ ∀ p, p < i → X1.2.1 26 p = nI (sN X t (o p)) ∧ X1.2.1 27 p = nI (sbf (fun q => zN X t (o q)) p) ∧ X1.2.1 28 p = X.2.1 4 (o p)
set_option maxRecDepth 100000 in
set_option maxHeartbeats 4000000 in
theorem evI_add {t n i : Nat} {o : Nat → Nat} {X1 : zX} (h : evI X t n o i X1) : evI X t n o (i + 1) (xrow (xrow (xrow X1 26 (upd (X1.2.1 26) i (nI (sN X t (o i)))) (nI (i + 1))) 27 (upd (X1.2.1 27) i (nI (sbf (fun q => zN X t (o q)) i))) (nI (i + 1))) 28 (upd (X1.2.1 28) i (X.2.1 4 (o i))) (nI (i + 1))) := by
  obtain ⟨h1, h2, h3, h4, h5, h6⟩ := h
  refine ⟨h1, h2, rfl, rfl, rfl, fun p hp => ?_⟩
  show upd (X1.2.1 26) i (nI (sN X t (o i))) p = _ ∧ upd (X1.2.1 27) i (nI (sbf (fun q => zN X t (o q)) i)) p = _ ∧ upd (X1.2.1 28) i (X.2.1 4 (o i)) p = _
  rcases Nat.lt_or_ge p i with h7 | h7
  · obtain ⟨g1, g2, g3⟩ := h6 p h7
    exact ⟨(if_neg (by omega)).trans g1, (if_neg (by omega)).trans g2, (if_neg (by omega)).trans g3⟩
  · rw [show p = i by omega]
    exact ⟨if_pos rfl, if_pos rfl, if_pos rfl⟩
/- all but the rows of the even search and its numbers -/
set_option maxRecDepth 100000 in
set_option maxHeartbeats 4000000 in
def ke (X X2 : zX) : Prop := (∀ r, ¬ (25 ≤ r ∧ r ≤ 29) → X2.1 r = X.1 r ∧ X2.2.1 r = X.2.1 r) ∧ X2.2.2.2 = X.2.2.2
set_option maxRecDepth 100000 in
set_option maxHeartbeats 4000000 in
theorem ke_kp {X X2 : zX} {lo hi : Nat} (h : kp lo hi X X2) (h1 : 25 ≤ lo) (h2 : hi ≤ 29) : ke X X2 := ⟨fun r hr => h.1 r (by omega), congrArg Prod.snd h.2⟩
set_option maxRecDepth 100000 in
set_option maxHeartbeats 4000000 in
theorem ke_trans {X X2 X3 : zX} (h : ke X X2) (h2 : ke X2 X3) : ke X X3 :=
  ⟨fun r hr => ⟨(h2.1 r hr).1.trans (h.1 r hr).1, (h2.1 r hr).2.trans (h.1 r hr).2⟩, h2.2.trans h.2⟩
set_option maxRecDepth 100000 in
set_option maxHeartbeats 4000000 in
theorem ke_int {X X2 : zX} (h : ke X X2) (j : Nat) (v : Int32) : ke X (xint X2 j v) := h
set_option maxRecDepth 100000 in
set_option maxHeartbeats 4000000 in
theorem ke_0 {X X2 : zX} (h : ke X X2) : keep0 X X2 := ⟨fun r hr => h.1 r (by omega), h.2⟩
set_option maxRecDepth 100000 in
set_option maxHeartbeats 4000000 in
theorem z_X2_load_31_0 {n : Nat} {o : Nat → Nat} (h4 : n ≤ 4) (hs : ∀ j, j < n → isN (X.2.1 (2 * 0) j) 200 ∧ isN (X.2.1 (2 * 0 + 1) j) 200) (ho : ordR X 0 n o) : ∀ (m i : Nat) (X1 : zX) (e5 : Option Value), i + m = n → kp 25 28 X X1 → evI X 0 n o i X1 → Z G mX2_load (zrm 3 0 0) 0 0 31 [some (.ref 57), some (.ref 1), some (.ref 11), some (.int (nI (sbf (fun q => zN X 0 (o q)) i))), some (.int (nI i)), e5] [] (zw X1 Y O) (fun r w2 => r = .inl none ∧ ∃ (X2 : zX) (o : Nat → Nat), w2 = zw X2 Y O ∧ ke X X2 ∧ evI X 0 n o n X2 ∧ ordR X 0 n o ∧ X2.2.2.1 2 = zlim 0 - nI (sbf (fun q => zN X 0 (o q)) n)) := by
  intro m
  induction m with
  | zero =>
    intro i X1 e5 hi hk hev
    have hin : i = n := by omega
    rw [hin] at hev ⊢
    refine z_iload dX2_load_31 rfl (q := 33) rfl ?_
    refine z_aload_n (i := 0) dX2_load_33 rfl rfl (q := 34) rfl ?_
    refine z_get dX2_load_34 fX2_14 (wo_evenSearch _ _ _) rfl (q := 37) rfl ?_
    refine z_callVF (As := []) dX2_load_37 kX2_39 (c_X4_length (wr_25 _ _ _)) (wr_25 _ _ _).1 rfl rfl (zle rfl) ⟨zle rfl, zle rfl⟩ ⟨zle rfl, zle rfl⟩ (q := 40) rfl ?_
    rw [hev.1]
    refine z_icmp_ge (tgt := 103) dX2_load_40 (by decide) (q := 43) rfl (fun h40 => ?_) (fun h40 => absurd (zge_t (by omega)) h40)
    refine z_aload_n (i := 0) dX2_load_103 rfl rfl (q := 104) rfl ?_
    refine z_aload_n (i := 1) dX2_load_104 rfl rfl (q := 105) rfl ?_
    refine z_callVF (As := []) dX2_load_105 kX2_58 (c_X0_limit (t := 0) (by decide) ) (wo_across _ _ _) rfl rfl (zle rfl) ⟨zle rfl, zle rfl⟩ ⟨zle rfl, zle rfl⟩ (q := 108) rfl ?_
    refine z_iload_n (i := 3) dX2_load_108 rfl rfl (q := 109) rfl ?_
    refine z_isub dX2_load_109 (q := 110) rfl ?_
    refine z_put dX2_load_110 fX2_61 (wo_evenSearch _ _ _) (zle rfl) (zfit_int _) (q := 113) rfl ?_
    refine Z.eqw (wi_2 _ _ _ _) ?_
    exact z_vret dX2_load_113 rfl ⟨zle rfl, zle rfl⟩ ⟨rfl, _, o, rfl, ke_int (ke_kp hk (by decide) (by decide)) 2 _, hev, ho, rfl⟩
  | succ m ih =>
    intro i X1 e5 hi hk hev
    have hoi := ho.1 i (by omega)
    refine z_iload dX2_load_31 rfl (q := 33) rfl ?_
    refine z_aload_n (i := 0) dX2_load_33 rfl rfl (q := 34) rfl ?_
    refine z_get dX2_load_34 fX2_14 (wo_evenSearch _ _ _) rfl (q := 37) rfl ?_
    refine z_callVF (As := []) dX2_load_37 kX2_39 (c_X4_length (wr_25 _ _ _)) (wr_25 _ _ _).1 rfl rfl (zle rfl) ⟨zle rfl, zle rfl⟩ ⟨zle rfl, zle rfl⟩ (q := 40) rfl ?_
    rw [hev.1]
    refine z_icmp_ge (tgt := 103) dX2_load_40 (by decide) (q := 43) rfl (fun h40 => absurd h40 (zge_f (by omega) (by omega))) (fun h40 => ?_)
    refine z_aload_n (i := 0) dX2_load_43 rfl rfl (q := 44) rfl ?_
    refine z_get dX2_load_44 fX2_14 (wo_evenSearch _ _ _) rfl (q := 47) rfl ?_
    refine z_iload dX2_load_47 rfl (q := 49) rfl ?_
    refine z_callVF (As := [_]) dX2_load_49 kX2_43 (c_X4_get  (wr_25 _ _ _) (by omega) (by decide)) (wr_25 _ _ _).1 rfl rfl (zle rfl) ⟨zle rfl, zle rfl⟩ ⟨zle rfl, zle rfl⟩ (q := 52) rfl ?_
    rw [hev.2.1 i (by omega)]
    refine z_istore dX2_load_52 (zle rfl) rfl (q := 54) rfl ?_
    refine z_aload_n (i := 0) dX2_load_54 rfl rfl (q := 55) rfl ?_
    refine z_get dX2_load_55 fX2_20 (wo_evenSearch _ _ _) rfl (q := 58) rfl ?_
    refine z_aload_n (i := 1) dX2_load_58 rfl rfl (q := 59) rfl ?_
    refine z_iload dX2_load_59 rfl (q := 61) rfl ?_
    refine z_callVF (As := [_]) dX2_load_61 kX2_47 (c_X0_startAt (t := 0) (by decide) (by omega)) (wo_across _ _ _) rfl rfl (zle rfl) ⟨zle rfl, zle rfl⟩ ⟨zle rfl, zle rfl⟩ (q := 64) rfl ?_
    rw [show X1.2.1 (2 * 0) (o i) = nI (sN X 0 (o i)) from (kp_f hk (by decide) (o i)).trans (hs (o i) hoi).1.1]
    refine z_callVF (As := [_]) dX2_load_64 kX2_52 (c_X4_append' (k := i) (wr_26 _ _ _) hev.2.2.1 (by omega) (by decide)) (wr_26 _ _ _).1 rfl rfl (zle rfl) ⟨zle rfl, zle rfl⟩ ⟨zle rfl, zle rfl⟩ (q := 67) rfl ?_
    refine Z.eqw (wp_26 _ _ _ _ _) ?_
    refine z_aload_n (i := 0) dX2_load_67 rfl rfl (q := 68) rfl ?_
    refine z_get dX2_load_68 fX2_23 (wo_evenSearch _ _ _) rfl (q := 71) rfl ?_
    refine z_iload_n (i := 3) dX2_load_71 rfl rfl (q := 72) rfl ?_
    refine z_callVF (As := [_]) dX2_load_72 kX2_52 (c_X4_append' (k := i) (wr_27 _ _ _) hev.2.2.2.1 (by omega) (by decide)) (wr_27 _ _ _).1 rfl rfl (zle rfl) ⟨zle rfl, zle rfl⟩ ⟨zle rfl, zle rfl⟩ (q := 75) rfl ?_
    refine Z.eqw (wp_27 _ _ _ _ _) ?_
    refine z_aload_n (i := 0) dX2_load_75 rfl rfl (q := 76) rfl ?_
    refine z_get dX2_load_76 fX2_26 (wo_evenSearch _ _ _) rfl (q := 79) rfl ?_
    refine z_aload_n (i := 2) dX2_load_79 rfl rfl (q := 80) rfl ?_
    refine z_iload dX2_load_80 rfl (q := 82) rfl ?_
    refine z_callVF (As := [_]) dX2_load_82 kX2_43 (c_X4_get  (wr_4 _ _ _) (by omega) (by decide)) (wr_4 _ _ _).1 rfl rfl (zle rfl) ⟨zle rfl, zle rfl⟩ ⟨zle rfl, zle rfl⟩ (q := 85) rfl ?_
    refine Z.eqst (st2 := [.int (X.2.1 4 (o i)), .ref 64]) (congrArg (fun v => [Value.int v, .ref 64]) (kp_f hk (by decide) (o i))) ?_
    refine z_callVF (As := [_]) dX2_load_85 kX2_52 (c_X4_append' (k := i) (wr_28 _ _ _) hev.2.2.2.2.1 (by omega) (by decide)) (wr_28 _ _ _).1 rfl rfl (zle rfl) ⟨zle rfl, zle rfl⟩ ⟨zle rfl, zle rfl⟩ (q := 88) rfl ?_
    refine Z.eqw (wp_28 _ _ _ _ _) ?_
    refine z_iload_n (i := 3) dX2_load_88 rfl rfl (q := 89) rfl ?_
    refine z_aload_n (i := 1) dX2_load_89 rfl rfl (q := 90) rfl ?_
    refine z_iload dX2_load_90 rfl (q := 92) rfl ?_
    refine z_callVF (As := [_]) dX2_load_92 kX2_55 (c_X0_sizeAt (t := 0) (by decide) (by omega)) (wo_across _ _ _) rfl rfl (zle rfl) ⟨zle rfl, zle rfl⟩ ⟨zle rfl, zle rfl⟩ (q := 95) rfl ?_
    refine Z.eqst (st2 := [.int (nI (zN X 0 (o i))), .int (nI (sbf (fun q => zN X 0 (o q)) i))]) (congrArg (fun v => [Value.int v, .int (nI (sbf (fun q => zN X 0 (o q)) i))]) ((kp_f hk (by decide) (o i)).trans (hs (o i) hoi).2.1)) ?_
    refine z_iadd dX2_load_95 (q := 96) rfl ?_
    rw [nI_add]
    refine z_istore_n (i := 3) dX2_load_96 rfl (zle rfl) rfl (q := 97) rfl ?_
    refine z_iinc dX2_load_97 rfl rfl (zle rfl) rfl (q := 100) rfl ?_
    refine z_goto (tgt := 31) dX2_load_100 (by decide) ?_
    refine Z.eql (zl2 := [some (.ref 57), some (.ref 1), some (.ref 11), some (.int (nI (sbf (fun q => zN X 0 (o q)) (i + 1)))), some (.int (nI (i + 1))), some (.int (nI (o i)))]) (by first | (rw [← nI_1 i]; done) | (rw [← nI_1 i]; rfl)) ?_
    exact ih (i + 1) _ _ (by omega) (kp_row (kp_row (kp_row hk (r := 26) (by omega) _ _) (r := 27) (by omega) _ _) (r := 28) (by omega) _ _) (evI_add hev)
set_option maxRecDepth 100000 in
set_option maxHeartbeats 4000000 in
theorem c_X2_load_0 {n : Nat} (hn : X.1 (2 * 0) = nI n) (h4 : n ≤ 4) (hs : ∀ j, j < n → isN (X.2.1 (2 * 0) j) 200 ∧ isN (X.2.1 (2 * 0 + 1) j) 200) : ZM G mX2_load 3 0 0 [.ref 57, .ref 1, .ref 11] (zw X Y O) (fun r w2 => r = .inl none ∧ ∃ (X2 : zX) (o : Nat → Nat), w2 = zw X2 Y O ∧ ke X X2 ∧ evI X 0 n o n X2 ∧ ordR X 0 n o ∧ X2.2.2.1 2 = zlim 0 - nI (sbf (fun q => zN X 0 (o q)) n)) := by
  refine ZM.go pX2 rfl rfl (zle rfl) (zl := [some (.ref 57), some (.ref 1), some (.ref 11), none, none, none]) rfl ?_
  refine z_aload_n (i := 0) dX2_load_0 rfl rfl (q := 1) rfl ?_
  refine z_aload_n (i := 1) dX2_load_1 rfl rfl (q := 2) rfl ?_
  refine z_callV (As := [_]) dX2_load_2 kX2_32 (c_X2_listOrder_0 hn h4 (fun j hj => (hs j hj).1)) (wo_evenSearch _ _ _) rfl rfl (zle rfl) ⟨zle rfl, zle rfl⟩ ⟨zle rfl, zle rfl⟩ (q := 5) rfl (fun rv w2 hw2 => ?_) (fun E w2 h9 => by cases h9.1)
  obtain ⟨h9, X1, o, rfl, hk, hl, hp, ho⟩ := hw2
  cases h9
  refine z_aload_n (i := 0) dX2_load_5 rfl rfl (q := 6) rfl ?_
  refine z_get dX2_load_6 fX2_20 (wo_evenSearch _ _ _) rfl (q := 9) rfl ?_
  refine z_callVF (As := []) dX2_load_9 kX2_36 (c_X4_clear (wr_26 _ _ _)) (wr_26 _ _ _).1 rfl rfl (zle rfl) ⟨zle rfl, zle rfl⟩ ⟨zle rfl, zle rfl⟩ (q := 12) rfl ?_
  refine Z.eqw (wp_26 _ _ _ _ _) ?_
  refine z_aload_n (i := 0) dX2_load_12 rfl rfl (q := 13) rfl ?_
  refine z_get dX2_load_13 fX2_23 (wo_evenSearch _ _ _) rfl (q := 16) rfl ?_
  refine z_callVF (As := []) dX2_load_16 kX2_36 (c_X4_clear (wr_27 _ _ _)) (wr_27 _ _ _).1 rfl rfl (zle rfl) ⟨zle rfl, zle rfl⟩ ⟨zle rfl, zle rfl⟩ (q := 19) rfl ?_
  refine Z.eqw (wp_27 _ _ _ _ _) ?_
  refine z_aload_n (i := 0) dX2_load_19 rfl rfl (q := 20) rfl ?_
  refine z_get dX2_load_20 fX2_26 (wo_evenSearch _ _ _) rfl (q := 23) rfl ?_
  refine z_callVF (As := []) dX2_load_23 kX2_36 (c_X4_clear (wr_28 _ _ _)) (wr_28 _ _ _).1 rfl rfl (zle rfl) ⟨zle rfl, zle rfl⟩ ⟨zle rfl, zle rfl⟩ (q := 26) rfl ?_
  refine Z.eqw (wp_28 _ _ _ _ _) ?_
  refine z_iconst (v := 0) dX2_load_26 rfl (q := 27) rfl ?_
  refine z_istore_n (i := 3) dX2_load_27 rfl (zle rfl) rfl (q := 28) rfl ?_
  refine z_iconst (v := 0) dX2_load_28 rfl (q := 29) rfl ?_
  refine z_istore dX2_load_29 (zle rfl) rfl (q := 31) rfl ?_
  exact z_X2_load_31_0 h4 hs ho n 0 _ _ (by omega) (kp_row (kp_row (kp_row (kp_wide hk (by omega) (by omega)) (r := 26) (by omega) _ _) (r := 27) (by omega) _ _) (r := 28) (by omega) _ _) ⟨hl, hp, rfl, rfl, rfl, fun p h => absurd h (Nat.not_lt_zero _)⟩
set_option maxRecDepth 100000 in
set_option maxHeartbeats 4000000 in
theorem z_X2_load_31_1 {n : Nat} {o : Nat → Nat} (h4 : n ≤ 4) (hs : ∀ j, j < n → isN (X.2.1 (2 * 1) j) 200 ∧ isN (X.2.1 (2 * 1 + 1) j) 200) (ho : ordR X 1 n o) : ∀ (m i : Nat) (X1 : zX) (e5 : Option Value), i + m = n → kp 25 28 X X1 → evI X 1 n o i X1 → Z G mX2_load (zrm 3 0 0) 0 0 31 [some (.ref 57), some (.ref 6), some (.ref 11), some (.int (nI (sbf (fun q => zN X 1 (o q)) i))), some (.int (nI i)), e5] [] (zw X1 Y O) (fun r w2 => r = .inl none ∧ ∃ (X2 : zX) (o : Nat → Nat), w2 = zw X2 Y O ∧ ke X X2 ∧ evI X 1 n o n X2 ∧ ordR X 1 n o ∧ X2.2.2.1 2 = zlim 1 - nI (sbf (fun q => zN X 1 (o q)) n)) := by
  intro m
  induction m with
  | zero =>
    intro i X1 e5 hi hk hev
    have hin : i = n := by omega
    rw [hin] at hev ⊢
    refine z_iload dX2_load_31 rfl (q := 33) rfl ?_
    refine z_aload_n (i := 0) dX2_load_33 rfl rfl (q := 34) rfl ?_
    refine z_get dX2_load_34 fX2_14 (wo_evenSearch _ _ _) rfl (q := 37) rfl ?_
    refine z_callVF (As := []) dX2_load_37 kX2_39 (c_X4_length (wr_25 _ _ _)) (wr_25 _ _ _).1 rfl rfl (zle rfl) ⟨zle rfl, zle rfl⟩ ⟨zle rfl, zle rfl⟩ (q := 40) rfl ?_
    rw [hev.1]
    refine z_icmp_ge (tgt := 103) dX2_load_40 (by decide) (q := 43) rfl (fun h40 => ?_) (fun h40 => absurd (zge_t (by omega)) h40)
    refine z_aload_n (i := 0) dX2_load_103 rfl rfl (q := 104) rfl ?_
    refine z_aload_n (i := 1) dX2_load_104 rfl rfl (q := 105) rfl ?_
    refine z_callVF (As := []) dX2_load_105 kX2_58 (c_X0_limit (t := 1) (by decide) ) (wo_down _ _ _) rfl rfl (zle rfl) ⟨zle rfl, zle rfl⟩ ⟨zle rfl, zle rfl⟩ (q := 108) rfl ?_
    refine z_iload_n (i := 3) dX2_load_108 rfl rfl (q := 109) rfl ?_
    refine z_isub dX2_load_109 (q := 110) rfl ?_
    refine z_put dX2_load_110 fX2_61 (wo_evenSearch _ _ _) (zle rfl) (zfit_int _) (q := 113) rfl ?_
    refine Z.eqw (wi_2 _ _ _ _) ?_
    exact z_vret dX2_load_113 rfl ⟨zle rfl, zle rfl⟩ ⟨rfl, _, o, rfl, ke_int (ke_kp hk (by decide) (by decide)) 2 _, hev, ho, rfl⟩
  | succ m ih =>
    intro i X1 e5 hi hk hev
    have hoi := ho.1 i (by omega)
    refine z_iload dX2_load_31 rfl (q := 33) rfl ?_
    refine z_aload_n (i := 0) dX2_load_33 rfl rfl (q := 34) rfl ?_
    refine z_get dX2_load_34 fX2_14 (wo_evenSearch _ _ _) rfl (q := 37) rfl ?_
    refine z_callVF (As := []) dX2_load_37 kX2_39 (c_X4_length (wr_25 _ _ _)) (wr_25 _ _ _).1 rfl rfl (zle rfl) ⟨zle rfl, zle rfl⟩ ⟨zle rfl, zle rfl⟩ (q := 40) rfl ?_
    rw [hev.1]
    refine z_icmp_ge (tgt := 103) dX2_load_40 (by decide) (q := 43) rfl (fun h40 => absurd h40 (zge_f (by omega) (by omega))) (fun h40 => ?_)
    refine z_aload_n (i := 0) dX2_load_43 rfl rfl (q := 44) rfl ?_
    refine z_get dX2_load_44 fX2_14 (wo_evenSearch _ _ _) rfl (q := 47) rfl ?_
    refine z_iload dX2_load_47 rfl (q := 49) rfl ?_
    refine z_callVF (As := [_]) dX2_load_49 kX2_43 (c_X4_get  (wr_25 _ _ _) (by omega) (by decide)) (wr_25 _ _ _).1 rfl rfl (zle rfl) ⟨zle rfl, zle rfl⟩ ⟨zle rfl, zle rfl⟩ (q := 52) rfl ?_
    rw [hev.2.1 i (by omega)]
    refine z_istore dX2_load_52 (zle rfl) rfl (q := 54) rfl ?_
    refine z_aload_n (i := 0) dX2_load_54 rfl rfl (q := 55) rfl ?_
    refine z_get dX2_load_55 fX2_20 (wo_evenSearch _ _ _) rfl (q := 58) rfl ?_
    refine z_aload_n (i := 1) dX2_load_58 rfl rfl (q := 59) rfl ?_
    refine z_iload dX2_load_59 rfl (q := 61) rfl ?_
    refine z_callVF (As := [_]) dX2_load_61 kX2_47 (c_X0_startAt (t := 1) (by decide) (by omega)) (wo_down _ _ _) rfl rfl (zle rfl) ⟨zle rfl, zle rfl⟩ ⟨zle rfl, zle rfl⟩ (q := 64) rfl ?_
    rw [show X1.2.1 (2 * 1) (o i) = nI (sN X 1 (o i)) from (kp_f hk (by decide) (o i)).trans (hs (o i) hoi).1.1]
    refine z_callVF (As := [_]) dX2_load_64 kX2_52 (c_X4_append' (k := i) (wr_26 _ _ _) hev.2.2.1 (by omega) (by decide)) (wr_26 _ _ _).1 rfl rfl (zle rfl) ⟨zle rfl, zle rfl⟩ ⟨zle rfl, zle rfl⟩ (q := 67) rfl ?_
    refine Z.eqw (wp_26 _ _ _ _ _) ?_
    refine z_aload_n (i := 0) dX2_load_67 rfl rfl (q := 68) rfl ?_
    refine z_get dX2_load_68 fX2_23 (wo_evenSearch _ _ _) rfl (q := 71) rfl ?_
    refine z_iload_n (i := 3) dX2_load_71 rfl rfl (q := 72) rfl ?_
    refine z_callVF (As := [_]) dX2_load_72 kX2_52 (c_X4_append' (k := i) (wr_27 _ _ _) hev.2.2.2.1 (by omega) (by decide)) (wr_27 _ _ _).1 rfl rfl (zle rfl) ⟨zle rfl, zle rfl⟩ ⟨zle rfl, zle rfl⟩ (q := 75) rfl ?_
    refine Z.eqw (wp_27 _ _ _ _ _) ?_
    refine z_aload_n (i := 0) dX2_load_75 rfl rfl (q := 76) rfl ?_
    refine z_get dX2_load_76 fX2_26 (wo_evenSearch _ _ _) rfl (q := 79) rfl ?_
    refine z_aload_n (i := 2) dX2_load_79 rfl rfl (q := 80) rfl ?_
    refine z_iload dX2_load_80 rfl (q := 82) rfl ?_
    refine z_callVF (As := [_]) dX2_load_82 kX2_43 (c_X4_get  (wr_4 _ _ _) (by omega) (by decide)) (wr_4 _ _ _).1 rfl rfl (zle rfl) ⟨zle rfl, zle rfl⟩ ⟨zle rfl, zle rfl⟩ (q := 85) rfl ?_
    refine Z.eqst (st2 := [.int (X.2.1 4 (o i)), .ref 64]) (congrArg (fun v => [Value.int v, .ref 64]) (kp_f hk (by decide) (o i))) ?_
    refine z_callVF (As := [_]) dX2_load_85 kX2_52 (c_X4_append' (k := i) (wr_28 _ _ _) hev.2.2.2.2.1 (by omega) (by decide)) (wr_28 _ _ _).1 rfl rfl (zle rfl) ⟨zle rfl, zle rfl⟩ ⟨zle rfl, zle rfl⟩ (q := 88) rfl ?_
    refine Z.eqw (wp_28 _ _ _ _ _) ?_
    refine z_iload_n (i := 3) dX2_load_88 rfl rfl (q := 89) rfl ?_
    refine z_aload_n (i := 1) dX2_load_89 rfl rfl (q := 90) rfl ?_
    refine z_iload dX2_load_90 rfl (q := 92) rfl ?_
    refine z_callVF (As := [_]) dX2_load_92 kX2_55 (c_X0_sizeAt (t := 1) (by decide) (by omega)) (wo_down _ _ _) rfl rfl (zle rfl) ⟨zle rfl, zle rfl⟩ ⟨zle rfl, zle rfl⟩ (q := 95) rfl ?_
    refine Z.eqst (st2 := [.int (nI (zN X 1 (o i))), .int (nI (sbf (fun q => zN X 1 (o q)) i))]) (congrArg (fun v => [Value.int v, .int (nI (sbf (fun q => zN X 1 (o q)) i))]) ((kp_f hk (by decide) (o i)).trans (hs (o i) hoi).2.1)) ?_
    refine z_iadd dX2_load_95 (q := 96) rfl ?_
    rw [nI_add]
    refine z_istore_n (i := 3) dX2_load_96 rfl (zle rfl) rfl (q := 97) rfl ?_
    refine z_iinc dX2_load_97 rfl rfl (zle rfl) rfl (q := 100) rfl ?_
    refine z_goto (tgt := 31) dX2_load_100 (by decide) ?_
    refine Z.eql (zl2 := [some (.ref 57), some (.ref 6), some (.ref 11), some (.int (nI (sbf (fun q => zN X 1 (o q)) (i + 1)))), some (.int (nI (i + 1))), some (.int (nI (o i)))]) (by first | (rw [← nI_1 i]; done) | (rw [← nI_1 i]; rfl)) ?_
    exact ih (i + 1) _ _ (by omega) (kp_row (kp_row (kp_row hk (r := 26) (by omega) _ _) (r := 27) (by omega) _ _) (r := 28) (by omega) _ _) (evI_add hev)
set_option maxRecDepth 100000 in
set_option maxHeartbeats 4000000 in
theorem c_X2_load_1 {n : Nat} (hn : X.1 (2 * 1) = nI n) (h4 : n ≤ 4) (hs : ∀ j, j < n → isN (X.2.1 (2 * 1) j) 200 ∧ isN (X.2.1 (2 * 1 + 1) j) 200) : ZM G mX2_load 3 0 0 [.ref 57, .ref 6, .ref 11] (zw X Y O) (fun r w2 => r = .inl none ∧ ∃ (X2 : zX) (o : Nat → Nat), w2 = zw X2 Y O ∧ ke X X2 ∧ evI X 1 n o n X2 ∧ ordR X 1 n o ∧ X2.2.2.1 2 = zlim 1 - nI (sbf (fun q => zN X 1 (o q)) n)) := by
  refine ZM.go pX2 rfl rfl (zle rfl) (zl := [some (.ref 57), some (.ref 6), some (.ref 11), none, none, none]) rfl ?_
  refine z_aload_n (i := 0) dX2_load_0 rfl rfl (q := 1) rfl ?_
  refine z_aload_n (i := 1) dX2_load_1 rfl rfl (q := 2) rfl ?_
  refine z_callV (As := [_]) dX2_load_2 kX2_32 (c_X2_listOrder_1 hn h4 (fun j hj => (hs j hj).1)) (wo_evenSearch _ _ _) rfl rfl (zle rfl) ⟨zle rfl, zle rfl⟩ ⟨zle rfl, zle rfl⟩ (q := 5) rfl (fun rv w2 hw2 => ?_) (fun E w2 h9 => by cases h9.1)
  obtain ⟨h9, X1, o, rfl, hk, hl, hp, ho⟩ := hw2
  cases h9
  refine z_aload_n (i := 0) dX2_load_5 rfl rfl (q := 6) rfl ?_
  refine z_get dX2_load_6 fX2_20 (wo_evenSearch _ _ _) rfl (q := 9) rfl ?_
  refine z_callVF (As := []) dX2_load_9 kX2_36 (c_X4_clear (wr_26 _ _ _)) (wr_26 _ _ _).1 rfl rfl (zle rfl) ⟨zle rfl, zle rfl⟩ ⟨zle rfl, zle rfl⟩ (q := 12) rfl ?_
  refine Z.eqw (wp_26 _ _ _ _ _) ?_
  refine z_aload_n (i := 0) dX2_load_12 rfl rfl (q := 13) rfl ?_
  refine z_get dX2_load_13 fX2_23 (wo_evenSearch _ _ _) rfl (q := 16) rfl ?_
  refine z_callVF (As := []) dX2_load_16 kX2_36 (c_X4_clear (wr_27 _ _ _)) (wr_27 _ _ _).1 rfl rfl (zle rfl) ⟨zle rfl, zle rfl⟩ ⟨zle rfl, zle rfl⟩ (q := 19) rfl ?_
  refine Z.eqw (wp_27 _ _ _ _ _) ?_
  refine z_aload_n (i := 0) dX2_load_19 rfl rfl (q := 20) rfl ?_
  refine z_get dX2_load_20 fX2_26 (wo_evenSearch _ _ _) rfl (q := 23) rfl ?_
  refine z_callVF (As := []) dX2_load_23 kX2_36 (c_X4_clear (wr_28 _ _ _)) (wr_28 _ _ _).1 rfl rfl (zle rfl) ⟨zle rfl, zle rfl⟩ ⟨zle rfl, zle rfl⟩ (q := 26) rfl ?_
  refine Z.eqw (wp_28 _ _ _ _ _) ?_
  refine z_iconst (v := 0) dX2_load_26 rfl (q := 27) rfl ?_
  refine z_istore_n (i := 3) dX2_load_27 rfl (zle rfl) rfl (q := 28) rfl ?_
  refine z_iconst (v := 0) dX2_load_28 rfl (q := 29) rfl ?_
  refine z_istore dX2_load_29 (zle rfl) rfl (q := 31) rfl ?_
  exact z_X2_load_31_1 h4 hs ho n 0 _ _ (by omega) (kp_row (kp_row (kp_row (kp_wide hk (by omega) (by omega)) (r := 26) (by omega) _ _) (r := 27) (by omega) _ _) (r := 28) (by omega) _ _) ⟨hl, hp, rfl, rfl, rfl, fun p h => absurd h (Nat.not_lt_zero _)⟩
set_option maxRecDepth 100000 in
set_option maxHeartbeats 4000000 in
theorem c_X2_foundCost  : ZM G mX2_foundCost 0 0 0 [.ref 57] (zw X Y O) (zEq (some (.int (X.2.2.1 3))) (zw X Y O)) := by
  refine ZM.go pX2 rfl rfl (zle rfl) (zl := [some (.ref 57)]) rfl ?_
  refine z_aload_n (i := 0) dX2_foundCost_0 rfl rfl (q := 1) rfl ?_
  refine z_get dX2_foundCost_1 fX2_75 (wo_evenSearch _ _ _) rfl (q := 4) rfl ?_
  exact z_iret dX2_foundCost_4 rfl ⟨zle rfl, zle rfl⟩ ⟨rfl, rfl⟩
set_option maxRecDepth 100000 in
set_option maxHeartbeats 4000000 in
theorem c_X2_foundGap  : ZM G mX2_foundGap 0 0 0 [.ref 57] (zw X Y O) (zEq (some (.int (X.2.2.1 4))) (zw X Y O)) := by
  refine ZM.go pX2 rfl rfl (zle rfl) (zl := [some (.ref 57)]) rfl ?_
  refine z_aload_n (i := 0) dX2_foundGap_0 rfl rfl (q := 1) rfl ?_
  refine z_get dX2_foundGap_1 fX2_78 (wo_evenSearch _ _ _) rfl (q := 4) rfl ?_
  exact z_iret dX2_foundGap_4 rfl ⟨zle rfl, zle rfl⟩ ⟨rfl, rfl⟩
set_option maxRecDepth 100000 in
set_option maxHeartbeats 4000000 in
theorem c_X2_shapeInPlace {k : Nat} (hk : k < 4) : ZM G mX2_shapeInPlace 1 0 0 [.ref 57, .int (nI k)] (zw X Y O) (zEq (some (.int (X.2.1 25 k))) (zw X Y O)) := by
  refine ZM.go pX2 rfl rfl (zle rfl) (zl := [some (.ref 57), some (.int (nI k))]) rfl ?_
  refine z_aload_n (i := 0) dX2_shapeInPlace_0 rfl rfl (q := 1) rfl ?_
  refine z_get dX2_shapeInPlace_1 fX2_14 (wo_evenSearch _ _ _) rfl (q := 4) rfl ?_
  refine z_iload_n (i := 1) dX2_shapeInPlace_4 rfl rfl (q := 5) rfl ?_
  refine z_callVF (As := [_]) dX2_shapeInPlace_5 kX2_43 (c_X4_get  (wr_25 _ _ _) (by omega) (by decide)) (wr_25 _ _ _).1 rfl rfl (zle rfl) ⟨zle rfl, zle rfl⟩ ⟨zle rfl, zle rfl⟩ (q := 8) rfl ?_
  exact z_iret dX2_shapeInPlace_8 rfl ⟨zle rfl, zle rfl⟩ ⟨rfl, rfl⟩
set_option maxRecDepth 100000 in
set_option maxHeartbeats 4000000 in
theorem c_X2_startInPlace {k : Nat} {s g : Int32} (hk : k < 4) : ZM G mX2_startInPlace 1 0 0 [.ref 57, .int (nI k), .int s, .int g] (zw X Y O) (zEq (some (.int (s + X.2.1 27 k + g * nI k))) (zw X Y O)) := by
  refine ZM.go pX2 rfl rfl (zle rfl) (zl := [some (.ref 57), some (.int (nI k)), some (.int s), some (.int g)]) rfl ?_
  refine z_iload_n (i := 2) dX2_startInPlace_0 rfl rfl (q := 1) rfl ?_
  refine z_aload_n (i := 0) dX2_startInPlace_1 rfl rfl (q := 2) rfl ?_
  refine z_get dX2_startInPlace_2 fX2_23 (wo_evenSearch _ _ _) rfl (q := 5) rfl ?_
  refine z_iload_n (i := 1) dX2_startInPlace_5 rfl rfl (q := 6) rfl ?_
  refine z_callVF (As := [_]) dX2_startInPlace_6 kX2_43 (c_X4_get  (wr_27 _ _ _) (by omega) (by decide)) (wr_27 _ _ _).1 rfl rfl (zle rfl) ⟨zle rfl, zle rfl⟩ ⟨zle rfl, zle rfl⟩ (q := 9) rfl ?_
  refine z_iadd dX2_startInPlace_9 (q := 10) rfl ?_
  refine z_iload_n (i := 3) dX2_startInPlace_10 rfl rfl (q := 11) rfl ?_
  refine z_iload_n (i := 1) dX2_startInPlace_11 rfl rfl (q := 12) rfl ?_
  refine z_imul dX2_startInPlace_12 (q := 13) rfl ?_
  refine z_iadd dX2_startInPlace_13 (q := 14) rfl ?_
  exact z_iret dX2_startInPlace_14 rfl ⟨zle rfl, zle rfl⟩ ⟨rfl, rfl⟩
set_option maxRecDepth 100000 in
set_option maxHeartbeats 4000000 in
theorem c_X2_foundStart {k : Nat} (hk : k < 4) : ZM G mX2_foundStart 2 0 0 [.ref 57, .int (nI k)] (zw X Y O) (zEq (some (.int (X.2.2.1 5 + X.2.1 27 k + X.2.2.1 4 * nI k))) (zw X Y O)) := by
  refine ZM.go pX2 rfl rfl (zle rfl) (zl := [some (.ref 57), some (.int (nI k))]) rfl ?_
  refine z_aload_n (i := 0) dX2_foundStart_0 rfl rfl (q := 1) rfl ?_
  refine z_iload_n (i := 1) dX2_foundStart_1 rfl rfl (q := 2) rfl ?_
  refine z_aload_n (i := 0) dX2_foundStart_2 rfl rfl (q := 3) rfl ?_
  refine z_get dX2_foundStart_3 fX2_81 (wo_evenSearch _ _ _) rfl (q := 6) rfl ?_
  refine z_aload_n (i := 0) dX2_foundStart_6 rfl rfl (q := 7) rfl ?_
  refine z_get dX2_foundStart_7 fX2_78 (wo_evenSearch _ _ _) rfl (q := 10) rfl ?_
  refine z_callVF (As := [_, _, _]) dX2_foundStart_10 kX2_84 (c_X2_startInPlace hk) (wo_evenSearch _ _ _) rfl rfl (zle rfl) ⟨zle rfl, zle rfl⟩ ⟨zle rfl, zle rfl⟩ (q := 13) rfl ?_
  exact z_iret dX2_foundStart_13 rfl ⟨zle rfl, zle rfl⟩ ⟨rfl, rfl⟩
set_option maxRecDepth 100000 in
set_option maxHeartbeats 4000000 in
theorem c_X2_lastStart {n : Nat} {g : Int32} (hn : X.1 25 = nI n) : ZM G mX2_lastStart 1 0 0 [.ref 57, .int g] (zw X Y O) (zEq (some (.int (X.2.2.1 2 - g * (nI n - 1)))) (zw X Y O)) := by
  refine ZM.go pX2 rfl rfl (zle rfl) (zl := [some (.ref 57), some (.int g)]) rfl ?_
  refine z_aload_n (i := 0) dX2_lastStart_0 rfl rfl (q := 1) rfl ?_
  refine z_get dX2_lastStart_1 fX2_61 (wo_evenSearch _ _ _) rfl (q := 4) rfl ?_
  refine z_iload_n (i := 1) dX2_lastStart_4 rfl rfl (q := 5) rfl ?_
  refine z_aload_n (i := 0) dX2_lastStart_5 rfl rfl (q := 6) rfl ?_
  refine z_get dX2_lastStart_6 fX2_14 (wo_evenSearch _ _ _) rfl (q := 9) rfl ?_
  refine z_callVF (As := []) dX2_lastStart_9 kX2_39 (c_X4_length (wr_25 _ _ _)) (wr_25 _ _ _).1 rfl rfl (zle rfl) ⟨zle rfl, zle rfl⟩ ⟨zle rfl, zle rfl⟩ (q := 12) rfl ?_
  rw [hn]
  refine z_iconst (v := 1) dX2_lastStart_12 rfl (q := 13) rfl ?_
  refine z_isub dX2_lastStart_13 (q := 14) rfl ?_
  refine z_imul dX2_lastStart_14 (q := 15) rfl ?_
  refine z_isub dX2_lastStart_15 (q := 16) rfl ?_
  exact z_iret dX2_lastStart_16 rfl ⟨zle rfl, zle rfl⟩ ⟨rfl, rfl⟩
set_option maxRecDepth 100000 in
set_option maxHeartbeats 4000000 in
theorem c_X2_stayOf {k : Nat} {g : Int32} (hk : k < 4) : ZM G mX2_stayOf 2 0 0 [.ref 57, .int (nI k), .int g] (zw X Y O) (zEq (some (.int (X.2.1 26 k - (0 + X.2.1 27 k + g * nI k)))) (zw X Y O)) := by
  refine ZM.go pX2 rfl rfl (zle rfl) (zl := [some (.ref 57), some (.int (nI k)), some (.int g)]) rfl ?_
  refine z_aload_n (i := 0) dX2_stayOf_0 rfl rfl (q := 1) rfl ?_
  refine z_get dX2_stayOf_1 fX2_20 (wo_evenSearch _ _ _) rfl (q := 4) rfl ?_
  refine z_iload_n (i := 1) dX2_stayOf_4 rfl rfl (q := 5) rfl ?_
  refine z_callVF (As := [_]) dX2_stayOf_5 kX2_43 (c_X4_get  (wr_26 _ _ _) (by omega) (by decide)) (wr_26 _ _ _).1 rfl rfl (zle rfl) ⟨zle rfl, zle rfl⟩ ⟨zle rfl, zle rfl⟩ (q := 8) rfl ?_
  refine z_aload_n (i := 0) dX2_stayOf_8 rfl rfl (q := 9) rfl ?_
  refine z_iload_n (i := 1) dX2_stayOf_9 rfl rfl (q := 10) rfl ?_
  refine z_iconst (v := 0) dX2_stayOf_10 rfl (q := 11) rfl ?_
  refine z_iload_n (i := 2) dX2_stayOf_11 rfl rfl (q := 12) rfl ?_
  refine z_callVF (As := [_, _, _]) dX2_stayOf_12 kX2_84 (c_X2_startInPlace hk) (wo_evenSearch _ _ _) rfl rfl (zle rfl) ⟨zle rfl, zle rfl⟩ ⟨zle rfl, zle rfl⟩ (q := 15) rfl ?_
  refine z_isub dX2_stayOf_15 (q := 16) rfl ?_
  exact z_iret dX2_stayOf_16 rfl ⟨zle rfl, zle rfl⟩ ⟨rfl, rfl⟩
/- where the shape in a place starts -/
set_option maxRecDepth 100000 in
set_option maxHeartbeats 4000000 in
abbrev evS (X : zX) (s g : Int32) (p : Nat) : Int32 := s + X.2.1 27 p + g * nI p
set_option maxRecDepth 100000 in
set_option maxHeartbeats 4000000 in
theorem z_X2_costOf_5 {n : Nat} {s g : Int32} (hn : X.1 25 = nI n) (h4 : n ≤ 4) : ∀ (m i : Nat) (a : Int32), i + m = n → Z G mX2_costOf (zrm 2 0 0) 0 0 5 [some (.ref 57), some (.int s), some (.int g), some (.int a), some (.int (nI i))] [] (zw X Y O) (zEq (some (.int (rsum (fun p => if 0 ≤ evS X s g p - X.2.1 26 p then evS X s g p - X.2.1 26 p else 0 - (evS X s g p - X.2.1 26 p)) i m a))) (zw X Y O)) := by
  intro m
  induction m with
  | zero =>
    intro i a hi
    refine z_iload dX2_costOf_5 rfl (q := 7) rfl ?_
    refine z_aload_n (i := 0) dX2_costOf_7 rfl rfl (q := 8) rfl ?_
    refine z_get dX2_costOf_8 fX2_14 (wo_evenSearch _ _ _) rfl (q := 11) rfl ?_
    refine z_callVF (As := []) dX2_costOf_11 kX2_39 (c_X4_length (wr_25 _ _ _)) (wr_25 _ _ _).1 rfl rfl (zle rfl) ⟨zle rfl, zle rfl⟩ ⟨zle rfl, zle rfl⟩ (q := 14) rfl ?_
    rw [hn]
    refine z_icmp_ge (tgt := 47) dX2_costOf_14 (by decide) (q := 17) rfl (fun h14 => ?_) (fun h14 => absurd (zge_t (by omega)) h14)
    refine z_iload_n (i := 3) dX2_costOf_47 rfl rfl (q := 48) rfl ?_
    exact z_iret dX2_costOf_48 rfl ⟨zle rfl, zle rfl⟩ ⟨rfl, rfl⟩
  | succ m ih =>
    intro i a hi
    refine z_iload dX2_costOf_5 rfl (q := 7) rfl ?_
    refine z_aload_n (i := 0) dX2_costOf_7 rfl rfl (q := 8) rfl ?_
    refine z_get dX2_costOf_8 fX2_14 (wo_evenSearch _ _ _) rfl (q := 11) rfl ?_
    refine z_callVF (As := []) dX2_costOf_11 kX2_39 (c_X4_length (wr_25 _ _ _)) (wr_25 _ _ _).1 rfl rfl (zle rfl) ⟨zle rfl, zle rfl⟩ ⟨zle rfl, zle rfl⟩ (q := 14) rfl ?_
    rw [hn]
    refine z_icmp_ge (tgt := 47) dX2_costOf_14 (by decide) (q := 17) rfl (fun h14 => absurd h14 (zge_f (by omega) (by omega))) (fun h14 => ?_)
    refine z_iload_n (i := 3) dX2_costOf_17 rfl rfl (q := 18) rfl ?_
    refine z_aload_n (i := 0) dX2_costOf_18 rfl rfl (q := 19) rfl ?_
    refine z_iload dX2_costOf_19 rfl (q := 21) rfl ?_
    refine z_iload_n (i := 1) dX2_costOf_21 rfl rfl (q := 22) rfl ?_
    refine z_iload_n (i := 2) dX2_costOf_22 rfl rfl (q := 23) rfl ?_
    refine z_callVF (As := [_, _, _]) dX2_costOf_23 kX2_84 (c_X2_startInPlace (by omega)) (wo_evenSearch _ _ _) rfl rfl (zle rfl) ⟨zle rfl, zle rfl⟩ ⟨zle rfl, zle rfl⟩ (q := 26) rfl ?_
    refine z_aload_n (i := 0) dX2_costOf_26 rfl rfl (q := 27) rfl ?_
    refine z_get dX2_costOf_27 fX2_20 (wo_evenSearch _ _ _) rfl (q := 30) rfl ?_
    refine z_iload dX2_costOf_30 rfl (q := 32) rfl ?_
    refine z_callVF (As := [_]) dX2_costOf_32 kX2_43 (c_X4_get  (wr_26 _ _ _) (by omega) (by decide)) (wr_26 _ _ _).1 rfl rfl (zle rfl) ⟨zle rfl, zle rfl⟩ ⟨zle rfl, zle rfl⟩ (q := 35) rfl ?_
    refine z_isub dX2_costOf_35 (q := 36) rfl ?_
    refine z_abs dX2_costOf_36 kX2_105 (zle rfl) ⟨zle rfl, zle rfl, zle rfl, zle rfl⟩ (q := 39) rfl ?_
    refine z_iadd dX2_costOf_39 (q := 40) rfl ?_
    refine z_istore_n (i := 3) dX2_costOf_40 rfl (zle rfl) rfl (q := 41) rfl ?_
    refine z_iinc dX2_costOf_41 rfl rfl (zle rfl) rfl (q := 44) rfl ?_
    refine z_goto (tgt := 5) dX2_costOf_44 (by decide) ?_
    refine Z.eql (zl2 := [some (.ref 57), some (.int s), some (.int g), some (.int (a + (fun p => if 0 ≤ evS X s g p - X.2.1 26 p then evS X s g p - X.2.1 26 p else 0 - (evS X s g p - X.2.1 26 p)) i)), some (.int (nI (i + 1)))]) (by first | (rw [← nI_1 i]; done) | (rw [← nI_1 i]; rfl)) ?_
    exact ih (i + 1) (a + (fun p => if 0 ≤ evS X s g p - X.2.1 26 p then evS X s g p - X.2.1 26 p else 0 - (evS X s g p - X.2.1 26 p)) i) (by omega)
set_option maxRecDepth 100000 in
set_option maxHeartbeats 4000000 in
theorem c_X2_costOf {n : Nat} {s g : Int32} (hn : X.1 25 = nI n) (h4 : n ≤ 4) : ZM G mX2_costOf 2 0 0 [.ref 57, .int s, .int g] (zw X Y O) (zEq (some (.int (rsum (fun p => if 0 ≤ evS X s g p - X.2.1 26 p then evS X s g p - X.2.1 26 p else 0 - (evS X s g p - X.2.1 26 p)) 0 n 0))) (zw X Y O)) := by
  refine ZM.go pX2 rfl rfl (zle rfl) (zl := [some (.ref 57), some (.int s), some (.int g), none, none]) rfl ?_
  refine z_iconst (v := 0) dX2_costOf_0 rfl (q := 1) rfl ?_
  refine z_istore_n (i := 3) dX2_costOf_1 rfl (zle rfl) rfl (q := 2) rfl ?_
  refine z_iconst (v := 0) dX2_costOf_2 rfl (q := 3) rfl ?_
  refine z_istore dX2_costOf_3 (zle rfl) rfl (q := 5) rfl ?_
  exact z_X2_costOf_5 hn h4 n 0 0 (by omega)
set_option maxRecDepth 100000 in
set_option maxHeartbeats 4000000 in
theorem z_X2_keepsLocks_2 {n : Nat} {s g : Int32} (hn : X.1 25 = nI n) (h4 : n ≤ 4) : ∀ (m i : Nat), i + m = n → Z G mX2_keepsLocks (zrm 2 0 0) 0 0 2 [some (.ref 57), some (.int s), some (.int g), some (.int (nI i))] [] (zw X Y O) (zEq (some (.int (zB (!rany (fun p => ¬ X.2.1 28 p = 0 ∧ ¬ evS X s g p = X.2.1 26 p) i m)))) (zw X Y O)) := by
  intro m
  induction m with
  | zero =>
    intro i hi
    refine z_iload_n (i := 3) dX2_keepsLocks_2 rfl rfl (q := 3) rfl ?_
    refine z_aload_n (i := 0) dX2_keepsLocks_3 rfl rfl (q := 4) rfl ?_
    refine z_get dX2_keepsLocks_4 fX2_14 (wo_evenSearch _ _ _) rfl (q := 7) rfl ?_
    refine z_callVF (As := []) dX2_keepsLocks_7 kX2_39 (c_X4_length (wr_25 _ _ _)) (wr_25 _ _ _).1 rfl rfl (zle rfl) ⟨zle rfl, zle rfl⟩ ⟨zle rfl, zle rfl⟩ (q := 10) rfl ?_
    rw [hn]
    refine z_icmp_ge (tgt := 50) dX2_keepsLocks_10 (by decide) (q := 13) rfl (fun h10 => ?_) (fun h10 => absurd (zge_t (by omega)) h10)
    refine z_iconst (v := 1) dX2_keepsLocks_50 rfl (q := 51) rfl ?_
    exact z_zret dX2_keepsLocks_51 rfl rfl ⟨zle rfl, zle rfl⟩ ⟨rfl, rfl⟩
  | succ m ih =>
    intro i hi
    refine z_iload_n (i := 3) dX2_keepsLocks_2 rfl rfl (q := 3) rfl ?_
    refine z_aload_n (i := 0) dX2_keepsLocks_3 rfl rfl (q := 4) rfl ?_
    refine z_get dX2_keepsLocks_4 fX2_14 (wo_evenSearch _ _ _) rfl (q := 7) rfl ?_
    refine z_callVF (As := []) dX2_keepsLocks_7 kX2_39 (c_X4_length (wr_25 _ _ _)) (wr_25 _ _ _).1 rfl rfl (zle rfl) ⟨zle rfl, zle rfl⟩ ⟨zle rfl, zle rfl⟩ (q := 10) rfl ?_
    rw [hn]
    refine z_icmp_ge (tgt := 50) dX2_keepsLocks_10 (by decide) (q := 13) rfl (fun h10 => absurd h10 (zge_f (by omega) (by omega))) (fun h10 => ?_)
    refine z_aload_n (i := 0) dX2_keepsLocks_13 rfl rfl (q := 14) rfl ?_
    refine z_get dX2_keepsLocks_14 fX2_26 (wo_evenSearch _ _ _) rfl (q := 17) rfl ?_
    refine z_iload_n (i := 3) dX2_keepsLocks_17 rfl rfl (q := 18) rfl ?_
    refine z_callVF (As := [_]) dX2_keepsLocks_18 kX2_43 (c_X4_get  (wr_28 _ _ _) (by omega) (by decide)) (wr_28 _ _ _).1 rfl rfl (zle rfl) ⟨zle rfl, zle rfl⟩ ⟨zle rfl, zle rfl⟩ (q := 21) rfl ?_
    refine z_if_eq (tgt := 44) dX2_keepsLocks_21 (by decide) (q := 24) rfl (fun h21 => ?_) (fun h21 => ?_)
    · refine z_iinc dX2_keepsLocks_44 rfl rfl (zle rfl) rfl (q := 47) rfl ?_
      refine z_goto (tgt := 2) dX2_keepsLocks_47 (by decide) ?_
      refine Z.eql (zl2 := [some (.ref 57), some (.int s), some (.int g), some (.int (nI (i + 1)))]) (by first | (rw [← nI_1 i]; done) | (rw [← nI_1 i]; rfl)) ?_
      rw [show rany (fun p => ¬ X.2.1 28 p = 0 ∧ ¬ evS X s g p = X.2.1 26 p) i (m + 1) = rany (fun p => ¬ X.2.1 28 p = 0 ∧ ¬ evS X s g p = X.2.1 26 p) (i + 1) m by rw [rany, if_neg (fun h9 => h9.1 h21)]]
      exact ih (i + 1) (by omega)
    · refine z_aload_n (i := 0) dX2_keepsLocks_24 rfl rfl (q := 25) rfl ?_
      refine z_iload_n (i := 3) dX2_keepsLocks_25 rfl rfl (q := 26) rfl ?_
      refine z_iload_n (i := 1) dX2_keepsLocks_26 rfl rfl (q := 27) rfl ?_
      refine z_iload_n (i := 2) dX2_keepsLocks_27 rfl rfl (q := 28) rfl ?_
      refine z_callVF (As := [_, _, _]) dX2_keepsLocks_28 kX2_84 (c_X2_startInPlace (by omega)) (wo_evenSearch _ _ _) rfl rfl (zle rfl) ⟨zle rfl, zle rfl⟩ ⟨zle rfl, zle rfl⟩ (q := 31) rfl ?_
      refine z_aload_n (i := 0) dX2_keepsLocks_31 rfl rfl (q := 32) rfl ?_
      refine z_get dX2_keepsLocks_32 fX2_20 (wo_evenSearch _ _ _) rfl (q := 35) rfl ?_
      refine z_iload_n (i := 3) dX2_keepsLocks_35 rfl rfl (q := 36) rfl ?_
      refine z_callVF (As := [_]) dX2_keepsLocks_36 kX2_43 (c_X4_get  (wr_26 _ _ _) (by omega) (by decide)) (wr_26 _ _ _).1 rfl rfl (zle rfl) ⟨zle rfl, zle rfl⟩ ⟨zle rfl, zle rfl⟩ (q := 39) rfl ?_
      refine z_icmp_eq (tgt := 44) dX2_keepsLocks_39 (by decide) (q := 42) rfl (fun h39 => ?_) (fun h39 => ?_)
      · refine z_iinc dX2_keepsLocks_44 rfl rfl (zle rfl) rfl (q := 47) rfl ?_
        refine z_goto (tgt := 2) dX2_keepsLocks_47 (by decide) ?_
        refine Z.eql (zl2 := [some (.ref 57), some (.int s), some (.int g), some (.int (nI (i + 1)))]) (by first | (rw [← nI_1 i]; done) | (rw [← nI_1 i]; rfl)) ?_
        rw [show rany (fun p => ¬ X.2.1 28 p = 0 ∧ ¬ evS X s g p = X.2.1 26 p) i (m + 1) = rany (fun p => ¬ X.2.1 28 p = 0 ∧ ¬ evS X s g p = X.2.1 26 p) (i + 1) m by rw [rany, if_neg (fun h9 => h9.2 h39)]]
        exact ih (i + 1) (by omega)
      · refine z_iconst (v := 0) dX2_keepsLocks_42 rfl (q := 43) rfl ?_
        exact z_zret dX2_keepsLocks_43 rfl rfl ⟨zle rfl, zle rfl⟩ ⟨by rw [rany, if_pos ⟨h21, h39⟩]; rfl, rfl⟩
set_option maxRecDepth 100000 in
set_option maxHeartbeats 4000000 in
theorem c_X2_keepsLocks {n : Nat} {s g : Int32} (hn : X.1 25 = nI n) (h4 : n ≤ 4) : ZM G mX2_keepsLocks 2 0 0 [.ref 57, .int s, .int g] (zw X Y O) (zEq (some (.int (zB (!rany (fun p => ¬ X.2.1 28 p = 0 ∧ ¬ evS X s g p = X.2.1 26 p) 0 n)))) (zw X Y O)) := by
  refine ZM.go pX2 rfl rfl (zle rfl) (zl := [some (.ref 57), some (.int s), some (.int g), none]) rfl ?_
  refine z_iconst (v := 0) dX2_keepsLocks_0 rfl (q := 1) rfl ?_
  refine z_istore_n (i := 3) dX2_keepsLocks_1 rfl (zle rfl) rfl (q := 2) rfl ?_
  exact z_X2_keepsLocks_2 hn h4 n 0 (by omega)
end
