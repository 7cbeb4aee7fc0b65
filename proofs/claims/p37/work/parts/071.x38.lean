section
variable {G : zG} {X : zX} {Y : zY} {O : zO}
set_option maxRecDepth 100000 in
set_option maxHeartbeats 4000000 in
theorem ordR_inj {t n : Nat} {o : Nat → Nat} (h : ordR X t n o) {p q : Nat} (hpq : p < q) (hq : q < n) : o p ≠ o q := fun e => by
  have h1 := h.2.1 p q hpq hq
  rw [e] at h1
  exact Nat.lt_irrefl _ h1
/- the state behind a spread by the finding -/
set_option maxRecDepth 100000 in
set_option maxHeartbeats 4000000 in
def spR (X : zX) (t n : Nat) (o : Nat → Nat) (c g s : Nat) (X3 : zX) : Prop := ∃ D : Nat → Nat, (∀ p, p < n → D (o p) = pN (eSb X t o) g s p) ∧ mvR X t n D c X3
set_option maxRecDepth 100000 in
set_option maxHeartbeats 4000000 in
theorem spR_of {X1 X2 : zX} {t n c g s : Nat} {o : Nat → Nat} (ht : t < 2) (hk : keep0 X X1) (h : k1 (2 * t) X1 X2) (hc : X2.2.2.1 3 = nI c) (ho : ordR X t n o) (hb : ∀ p, p < n → pN (eSb X t o) g s p ≤ 2000) (hp : ∀ p, p < n → X2.2.1 (2 * t) (o p) = nI (pN (eSb X t o) g s p)) : spR X t n o c g s (xmv X2 (X2.2.2.2 + (nI c).toInt64)) := by
  refine ⟨fun k => num (X2.2.1 (2 * t) k), fun p h1 => ?_, mvR_of ht hk h (Or.inr hc) (fun k h1 => ?_)⟩
  · show num (X2.2.1 (2 * t) (o p)) = _
    rw [hp p h1, num_nI (by have := hb p h1; omega)]
  · obtain ⟨p, h2, e⟩ := ho.2.2 k h1
    show X2.2.1 (2 * t) k = nI (num (X2.2.1 (2 * t) k))
    rw [← e, hp p h2, num_nI (by have := hb p h2; omega)]
/- what a spread answers and leaves -/
set_option maxRecDepth 100000 in
set_option maxHeartbeats 4000000 in
def spA (X : zX) (t n : Nat) (o : Nat → Nat) (X3 : zX) : eb → zRes → Prop
  | none, r => r = .inr eNSE ∧ keep0 X X3
  | some (c, g, s), r => r = .inl (some (.int (nI g))) ∧ spR X t n o c g s X3
set_option maxRecDepth 100000 in
set_option maxHeartbeats 4000000 in
theorem z_X8_spread_31_0 {n c g s : Nat} {o : Nat → Nat} {X2 : zX} (h4 : n ≤ 4) (hk0 : keep0 X X2) (hB : evB X2 (some (c, g, s))) (hR : evR X 0 n o (some (c, g, s))) (hbp : ∀ p, p < n → pN (eSb X 0 o) g s p ≤ 2000) (hord : ∀ p, p < n → X2.2.1 25 p = nI (o p)) (hsb : ∀ p, p < n → X2.2.1 27 p = nI (eSb X 0 o p)) : ∀ (m i : Nat) (X1 : zX), i + m = n → k1 (2 * 0) X2 X1 → X1.1 0 = nI n → (∀ p, p < i → X1.2.1 (2 * 0) (o p) = nI (pN (eSb X 0 o) g s p)) → Z G mX8_spread (zrm 6 1 6) 0 0 31 [some (.ref 0), some (.int (zch 0)), some (.ref 1), some (.int (nI i))] [] (zw X1 Y O) (fun r w2 => ∃ (X3 : zX) (o : Nat → Nat) (b : eb), evR X 0 n o b ∧ w2 = zw X3 Y O ∧ spA X 0 n o X3 b r) := by
  intro m
  induction m with
  | zero =>
    intro i X1 hi hk hn1 hp
    have he3 : X1.2.2.1 3 = nI c := (congrFun (congrArg Prod.fst hk.2.2) 3).trans hB.1
    have he4 : X1.2.2.1 4 = nI g := (congrFun (congrArg Prod.fst hk.2.2) 4).trans hB.2.1
    have he5 : X1.2.2.1 5 = nI s := (congrFun (congrArg Prod.fst hk.2.2) 5).trans hB.2.2.1
    refine z_iload_n (i := 3) dX8_spread_31 rfl rfl (q := 32) rfl ?_
    refine z_aload_n (i := 0) dX8_spread_32 rfl rfl (q := 33) rfl ?_
    refine z_callVF (As := []) dX8_spread_33 kX8_82 (c_X8_shapeCount ) (wo_x _ _ _) rfl rfl (zle rfl) ⟨zle rfl, zle rfl⟩ ⟨zle rfl, zle rfl⟩ (q := 36) rfl ?_
    rw [hn1]
    refine z_icmp_ge (tgt := 65) dX8_spread_36 (by decide) (q := 39) rfl (fun h36 => ?_) (fun h36 => absurd (zge_t (by omega)) h36)
    refine z_aload_n (i := 0) dX8_spread_65 rfl rfl (q := 66) rfl ?_
    refine z_dup dX8_spread_66 rfl (q := 67) rfl ?_
    refine z_get dX8_spread_67 fX8_65 (wo_x _ _ _) rfl (q := 70) rfl ?_
    refine z_aload_n (i := 0) dX8_spread_70 rfl rfl (q := 71) rfl ?_
    refine z_get dX8_spread_71 fX8_48 (wo_x _ _ _) rfl (q := 74) rfl ?_
    refine z_callVF (As := []) dX8_spread_74 kX8_248 (c_X2_foundCost ) (wo_evenSearch _ _ _) rfl rfl (zle rfl) ⟨zle rfl, zle rfl⟩ ⟨zle rfl, zle rfl⟩ (q := 77) rfl ?_
    refine z_i2l dX8_spread_77 (q := 78) rfl ?_
    rw [show X1.2.2.1 3 = nI c from he3]
    refine z_ladd dX8_spread_78 (q := 79) rfl ?_
    refine z_put dX8_spread_79 fX8_65 (wo_x _ _ _) (zle rfl) (zfit_long _) (q := 82) rfl ?_
    refine Z.eqw (wmv _ _ _ _) ?_
    refine z_aload_n (i := 0) dX8_spread_82 rfl rfl (q := 83) rfl ?_
    refine z_get dX8_spread_83 fX8_48 (wo_x _ _ _) rfl (q := 86) rfl ?_
    refine z_callVF (As := []) dX8_spread_86 kX8_256 (c_X2_foundGap ) (wo_evenSearch _ _ _) rfl rfl (zle rfl) ⟨zle rfl, zle rfl⟩ ⟨zle rfl, zle rfl⟩ (q := 89) rfl ?_
    exact z_iret dX8_spread_89 rfl ⟨zle rfl, zle rfl⟩ ⟨_, o, some (c, g, s), hR, rfl, congrArg (fun v => Sum.inl (some (Value.int v))) he4, spR_of (by decide) hk0 hk he3 hR.1 hbp (fun p h => hp p (by omega))⟩
  | succ m ih =>
    intro i X1 hi hk hn1 hp
    have he3 : X1.2.2.1 3 = nI c := (congrFun (congrArg Prod.fst hk.2.2) 3).trans hB.1
    have he4 : X1.2.2.1 4 = nI g := (congrFun (congrArg Prod.fst hk.2.2) 4).trans hB.2.1
    have he5 : X1.2.2.1 5 = nI s := (congrFun (congrArg Prod.fst hk.2.2) 5).trans hB.2.2.1
    have hoi := hR.1.1 i (by omega)
    refine z_iload_n (i := 3) dX8_spread_31 rfl rfl (q := 32) rfl ?_
    refine z_aload_n (i := 0) dX8_spread_32 rfl rfl (q := 33) rfl ?_
    refine z_callVF (As := []) dX8_spread_33 kX8_82 (c_X8_shapeCount ) (wo_x _ _ _) rfl rfl (zle rfl) ⟨zle rfl, zle rfl⟩ ⟨zle rfl, zle rfl⟩ (q := 36) rfl ?_
    rw [hn1]
    refine z_icmp_ge (tgt := 65) dX8_spread_36 (by decide) (q := 39) rfl (fun h36 => absurd h36 (zge_f (by omega) (by omega))) (fun h36 => ?_)
    refine z_aload_n (i := 2) dX8_spread_39 rfl rfl (q := 40) rfl ?_
    refine z_aload_n (i := 0) dX8_spread_40 rfl rfl (q := 41) rfl ?_
    refine z_get dX8_spread_41 fX8_48 (wo_x _ _ _) rfl (q := 44) rfl ?_
    refine z_iload_n (i := 3) dX8_spread_44 rfl rfl (q := 45) rfl ?_
    refine z_callVF (As := [_]) dX8_spread_45 kX8_252 (c_X2_shapeInPlace (by omega)) (wo_evenSearch _ _ _) rfl rfl (zle rfl) ⟨zle rfl, zle rfl⟩ ⟨zle rfl, zle rfl⟩ (q := 48) rfl ?_
    rw [show X1.2.1 25 i = nI (o i) from (congrFun (hk.1 25 (by decide)).2 i).trans (hord i (by omega))]
    refine z_aload_n (i := 0) dX8_spread_48 rfl rfl (q := 49) rfl ?_
    refine z_get dX8_spread_49 fX8_48 (wo_x _ _ _) rfl (q := 52) rfl ?_
    refine z_iload_n (i := 3) dX8_spread_52 rfl rfl (q := 53) rfl ?_
    refine z_callVF (As := [_]) dX8_spread_53 kX8_255 (c_X2_foundStart (by omega)) (wo_evenSearch _ _ _) rfl rfl (zle rfl) ⟨zle rfl, zle rfl⟩ ⟨zle rfl, zle rfl⟩ (q := 56) rfl ?_
    rw [show X1.2.2.1 5 + X1.2.1 27 i + X1.2.2.1 4 * nI i = nI (pN (eSb X 0 o) g s i) by rw [he5, he4, show X1.2.1 27 i = nI (eSb X 0 o i) from (congrFun (hk.1 27 (by decide)).2 i).trans (hsb i (by omega)), nI_mul, nI_add, nI_add]]
    refine z_callVF (As := [_, _]) dX8_spread_56 kX8_142 (c_X0_setStart (t := 0) (by decide) (show o i < 4 by omega)) (wo_across _ _ _) rfl rfl (zle rfl) ⟨zle rfl, zle rfl⟩ ⟨zle rfl, zle rfl⟩ (q := 59) rfl ?_
    refine z_iinc dX8_spread_59 rfl rfl (zle rfl) rfl (q := 62) rfl ?_
    refine z_goto (tgt := 31) dX8_spread_62 (by decide) ?_
    refine Z.eql (zl2 := [some (.ref 0), some (.int (zch 0)), some (.ref 1), some (.int (nI (i + 1)))]) (by first | (rw [← nI_1 i]; done) | (rw [← nI_1 i]; rfl)) ?_
    refine ih (i + 1) _ (by omega) (k1_row hk _) hn1 (fun p h => ?_)
    rw [xrow_f]
    rcases Nat.lt_or_ge p i with h1 | h1
    · exact (if_neg (ordR_inj hR.1 h1 (by omega))).trans (hp p h1)
    · rw [show p = i by omega]; exact if_pos rfl
set_option maxRecDepth 100000 in
set_option maxHeartbeats 4000000 in
theorem c_X8_spread_0 {n nw : Nat} (hI : inv X n nw) : ZM G mX8_spread 6 1 6 [.ref 0, .int (zch 0)] (zw X Y O) (fun r w2 => ∃ (X3 : zX) (o : Nat → Nat) (b : eb), evR X 0 n o b ∧ w2 = zw X3 Y O ∧ spA X 0 n o X3 b r) := by
  refine ZM.go pX8 rfl rfl (zle rfl) (zl := [some (.ref 0), some (.int (zch 0)), none, none]) rfl ?_
  refine z_aload_n (i := 0) dX8_spread_0 rfl rfl (q := 1) rfl ?_
  refine z_iload_n (i := 1) dX8_spread_1 rfl rfl (q := 2) rfl ?_
  refine z_callVF (As := [_]) dX8_spread_2 kX8_116 (c_X8_axisNamed (t := 0) (by decide)) (wo_x _ _ _) rfl rfl (zle rfl) ⟨zle rfl, zle rfl⟩ ⟨zle rfl, zle rfl⟩ (q := 5) rfl ?_
  refine z_astore_n (i := 2) dX8_spread_5 rfl (zle rfl) rfl (q := 6) rfl ?_
  refine z_aload_n (i := 0) dX8_spread_6 rfl rfl (q := 7) rfl ?_
  refine z_get dX8_spread_7 fX8_48 (wo_x _ _ _) rfl (q := 10) rfl ?_
  refine z_aload_n (i := 2) dX8_spread_10 rfl rfl (q := 11) rfl ?_
  refine z_aload_n (i := 0) dX8_spread_11 rfl rfl (q := 12) rfl ?_
  refine z_get dX8_spread_12 fX8_24 (wo_x _ _ _) rfl (q := 15) rfl ?_
  refine z_callV (As := [_, _]) dX8_spread_15 kX8_238 (c_X2_load_0 (hI.2.2.1 (2 * 0) (by decide)) hI.1 (fun j hj => inv_axis hI (t := 0) (by decide) hj)) (wo_evenSearch _ _ _) rfl rfl (zle rfl) ⟨zle rfl, zle rfl⟩ ⟨zle rfl, zle rfl⟩ (q := 18) rfl (fun rv w2 hw2 => ?_) (fun E w2 h9 => by cases h9.1)
  obtain ⟨h9, X2, o, rfl, hk, hev, ho, hf⟩ := hw2
  cases h9
  obtain ⟨hE, hF⟩ := evN_of (t := 0) hI (by decide) hev ho hf
  refine z_aload_n (i := 0) dX8_spread_18 rfl rfl (q := 19) rfl ?_
  refine z_get dX8_spread_19 fX8_48 (wo_x _ _ _) rfl (q := 22) rfl ?_
  refine z_callV (As := []) dX8_spread_22 kX8_242 (c_X2_searchBestStarts hE hF) (wo_evenSearch _ _ _) rfl rfl (zle rfl) ⟨zle rfl, zle rfl⟩ ⟨zle rfl, zle rfl⟩ (q := 25) rfl (fun rv w2 hw2 => ?_) (fun E w2 h9 => by cases h9.1)
  obtain ⟨h9, X3, b, rfl, hk3, hb, hr⟩ := hw2
  cases h9
  rcases b with _ | ⟨c, g, s⟩
  · refine z_aload_n (i := 0) dX8_spread_25 rfl rfl (q := 26) rfl ?_
    exact z_callVT (As := []) dX8_spread_26 kX8_245 (c_X8_requireEvenLayout_no hb) (wo_x _ _ _) rfl rfl rfl (zle rfl) ⟨zle rfl, zle rfl⟩ ⟨zle rfl, zle rfl⟩ ⟨X3, o, none, ⟨ho, hr⟩, rfl, rfl, ke_0 (ke_k3 hk hk3)⟩
  · refine z_aload_n (i := 0) dX8_spread_25 rfl rfl (q := 26) rfl ?_
    refine z_callVF (As := []) dX8_spread_26 kX8_245 (c_X8_requireEvenLayout (fun h9 => nI_neg1 (by have := hb.2.2.2.1; omega) (hb.1.symm.trans h9))) (wo_x _ _ _) rfl rfl (zle rfl) ⟨zle rfl, zle rfl⟩ ⟨zle rfl, zle rfl⟩ (q := 29) rfl ?_
    refine z_iconst (v := 0) dX8_spread_29 rfl (q := 30) rfl ?_
    refine z_istore_n (i := 3) dX8_spread_30 rfl (zle rfl) rfl (q := 31) rfl ?_
    have hE3 := evN_k3 hk3 hE
    exact z_X8_spread_31_0 hI.1 (ke_0 (ke_k3 hk hk3)) hb ⟨ho, hr⟩ (fun p hp => by have h9 := pN_le hE3 hp hb.2.2.2.2.1 hb.2.2.2.2.2; omega) (fun p hp => (congrFun (hk3.1 25 (by decide)).2 p).trans (hev.2.1 p hp)) (fun p hp => (congrFun (hk3.1 27 (by decide)).2 p).trans (hev.2.2.2.2.2 p hp).2.1) n 0 X3 (by omega) (k1_refl _ _) (((ke_k3 hk hk3).1 0 (by decide)).1.trans (hI.2.2.1 0 (by decide))) (fun p h => absurd h (Nat.not_lt_zero _))
set_option maxRecDepth 100000 in
set_option maxHeartbeats 4000000 in
theorem z_X8_spread_31_1 {n c g s : Nat} {o : Nat → Nat} {X2 : zX} (h4 : n ≤ 4) (hk0 : keep0 X X2) (hB : evB X2 (some (c, g, s))) (hR : evR X 1 n o (some (c, g, s))) (hbp : ∀ p, p < n → pN (eSb X 1 o) g s p ≤ 2000) (hord : ∀ p, p < n → X2.2.1 25 p = nI (o p)) (hsb : ∀ p, p < n → X2.2.1 27 p = nI (eSb X 1 o p)) : ∀ (m i : Nat) (X1 : zX), i + m = n → k1 (2 * 1) X2 X1 → X1.1 0 = nI n → (∀ p, p < i → X1.2.1 (2 * 1) (o p) = nI (pN (eSb X 1 o) g s p)) → Z G mX8_spread (zrm 6 1 6) 0 0 31 [some (.ref 0), some (.int (zch 1)), some (.ref 6), some (.int (nI i))] [] (zw X1 Y O) (fun r w2 => ∃ (X3 : zX) (o : Nat → Nat) (b : eb), evR X 1 n o b ∧ w2 = zw X3 Y O ∧ spA X 1 n o X3 b r) := by
  intro m
  induction m with
  | zero =>
    intro i X1 hi hk hn1 hp
    have he3 : X1.2.2.1 3 = nI c := (congrFun (congrArg Prod.fst hk.2.2) 3).trans hB.1
    have he4 : X1.2.2.1 4 = nI g := (congrFun (congrArg Prod.fst hk.2.2) 4).trans hB.2.1
    have he5 : X1.2.2.1 5 = nI s := (congrFun (congrArg Prod.fst hk.2.2) 5).trans hB.2.2.1
    refine z_iload_n (i := 3) dX8_spread_31 rfl rfl (q := 32) rfl ?_
    refine z_aload_n (i := 0) dX8_spread_32 rfl rfl (q := 33) rfl ?_
    refine z_callVF (As := []) dX8_spread_33 kX8_82 (c_X8_shapeCount ) (wo_x _ _ _) rfl rfl (zle rfl) ⟨zle rfl, zle rfl⟩ ⟨zle rfl, zle rfl⟩ (q := 36) rfl ?_
    rw [hn1]
    refine z_icmp_ge (tgt := 65) dX8_spread_36 (by decide) (q := 39) rfl (fun h36 => ?_) (fun h36 => absurd (zge_t (by omega)) h36)
    refine z_aload_n (i := 0) dX8_spread_65 rfl rfl (q := 66) rfl ?_
    refine z_dup dX8_spread_66 rfl (q := 67) rfl ?_
    refine z_get dX8_spread_67 fX8_65 (wo_x _ _ _) rfl (q := 70) rfl ?_
    refine z_aload_n (i := 0) dX8_spread_70 rfl rfl (q := 71) rfl ?_
    refine z_get dX8_spread_71 fX8_48 (wo_x _ _ _) rfl (q := 74) rfl ?_
    refine z_callVF (As := []) dX8_spread_74 kX8_248 (c_X2_foundCost ) (wo_evenSearch _ _ _) rfl rfl (zle rfl) ⟨zle rfl, zle rfl⟩ ⟨zle rfl, zle rfl⟩ (q := 77) rfl ?_
    refine z_i2l dX8_spread_77 (q := 78) rfl ?_
    rw [show X1.2.2.1 3 = nI c from he3]
    refine z_ladd dX8_spread_78 (q := 79) rfl ?_
    refine z_put dX8_spread_79 fX8_65 (wo_x _ _ _) (zle rfl) (zfit_long _) (q := 82) rfl ?_
    refine Z.eqw (wmv _ _ _ _) ?_
    refine z_aload_n (i := 0) dX8_spread_82 rfl rfl (q := 83) rfl ?_
    refine z_get dX8_spread_83 fX8_48 (wo_x _ _ _) rfl (q := 86) rfl ?_
    refine z_callVF (As := []) dX8_spread_86 kX8_256 (c_X2_foundGap ) (wo_evenSearch _ _ _) rfl rfl (zle rfl) ⟨zle rfl, zle rfl⟩ ⟨zle rfl, zle rfl⟩ (q := 89) rfl ?_
    exact z_iret dX8_spread_89 rfl ⟨zle rfl, zle rfl⟩ ⟨_, o, some (c, g, s), hR, rfl, congrArg (fun v => Sum.inl (some (Value.int v))) he4, spR_of (by decide) hk0 hk he3 hR.1 hbp (fun p h => hp p (by omega))⟩
  | succ m ih =>
    intro i X1 hi hk hn1 hp
    have he3 : X1.2.2.1 3 = nI c := (congrFun (congrArg Prod.fst hk.2.2) 3).trans hB.1
    have he4 : X1.2.2.1 4 = nI g := (congrFun (congrArg Prod.fst hk.2.2) 4).trans hB.2.1
    have he5 : X1.2.2.1 5 = nI s := (congrFun (congrArg Prod.fst hk.2.2) 5).trans hB.2.2.1
    have hoi := hR.1.1 i (by omega)
    refine z_iload_n (i := 3) dX8_spread_31 rfl rfl (q := 32) rfl ?_
    refine z_aload_n (i := 0) dX8_spread_32 rfl rfl (q := 33) rfl ?_
    refine z_callVF (As := []) dX8_spread_33 kX8_82 (c_X8_shapeCount ) (wo_x _ _ _) rfl rfl (zle rfl) ⟨zle rfl, zle rfl⟩ ⟨zle rfl, zle rfl⟩ (q := 36) rfl ?_
    rw [hn1]
    refine z_icmp_ge (tgt := 65) dX8_spread_36 (by decide) (q := 39) rfl (fun h36 => absurd h36 (zge_f (by omega) (by omega))) (fun h36 => ?_)
    refine z_aload_n (i := 2) dX8_spread_39 rfl rfl (q := 40) rfl ?_
    refine z_aload_n (i := 0) dX8_spread_40 rfl rfl (q := 41) rfl ?_
    refine z_get dX8_spread_41 fX8_48 (wo_x _ _ _) rfl (q := 44) rfl ?_
    refine z_iload_n (i := 3) dX8_spread_44 rfl rfl (q := 45) rfl ?_
    refine z_callVF (As := [_]) dX8_spread_45 kX8_252 (c_X2_shapeInPlace (by omega)) (wo_evenSearch _ _ _) rfl rfl (zle rfl) ⟨zle rfl, zle rfl⟩ ⟨zle rfl, zle rfl⟩ (q := 48) rfl ?_
    rw [show X1.2.1 25 i = nI (o i) from (congrFun (hk.1 25 (by decide)).2 i).trans (hord i (by omega))]
    refine z_aload_n (i := 0) dX8_spread_48 rfl rfl (q := 49) rfl ?_
    refine z_get dX8_spread_49 fX8_48 (wo_x _ _ _) rfl (q := 52) rfl ?_
    refine z_iload_n (i := 3) dX8_spread_52 rfl rfl (q := 53) rfl ?_
    refine z_callVF (As := [_]) dX8_spread_53 kX8_255 (c_X2_foundStart (by omega)) (wo_evenSearch _ _ _) rfl rfl (zle rfl) ⟨zle rfl, zle rfl⟩ ⟨zle rfl, zle rfl⟩ (q := 56) rfl ?_
    rw [show X1.2.2.1 5 + X1.2.1 27 i + X1.2.2.1 4 * nI i = nI (pN (eSb X 1 o) g s i) by rw [he5, he4, show X1.2.1 27 i = nI (eSb X 1 o i) from (congrFun (hk.1 27 (by decide)).2 i).trans (hsb i (by omega)), nI_mul, nI_add, nI_add]]
    refine z_callVF (As := [_, _]) dX8_spread_56 kX8_142 (c_X0_setStart (t := 1) (by decide) (show o i < 4 by omega)) (wo_down _ _ _) rfl rfl (zle rfl) ⟨zle rfl, zle rfl⟩ ⟨zle rfl, zle rfl⟩ (q := 59) rfl ?_
    refine z_iinc dX8_spread_59 rfl rfl (zle rfl) rfl (q := 62) rfl ?_
    refine z_goto (tgt := 31) dX8_spread_62 (by decide) ?_
    refine Z.eql (zl2 := [some (.ref 0), some (.int (zch 1)), some (.ref 6), some (.int (nI (i + 1)))]) (by first | (rw [← nI_1 i]; done) | (rw [← nI_1 i]; rfl)) ?_
    refine ih (i + 1) _ (by omega) (k1_row hk _) hn1 (fun p h => ?_)
    rw [xrow_f]
    rcases Nat.lt_or_ge p i with h1 | h1
    · exact (if_neg (ordR_inj hR.1 h1 (by omega))).trans (hp p h1)
    · rw [show p = i by omega]; exact if_pos rfl
set_option maxRecDepth 100000 in
set_option maxHeartbeats 4000000 in
theorem c_X8_spread_1 {n nw : Nat} (hI : inv X n nw) : ZM G mX8_spread 6 1 6 [.ref 0, .int (zch 1)] (zw X Y O) (fun r w2 => ∃ (X3 : zX) (o : Nat → Nat) (b : eb), evR X 1 n o b ∧ w2 = zw X3 Y O ∧ spA X 1 n o X3 b r) := by
  refine ZM.go pX8 rfl rfl (zle rfl) (zl := [some (.ref 0), some (.int (zch 1)), none, none]) rfl ?_
  refine z_aload_n (i := 0) dX8_spread_0 rfl rfl (q := 1) rfl ?_
  refine z_iload_n (i := 1) dX8_spread_1 rfl rfl (q := 2) rfl ?_
  refine z_callVF (As := [_]) dX8_spread_2 kX8_116 (c_X8_axisNamed (t := 1) (by decide)) (wo_x _ _ _) rfl rfl (zle rfl) ⟨zle rfl, zle rfl⟩ ⟨zle rfl, zle rfl⟩ (q := 5) rfl ?_
  refine z_astore_n (i := 2) dX8_spread_5 rfl (zle rfl) rfl (q := 6) rfl ?_
  refine z_aload_n (i := 0) dX8_spread_6 rfl rfl (q := 7) rfl ?_
  refine z_get dX8_spread_7 fX8_48 (wo_x _ _ _) rfl (q := 10) rfl ?_
  refine z_aload_n (i := 2) dX8_spread_10 rfl rfl (q := 11) rfl ?_
  refine z_aload_n (i := 0) dX8_spread_11 rfl rfl (q := 12) rfl ?_
  refine z_get dX8_spread_12 fX8_24 (wo_x _ _ _) rfl (q := 15) rfl ?_
  refine z_callV (As := [_, _]) dX8_spread_15 kX8_238 (c_X2_load_1 (hI.2.2.1 (2 * 1) (by decide)) hI.1 (fun j hj => inv_axis hI (t := 1) (by decide) hj)) (wo_evenSearch _ _ _) rfl rfl (zle rfl) ⟨zle rfl, zle rfl⟩ ⟨zle rfl, zle rfl⟩ (q := 18) rfl (fun rv w2 hw2 => ?_) (fun E w2 h9 => by cases h9.1)
  obtain ⟨h9, X2, o, rfl, hk, hev, ho, hf⟩ := hw2
  cases h9
  obtain ⟨hE, hF⟩ := evN_of (t := 1) hI (by decide) hev ho hf
  refine z_aload_n (i := 0) dX8_spread_18 rfl rfl (q := 19) rfl ?_
  refine z_get dX8_spread_19 fX8_48 (wo_x _ _ _) rfl (q := 22) rfl ?_
  refine z_callV (As := []) dX8_spread_22 kX8_242 (c_X2_searchBestStarts hE hF) (wo_evenSearch _ _ _) rfl rfl (zle rfl) ⟨zle rfl, zle rfl⟩ ⟨zle rfl, zle rfl⟩ (q := 25) rfl (fun rv w2 hw2 => ?_) (fun E w2 h9 => by cases h9.1)
  obtain ⟨h9, X3, b, rfl, hk3, hb, hr⟩ := hw2
  cases h9
  rcases b with _ | ⟨c, g, s⟩
  · refine z_aload_n (i := 0) dX8_spread_25 rfl rfl (q := 26) rfl ?_
    exact z_callVT (As := []) dX8_spread_26 kX8_245 (c_X8_requireEvenLayout_no hb) (wo_x _ _ _) rfl rfl rfl (zle rfl) ⟨zle rfl, zle rfl⟩ ⟨zle rfl, zle rfl⟩ ⟨X3, o, none, ⟨ho, hr⟩, rfl, rfl, ke_0 (ke_k3 hk hk3)⟩
  · refine z_aload_n (i := 0) dX8_spread_25 rfl rfl (q := 26) rfl ?_
    refine z_callVF (As := []) dX8_spread_26 kX8_245 (c_X8_requireEvenLayout (fun h9 => nI_neg1 (by have := hb.2.2.2.1; omega) (hb.1.symm.trans h9))) (wo_x _ _ _) rfl rfl (zle rfl) ⟨zle rfl, zle rfl⟩ ⟨zle rfl, zle rfl⟩ (q := 29) rfl ?_
    refine z_iconst (v := 0) dX8_spread_29 rfl (q := 30) rfl ?_
    refine z_istore_n (i := 3) dX8_spread_30 rfl (zle rfl) rfl (q := 31) rfl ?_
    have hE3 := evN_k3 hk3 hE
    exact z_X8_spread_31_1 hI.1 (ke_0 (ke_k3 hk hk3)) hb ⟨ho, hr⟩ (fun p hp => by have h9 := pN_le hE3 hp hb.2.2.2.2.1 hb.2.2.2.2.2; omega) (fun p hp => (congrFun (hk3.1 25 (by decide)).2 p).trans (hev.2.1 p hp)) (fun p hp => (congrFun (hk3.1 27 (by decide)).2 p).trans (hev.2.2.2.2.2 p hp).2.1) n 0 X3 (by omega) (k1_refl _ _) (((ke_k3 hk hk3).1 0 (by decide)).1.trans (hI.2.2.1 0 (by decide))) (fun p h => absurd h (Nat.not_lt_zero _))
set_option maxRecDepth 100000 in
set_option maxHeartbeats 4000000 in
theorem c_X8_spread_ax {c : Int32} (h1 : ¬ c = 120) (h2 : ¬ c = 121) : ZM G mX8_spread 6 1 6 [.ref 0, .int c] (zw X Y O) (zTh eIAE (zw X Y O)) := by
  refine ZM.go pX8 rfl rfl (zle rfl) (zl := [some (.ref 0), some (.int c), none, none]) rfl ?_
  refine z_aload_n (i := 0) dX8_spread_0 rfl rfl (q := 1) rfl ?_
  refine z_iload_n (i := 1) dX8_spread_1 rfl rfl (q := 2) rfl ?_
  exact z_callVT (As := [_]) dX8_spread_2 kX8_116 (c_X8_axisNamed_out h1 h2) (wo_x _ _ _) rfl rfl rfl (zle rfl) ⟨zle rfl, zle rfl⟩ ⟨zle rfl, zle rfl⟩ ⟨rfl, rfl⟩
end
