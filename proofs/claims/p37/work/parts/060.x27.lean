section
variable {G : zG} {X : zX} {Y : zY} {O : zO}
/- what lasts between calls is as it was -/
set_option maxRecDepth 100000 in
set_option maxHeartbeats 4000000 in
def keep0 (X X2 : zX) : Prop := (∀ r, r ≤ 10 → X2.1 r = X.1 r ∧ X2.2.1 r = X.2.1 r) ∧ X2.2.2.2 = X.2.2.2
set_option maxRecDepth 100000 in
set_option maxHeartbeats 4000000 in
theorem keep0_kp {X X2 : zX} (h : kp 11 24 X X2) : keep0 X X2 := ⟨fun r hr => h.1 r (by omega), congrArg Prod.snd h.2⟩
set_option maxRecDepth 100000 in
set_option maxHeartbeats 4000000 in
theorem keep0_ks {X X2 X3 : zX} (h : keep0 X X2) (h2 : ks X2 X3) : keep0 X X3 :=
  ⟨fun r hr => ⟨(h2.1 r (by omega)).1.trans (h.1 r hr).1, (h2.1 r (by omega)).2.trans (h.1 r hr).2⟩, h2.2.trans h.2⟩
/- B is what a search along t finds -/
set_option maxRecDepth 100000 in
set_option maxHeartbeats 4000000 in
def tdR (X : zX) (t n nw : Nat) (B : bst) : Prop := ∃ (T : tsP) (X1 : zX), tsK X1 n T ∧ tsS X t n nw T ∧ res n (comp T n 0 (Tpv T)) (tval T 0 n 0 0) (fAll T (Tpv T), 0, Tpv T) B
/- g is what the search of all along t finds -/
set_option maxRecDepth 100000 in
set_option maxHeartbeats 4000000 in
def taR (X : zX) (t n nw g : Nat) : Prop := ∃ (T : tsP) (X1 : zX), tsK X1 n T ∧ tsS X t n nw T ∧ gI n T (pr (Tcc T) 0 n) g
set_option maxRecDepth 100000 in
set_option maxHeartbeats 4000000 in
theorem own_chN {n nw : Nat} (h : inv X n nw) {t : Nat} (ht : t < 2) {k : Nat} (hk : k < n) : chN X t n k (num (X.2.1 (2 * t) k)) := by
  have ha := inv_axis h ht hk
  have h2 := h.2.2.2.2.1 k hk
  have e : nI (num (X.2.1 (2 * t) k)) = X.2.1 (2 * t) k := ha.1.1.symm
  refine ⟨ha.1.2, ?_, ?_⟩
  · rw [e]; exact Or.inl rfl
  · rw [e]
    refine ⟨Or.inr rfl, ?_⟩
    rcases (show t = 0 ∨ t = 1 by omega) with rfl | rfl
    · have e1 : X.2.1 (2 * 0) k = nI (num (X.2.1 0 k)) := h2.1.1
      have e2 : X.2.1 (2 * 0 + 1) k = nI (num (X.2.1 1 k)) := h2.2.1.1
      show ¬ X.2.1 (2 * 0) k < 0 ∧ ¬ 200 - X.2.1 (2 * 0 + 1) k < X.2.1 (2 * 0) k
      rw [e1, e2]
      refine ⟨nI_pos (by have := h2.1.2; omega), ?_⟩
      rw [show (200 : Int32) = nI 200 from rfl, nI_sub h2.2.1.2, nI_ltI (by omega) (by have := h2.1.2; omega)]
      have := h2.2.2.2.2.2.2.1
      omega
    · have e1 : X.2.1 (2 * 1) k = nI (num (X.2.1 2 k)) := h2.2.2.1.1
      have e2 : X.2.1 (2 * 1 + 1) k = nI (num (X.2.1 3 k)) := h2.2.2.2.1.1
      show ¬ X.2.1 (2 * 1) k < 0 ∧ ¬ 120 - X.2.1 (2 * 1 + 1) k < X.2.1 (2 * 1) k
      rw [e1, e2]
      refine ⟨nI_pos (by have := h2.2.2.1.2; omega), ?_⟩
      rw [show (120 : Int32) = nI 120 from rfl, nI_sub h2.2.2.2.1.2, nI_ltI (by omega) (by have := h2.2.2.1.2; omega)]
      have := h2.2.2.2.2.2.2.2.1
      omega
set_option maxRecDepth 100000 in
set_option maxHeartbeats 4000000 in
theorem tsS_pos {n nw t : Nat} {T : tsP} (h : inv X n nw) (ht : t < 2) (hS : tsS X t n nw T) : ∀ j, j < n → 0 < Tcc T j := by
  intro j hj
  obtain ⟨i, hi, _⟩ := ((hS.1 j hj).2.2 _).mpr (own_chN h ht hj)
  omega
set_option maxRecDepth 100000 in
set_option maxHeartbeats 4000000 in
theorem c_X8_loadTidySearch_0 {n nw : Nat} (hI : inv X n nw) : ZM G mX8_loadTidySearch 4 0 0 [.ref 0, .int (zch 0)] (zw X Y O) (fun r w2 => r = .inl none ∧ ∃ (X2 : zX) (T : tsP), w2 = zw X2 Y O ∧ kp 11 24 X X2 ∧ tsK X2 n T ∧ tsS X 0 n nw T) := by
  refine ZM.go pX8 rfl rfl (zle rfl) (zl := [some (.ref 0), some (.int (zch 0)), none]) rfl ?_
  refine z_aload_n (i := 0) dX8_loadTidySearch_0 rfl rfl (q := 1) rfl ?_
  refine z_iload_n (i := 1) dX8_loadTidySearch_1 rfl rfl (q := 2) rfl ?_
  refine z_callVF (As := [_]) dX8_loadTidySearch_2 kX8_116 (c_X8_axisNamed (t := 0) (by decide)) (wo_x _ _ _) rfl rfl (zle rfl) ⟨zle rfl, zle rfl⟩ ⟨zle rfl, zle rfl⟩ (q := 5) rfl ?_
  refine z_astore_n (i := 2) dX8_loadTidySearch_5 rfl (zle rfl) rfl (q := 6) rfl ?_
  refine z_aload_n (i := 0) dX8_loadTidySearch_6 rfl rfl (q := 7) rfl ?_
  refine z_get dX8_loadTidySearch_7 fX8_41 (wo_x _ _ _) rfl (q := 10) rfl ?_
  refine z_aload_n (i := 2) dX8_loadTidySearch_10 rfl rfl (q := 11) rfl ?_
  refine z_iload_n (i := 1) dX8_loadTidySearch_11 rfl rfl (q := 12) rfl ?_
  refine z_bipush (v := 120) dX8_loadTidySearch_12 rfl (q := 14) rfl ?_
  refine z_icmp_ne (tgt := 24) dX8_loadTidySearch_14 (by decide) (q := 17) rfl (fun h14 => absurd (by decide) h14) (fun h14 => ?_)
  refine z_aload_n (i := 0) dX8_loadTidySearch_17 rfl rfl (q := 18) rfl ?_
  refine z_get dX8_loadTidySearch_18 fX8_18 (wo_x _ _ _) rfl (q := 21) rfl ?_
  refine z_goto (tgt := 28) dX8_loadTidySearch_21 (by decide) ?_
  refine z_aload_n (i := 0) dX8_loadTidySearch_28 rfl rfl (q := 29) rfl ?_
  refine z_get dX8_loadTidySearch_29 fX8_24 (wo_x _ _ _) rfl (q := 32) rfl ?_
  refine z_callV (As := [_, _, _]) dX8_loadTidySearch_32 kX8_322 (c_X6_load_0 (hI.2.2.1 (2 * 0) (by decide)) hI.1) (wo_tidySearch _ _ _) rfl rfl (zle rfl) ⟨zle rfl, zle rfl⟩ ⟨zle rfl, zle rfl⟩ (q := 35) rfl (fun rv w2 hw2 => ?_) (fun E w2 h9 => by cases h9.1)
  obtain ⟨h9, X1, c, bf, bs, rfl, hL⟩ := hw2
  cases h9
  have hs1 : wshapes X1 nw (wA X) (wB X) := fun k hk => by have h9 := inv_shapes hI k hk; exact ⟨(kp_f hL.1 (by decide) k).trans h9.1, (kp_f hL.1 (by decide) k).trans h9.2.1, h9.2.2⟩
  refine z_aload_n (i := 0) dX8_loadTidySearch_35 rfl rfl (q := 36) rfl ?_
  refine z_get dX8_loadTidySearch_36 fX8_41 (wo_x _ _ _) rfl (q := 39) rfl ?_
  refine z_aload_n (i := 0) dX8_loadTidySearch_39 rfl rfl (q := 40) rfl ?_
  refine z_get dX8_loadTidySearch_40 fX8_34 (wo_x _ _ _) rfl (q := 43) rfl ?_
  refine z_iload_n (i := 1) dX8_loadTidySearch_43 rfl rfl (q := 44) rfl ?_
  refine z_callV (As := [_, _]) dX8_loadTidySearch_44 kX8_325 (c_X6_loadWishes (X := X1) (t := 0) ((hL.1.1 6 (by decide)).1.trans (hI.2.2.2.1 6 (by decide) (by decide))) hI.2.1 hs1) (wo_tidySearch _ _ _) rfl rfl (zle rfl) ⟨zle rfl, zle rfl⟩ ⟨zle rfl, zle rfl⟩ (q := 47) rfl (fun rv w2 hw2 => ?_) (fun E w2 h9 => by cases h9.1)
  obtain ⟨h9, X2, c2, wi, rfl, hk2, hw⟩ := hw2
  cases h9
  obtain ⟨T, hT, hS⟩ := tsK_of (t := 0) hI (by decide) hL hk2 (wI_x (hL.1.1 6 (by decide)).2 (hL.1.1 9 (by decide)).2 (hL.1.1 10 (by decide)).2 hw)
  exact z_vret dX8_loadTidySearch_47 rfl ⟨zle rfl, zle rfl⟩ ⟨rfl, X2, T, rfl, kp_trans hL.1 (kp_wide hk2 (by omega) (by omega)), hT, hS⟩
set_option maxRecDepth 100000 in
set_option maxHeartbeats 4000000 in
theorem c_X8_searchTidiest_0 {n nw : Nat} (hI : inv X n nw) : ZM G mX8_searchTidiest 12 0 0 [.ref 0, .int (zch 0)] (zw X Y O) (fun r w2 => r = .inl none ∧ ∃ (X2 : zX) (B : bst), w2 = zw X2 Y O ∧ keep0 X X2 ∧ bestW X2 n B ∧ tdR X 0 n nw B) := by
  refine ZM.go pX8 rfl rfl (zle rfl) (zl := [some (.ref 0), some (.int (zch 0))]) rfl ?_
  refine z_aload_n (i := 0) dX8_searchTidiest_0 rfl rfl (q := 1) rfl ?_
  refine z_iload_n (i := 1) dX8_searchTidiest_1 rfl rfl (q := 2) rfl ?_
  refine z_callV (As := [_]) dX8_searchTidiest_2 kX8_226 (c_X8_loadTidySearch_0 hI) (wo_x _ _ _) rfl rfl (zle rfl) ⟨zle rfl, zle rfl⟩ ⟨zle rfl, zle rfl⟩ (q := 5) rfl (fun rv w2 hw2 => ?_) (fun E w2 h9 => by cases h9.1)
  obtain ⟨h9, X2, T, rfl, hk, hT, hS⟩ := hw2
  cases h9
  refine z_aload_n (i := 0) dX8_searchTidiest_5 rfl rfl (q := 6) rfl ?_
  refine z_get dX8_searchTidiest_6 fX8_41 (wo_x _ _ _) rfl (q := 9) rfl ?_
  refine z_callV (As := []) dX8_searchTidiest_9 kX8_329 (c_X6_searchTidiest hT) (wo_tidySearch _ _ _) rfl rfl (zle rfl) ⟨zle rfl, zle rfl⟩ ⟨zle rfl, zle rfl⟩ (q := 12) rfl (fun rv w2 hw2 => ?_) (fun E w2 h9 => by cases h9.1)
  obtain ⟨h9, X3, B2, rfl, hk2, hB2, hr⟩ := hw2
  cases h9
  exact z_vret dX8_searchTidiest_12 rfl ⟨zle rfl, zle rfl⟩ ⟨rfl, X3, B2, rfl, keep0_ks (keep0_kp hk) hk2, hB2, T, X2, hT, hS, hr⟩
set_option maxRecDepth 100000 in
set_option maxHeartbeats 4000000 in
theorem c_X8_bestStrength_0 {n nw : Nat} (hI : inv X n nw) : ZM G mX8_bestStrength 13 1 6 [.ref 0, .int (zch 0)] (zw X Y O) (fun r w2 => ∃ (X2 : zX) (B : bst), tdR X 0 n nw B ∧ r = .inl (some (.int (nI (B.1)))) ∧ w2 = zw X2 Y O ∧ keep0 X X2) := by
  refine ZM.go pX8 rfl rfl (zle rfl) (zl := [some (.ref 0), some (.int (zch 0))]) rfl ?_
  refine z_aload_n (i := 0) dX8_bestStrength_0 rfl rfl (q := 1) rfl ?_
  refine z_iload_n (i := 1) dX8_bestStrength_1 rfl rfl (q := 2) rfl ?_
  refine z_callV (As := [_]) dX8_bestStrength_2 kX8_219 (c_X8_searchTidiest_0 hI) (wo_x _ _ _) rfl rfl (zle rfl) ⟨zle rfl, zle rfl⟩ ⟨zle rfl, zle rfl⟩ (q := 5) rfl (fun rv w2 hw2 => ?_) (fun E w2 h9 => by cases h9.1)
  obtain ⟨h9, X2, B, rfl, hk, hB, hr⟩ := hw2
  cases h9
  refine z_aload_n (i := 0) dX8_bestStrength_5 rfl rfl (q := 6) rfl ?_
  refine z_get dX8_bestStrength_6 fX8_41 (wo_x _ _ _) rfl (q := 9) rfl ?_
  refine z_callVF (As := []) dX8_bestStrength_9 kX8_223 (c_X6_foundStrength ) (wo_tidySearch _ _ _) rfl rfl (zle rfl) ⟨zle rfl, zle rfl⟩ ⟨zle rfl, zle rfl⟩ (q := 12) rfl ?_
  rw [hB.1]
  exact z_iret dX8_bestStrength_12 rfl ⟨zle rfl, zle rfl⟩ ⟨X2, B, hr, rfl, rfl, hk⟩
set_option maxRecDepth 100000 in
set_option maxHeartbeats 4000000 in
theorem c_X8_tidyCost_0 {n nw : Nat} (hI : inv X n nw) : ZM G mX8_tidyCost 13 1 6 [.ref 0, .int (zch 0)] (zw X Y O) (fun r w2 => ∃ (X2 : zX) (B : bst), tdR X 0 n nw B ∧ r = .inl (some (.int (nI (B.2.1)))) ∧ w2 = zw X2 Y O ∧ keep0 X X2) := by
  refine ZM.go pX8 rfl rfl (zle rfl) (zl := [some (.ref 0), some (.int (zch 0))]) rfl ?_
  refine z_aload_n (i := 0) dX8_tidyCost_0 rfl rfl (q := 1) rfl ?_
  refine z_iload_n (i := 1) dX8_tidyCost_1 rfl rfl (q := 2) rfl ?_
  refine z_callV (As := [_]) dX8_tidyCost_2 kX8_219 (c_X8_searchTidiest_0 hI) (wo_x _ _ _) rfl rfl (zle rfl) ⟨zle rfl, zle rfl⟩ ⟨zle rfl, zle rfl⟩ (q := 5) rfl (fun rv w2 hw2 => ?_) (fun E w2 h9 => by cases h9.1)
  obtain ⟨h9, X2, B, rfl, hk, hB, hr⟩ := hw2
  cases h9
  refine z_aload_n (i := 0) dX8_tidyCost_5 rfl rfl (q := 6) rfl ?_
  refine z_get dX8_tidyCost_6 fX8_41 (wo_x _ _ _) rfl (q := 9) rfl ?_
  refine z_callVF (As := []) dX8_tidyCost_9 kX8_232 (c_X6_foundCost ) (wo_tidySearch _ _ _) rfl rfl (zle rfl) ⟨zle rfl, zle rfl⟩ ⟨zle rfl, zle rfl⟩ (q := 12) rfl ?_
  rw [hB.2.1]
  exact z_iret dX8_tidyCost_12 rfl ⟨zle rfl, zle rfl⟩ ⟨X2, B, hr, rfl, rfl, hk⟩
set_option maxRecDepth 100000 in
set_option maxHeartbeats 4000000 in
theorem c_X8_tidyStart_0 {n nw k : Nat} (hI : inv X n nw) (hk9 : k < n) : ZM G mX8_tidyStart 13 1 6 [.ref 0, .int (nI k), .int (zch 0)] (zw X Y O) (fun r w2 => ∃ (X2 : zX) (B : bst), tdR X 0 n nw B ∧ r = .inl (some (.int (nI (B.2.2 k)))) ∧ w2 = zw X2 Y O ∧ keep0 X X2) := by
  have h4 := hI.1
  refine ZM.go pX8 rfl rfl (zle rfl) (zl := [some (.ref 0), some (.int (nI k)), some (.int (zch 0))]) rfl ?_
  refine z_aload_n (i := 0) dX8_tidyStart_0 rfl rfl (q := 1) rfl ?_
  refine z_iload_n (i := 1) dX8_tidyStart_1 rfl rfl (q := 2) rfl ?_
  refine z_callVF (As := [_]) dX8_tidyStart_2 kX8_106 (c_X8_requireShape (hI.2.2.1 0 (by decide)) hI.1 hk9) (wo_x _ _ _) rfl rfl (zle rfl) ⟨zle rfl, zle rfl⟩ ⟨zle rfl, zle rfl⟩ (q := 5) rfl ?_
  refine z_aload_n (i := 0) dX8_tidyStart_5 rfl rfl (q := 6) rfl ?_
  refine z_iload_n (i := 2) dX8_tidyStart_6 rfl rfl (q := 7) rfl ?_
  refine z_callV (As := [_]) dX8_tidyStart_7 kX8_219 (c_X8_searchTidiest_0 hI) (wo_x _ _ _) rfl rfl (zle rfl) ⟨zle rfl, zle rfl⟩ ⟨zle rfl, zle rfl⟩ (q := 10) rfl (fun rv w2 hw2 => ?_) (fun E w2 h9 => by cases h9.1)
  obtain ⟨h9, X2, B, rfl, hk, hB, hr⟩ := hw2
  cases h9
  refine z_aload_n (i := 0) dX8_tidyStart_10 rfl rfl (q := 11) rfl ?_
  refine z_get dX8_tidyStart_11 fX8_41 (wo_x _ _ _) rfl (q := 14) rfl ?_
  refine z_iload_n (i := 1) dX8_tidyStart_14 rfl rfl (q := 15) rfl ?_
  refine z_callVF (As := [_]) dX8_tidyStart_15 kX8_235 (c_X6_foundStart (k := k) (by omega)) (wo_tidySearch _ _ _) rfl rfl (zle rfl) ⟨zle rfl, zle rfl⟩ ⟨zle rfl, zle rfl⟩ (q := 18) rfl ?_
  rw [hB.2.2.2.2 k hk9]
  exact z_iret dX8_tidyStart_18 rfl ⟨zle rfl, zle rfl⟩ ⟨X2, B, hr, rfl, rfl, hk⟩
set_option maxRecDepth 100000 in
set_option maxHeartbeats 4000000 in
theorem c_X8_bestByAll_0 {n nw : Nat} (hI : inv X n nw) : ZM G mX8_bestByAll 13 1 6 [.ref 0, .int (zch 0)] (zw X Y O) (fun r w2 => ∃ (X2 : zX) (g : Nat), taR X 0 n nw g ∧ r = .inl (some (.int (nI g))) ∧ w2 = zw X2 Y O ∧ keep0 X X2) := by
  refine ZM.go pX8 rfl rfl (zle rfl) (zl := [some (.ref 0), some (.int (zch 0))]) rfl ?_
  refine z_aload_n (i := 0) dX8_bestByAll_0 rfl rfl (q := 1) rfl ?_
  refine z_iload_n (i := 1) dX8_bestByAll_1 rfl rfl (q := 2) rfl ?_
  refine z_callV (As := [_]) dX8_bestByAll_2 kX8_226 (c_X8_loadTidySearch_0 hI) (wo_x _ _ _) rfl rfl (zle rfl) ⟨zle rfl, zle rfl⟩ ⟨zle rfl, zle rfl⟩ (q := 5) rfl (fun rv w2 hw2 => ?_) (fun E w2 h9 => by cases h9.1)
  obtain ⟨h9, X2, T, rfl, hk, hT, hS⟩ := hw2
  cases h9
  refine z_aload_n (i := 0) dX8_bestByAll_5 rfl rfl (q := 6) rfl ?_
  refine z_get dX8_bestByAll_6 fX8_41 (wo_x _ _ _) rfl (q := 9) rfl ?_
  refine z_callV (As := []) dX8_bestByAll_9 kX8_229 (c_X6_greatestStrengthOfAll hT (tsS_pos hI (t := 0) (by decide) hS)) (wo_tidySearch _ _ _) rfl rfl (zle rfl) ⟨zle rfl, zle rfl⟩ ⟨zle rfl, zle rfl⟩ (q := 12) rfl (fun rv w2 hw2 => ?_) (fun E w2 h9 => by obtain ⟨_, _, h9, _⟩ := h9; cases h9)
  obtain ⟨X3, g, h9, rfl, hk2, hg⟩ := hw2
  cases h9
  exact z_iret dX8_bestByAll_12 rfl ⟨zle rfl, zle rfl⟩ ⟨X3, g, ⟨T, X2, hT, hS, hg⟩, rfl, rfl, keep0_ks (keep0_kp hk) hk2⟩
set_option maxRecDepth 100000 in
set_option maxHeartbeats 4000000 in
theorem c_X8_loadTidySearch_1 {n nw : Nat} (hI : inv X n nw) : ZM G mX8_loadTidySearch 4 0 0 [.ref 0, .int (zch 1)] (zw X Y O) (fun r w2 => r = .inl none ∧ ∃ (X2 : zX) (T : tsP), w2 = zw X2 Y O ∧ kp 11 24 X X2 ∧ tsK X2 n T ∧ tsS X 1 n nw T) := by
  refine ZM.go pX8 rfl rfl (zle rfl) (zl := [some (.ref 0), some (.int (zch 1)), none]) rfl ?_
  refine z_aload_n (i := 0) dX8_loadTidySearch_0 rfl rfl (q := 1) rfl ?_
  refine z_iload_n (i := 1) dX8_loadTidySearch_1 rfl rfl (q := 2) rfl ?_
  refine z_callVF (As := [_]) dX8_loadTidySearch_2 kX8_116 (c_X8_axisNamed (t := 1) (by decide)) (wo_x _ _ _) rfl rfl (zle rfl) ⟨zle rfl, zle rfl⟩ ⟨zle rfl, zle rfl⟩ (q := 5) rfl ?_
  refine z_astore_n (i := 2) dX8_loadTidySearch_5 rfl (zle rfl) rfl (q := 6) rfl ?_
  refine z_aload_n (i := 0) dX8_loadTidySearch_6 rfl rfl (q := 7) rfl ?_
  refine z_get dX8_loadTidySearch_7 fX8_41 (wo_x _ _ _) rfl (q := 10) rfl ?_
  refine z_aload_n (i := 2) dX8_loadTidySearch_10 rfl rfl (q := 11) rfl ?_
  refine z_iload_n (i := 1) dX8_loadTidySearch_11 rfl rfl (q := 12) rfl ?_
  refine z_bipush (v := 120) dX8_loadTidySearch_12 rfl (q := 14) rfl ?_
  refine z_icmp_ne (tgt := 24) dX8_loadTidySearch_14 (by decide) (q := 17) rfl (fun h14 => ?_) (fun h14 => absurd h14 (by decide))
  refine z_aload_n (i := 0) dX8_loadTidySearch_24 rfl rfl (q := 25) rfl ?_
  refine z_get dX8_loadTidySearch_25 fX8_14 (wo_x _ _ _) rfl (q := 28) rfl ?_
  refine z_aload_n (i := 0) dX8_loadTidySearch_28 rfl rfl (q := 29) rfl ?_
  refine z_get dX8_loadTidySearch_29 fX8_24 (wo_x _ _ _) rfl (q := 32) rfl ?_
  refine z_callV (As := [_, _, _]) dX8_loadTidySearch_32 kX8_322 (c_X6_load_1 (hI.2.2.1 (2 * 1) (by decide)) hI.1) (wo_tidySearch _ _ _) rfl rfl (zle rfl) ⟨zle rfl, zle rfl⟩ ⟨zle rfl, zle rfl⟩ (q := 35) rfl (fun rv w2 hw2 => ?_) (fun E w2 h9 => by cases h9.1)
  obtain ⟨h9, X1, c, bf, bs, rfl, hL⟩ := hw2
  cases h9
  have hs1 : wshapes X1 nw (wA X) (wB X) := fun k hk => by have h9 := inv_shapes hI k hk; exact ⟨(kp_f hL.1 (by decide) k).trans h9.1, (kp_f hL.1 (by decide) k).trans h9.2.1, h9.2.2⟩
  refine z_aload_n (i := 0) dX8_loadTidySearch_35 rfl rfl (q := 36) rfl ?_
  refine z_get dX8_loadTidySearch_36 fX8_41 (wo_x _ _ _) rfl (q := 39) rfl ?_
  refine z_aload_n (i := 0) dX8_loadTidySearch_39 rfl rfl (q := 40) rfl ?_
  refine z_get dX8_loadTidySearch_40 fX8_34 (wo_x _ _ _) rfl (q := 43) rfl ?_
  refine z_iload_n (i := 1) dX8_loadTidySearch_43 rfl rfl (q := 44) rfl ?_
  refine z_callV (As := [_, _]) dX8_loadTidySearch_44 kX8_325 (c_X6_loadWishes (X := X1) (t := 1) ((hL.1.1 6 (by decide)).1.trans (hI.2.2.2.1 6 (by decide) (by decide))) hI.2.1 hs1) (wo_tidySearch _ _ _) rfl rfl (zle rfl) ⟨zle rfl, zle rfl⟩ ⟨zle rfl, zle rfl⟩ (q := 47) rfl (fun rv w2 hw2 => ?_) (fun E w2 h9 => by cases h9.1)
  obtain ⟨h9, X2, c2, wi, rfl, hk2, hw⟩ := hw2
  cases h9
  obtain ⟨T, hT, hS⟩ := tsK_of (t := 1) hI (by decide) hL hk2 (wI_x (hL.1.1 6 (by decide)).2 (hL.1.1 9 (by decide)).2 (hL.1.1 10 (by decide)).2 hw)
  exact z_vret dX8_loadTidySearch_47 rfl ⟨zle rfl, zle rfl⟩ ⟨rfl, X2, T, rfl, kp_trans hL.1 (kp_wide hk2 (by omega) (by omega)), hT, hS⟩
set_option maxRecDepth 100000 in
set_option maxHeartbeats 4000000 in
theorem c_X8_searchTidiest_1 {n nw : Nat} (hI : inv X n nw) : ZM G mX8_searchTidiest 12 0 0 [.ref 0, .int (zch 1)] (zw X Y O) (fun r w2 => r = .inl none ∧ ∃ (X2 : zX) (B : bst), w2 = zw X2 Y O ∧ keep0 X X2 ∧ bestW X2 n B ∧ tdR X 1 n nw B) := by
  refine ZM.go pX8 rfl rfl (zle rfl) (zl := [some (.ref 0), some (.int (zch 1))]) rfl ?_
  refine z_aload_n (i := 0) dX8_searchTidiest_0 rfl rfl (q := 1) rfl ?_
  refine z_iload_n (i := 1) dX8_searchTidiest_1 rfl rfl (q := 2) rfl ?_
  refine z_callV (As := [_]) dX8_searchTidiest_2 kX8_226 (c_X8_loadTidySearch_1 hI) (wo_x _ _ _) rfl rfl (zle rfl) ⟨zle rfl, zle rfl⟩ ⟨zle rfl, zle rfl⟩ (q := 5) rfl (fun rv w2 hw2 => ?_) (fun E w2 h9 => by cases h9.1)
  obtain ⟨h9, X2, T, rfl, hk, hT, hS⟩ := hw2
  cases h9
  refine z_aload_n (i := 0) dX8_searchTidiest_5 rfl rfl (q := 6) rfl ?_
  refine z_get dX8_searchTidiest_6 fX8_41 (wo_x _ _ _) rfl (q := 9) rfl ?_
  refine z_callV (As := []) dX8_searchTidiest_9 kX8_329 (c_X6_searchTidiest hT) (wo_tidySearch _ _ _) rfl rfl (zle rfl) ⟨zle rfl, zle rfl⟩ ⟨zle rfl, zle rfl⟩ (q := 12) rfl (fun rv w2 hw2 => ?_) (fun E w2 h9 => by cases h9.1)
  obtain ⟨h9, X3, B2, rfl, hk2, hB2, hr⟩ := hw2
  cases h9
  exact z_vret dX8_searchTidiest_12 rfl ⟨zle rfl, zle rfl⟩ ⟨rfl, X3, B2, rfl, keep0_ks (keep0_kp hk) hk2, hB2, T, X2, hT, hS, hr⟩
set_option maxRecDepth 100000 in
set_option maxHeartbeats 4000000 in
theorem c_X8_bestStrength_1 {n nw : Nat} (hI : inv X n nw) : ZM G mX8_bestStrength 13 1 6 [.ref 0, .int (zch 1)] (zw X Y O) (fun r w2 => ∃ (X2 : zX) (B : bst), tdR X 1 n nw B ∧ r = .inl (some (.int (nI (B.1)))) ∧ w2 = zw X2 Y O ∧ keep0 X X2) := by
  refine ZM.go pX8 rfl rfl (zle rfl) (zl := [some (.ref 0), some (.int (zch 1))]) rfl ?_
  refine z_aload_n (i := 0) dX8_bestStrength_0 rfl rfl (q := 1) rfl ?_
  refine z_iload_n (i := 1) dX8_bestStrength_1 rfl rfl (q := 2) rfl ?_
  refine z_callV (As := [_]) dX8_bestStrength_2 kX8_219 (c_X8_searchTidiest_1 hI) (wo_x _ _ _) rfl rfl (zle rfl) ⟨zle rfl, zle rfl⟩ ⟨zle rfl, zle rfl⟩ (q := 5) rfl (fun rv w2 hw2 => ?_) (fun E w2 h9 => by cases h9.1)
  obtain ⟨h9, X2, B, rfl, hk, hB, hr⟩ := hw2
  cases h9
  refine z_aload_n (i := 0) dX8_bestStrength_5 rfl rfl (q := 6) rfl ?_
  refine z_get dX8_bestStrength_6 fX8_41 (wo_x _ _ _) rfl (q := 9) rfl ?_
  refine z_callVF (As := []) dX8_bestStrength_9 kX8_223 (c_X6_foundStrength ) (wo_tidySearch _ _ _) rfl rfl (zle rfl) ⟨zle rfl, zle rfl⟩ ⟨zle rfl, zle rfl⟩ (q := 12) rfl ?_
  rw [hB.1]
  exact z_iret dX8_bestStrength_12 rfl ⟨zle rfl, zle rfl⟩ ⟨X2, B, hr, rfl, rfl, hk⟩
set_option maxRecDepth 100000 in
set_option maxHeartbeats 4000000 in
theorem c_X8_tidyCost_1 {n nw : Nat} (hI : inv X n nw) : ZM G mX8_tidyCost 13 1 6 [.ref 0, .int (zch 1)] (zw X Y O) (fun r w2 => ∃ (X2 : zX) (B : bst), tdR X 1 n nw B ∧ r = .inl (some (.int (nI (B.2.1)))) ∧ w2 = zw X2 Y O ∧ keep0 X X2) := by
  refine ZM.go pX8 rfl rfl (zle rfl) (zl := [some (.ref 0), some (.int (zch 1))]) rfl ?_
  refine z_aload_n (i := 0) dX8_tidyCost_0 rfl rfl (q := 1) rfl ?_
  refine z_iload_n (i := 1) dX8_tidyCost_1 rfl rfl (q := 2) rfl ?_
  refine z_callV (As := [_]) dX8_tidyCost_2 kX8_219 (c_X8_searchTidiest_1 hI) (wo_x _ _ _) rfl rfl (zle rfl) ⟨zle rfl, zle rfl⟩ ⟨zle rfl, zle rfl⟩ (q := 5) rfl (fun rv w2 hw2 => ?_) (fun E w2 h9 => by cases h9.1)
  obtain ⟨h9, X2, B, rfl, hk, hB, hr⟩ := hw2
  cases h9
  refine z_aload_n (i := 0) dX8_tidyCost_5 rfl rfl (q := 6) rfl ?_
  refine z_get dX8_tidyCost_6 fX8_41 (wo_x _ _ _) rfl (q := 9) rfl ?_
  refine z_callVF (As := []) dX8_tidyCost_9 kX8_232 (c_X6_foundCost ) (wo_tidySearch _ _ _) rfl rfl (zle rfl) ⟨zle rfl, zle rfl⟩ ⟨zle rfl, zle rfl⟩ (q := 12) rfl ?_
  rw [hB.2.1]
  exact z_iret dX8_tidyCost_12 rfl ⟨zle rfl, zle rfl⟩ ⟨X2, B, hr, rfl, rfl, hk⟩
set_option maxRecDepth 100000 in
set_option maxHeartbeats 4000000 in
theorem c_X8_tidyStart_1 {n nw k : Nat} (hI : inv X n nw) (hk9 : k < n) : ZM G mX8_tidyStart 13 1 6 [.ref 0, .int (nI k), .int (zch 1)] (zw X Y O) (fun r w2 => ∃ (X2 : zX) (B : bst), tdR X 1 n nw B ∧ r = .inl (some (.int (nI (B.2.2 k)))) ∧ w2 = zw X2 Y O ∧ keep0 X X2) := by
  have h4 := hI.1
  refine ZM.go pX8 rfl rfl (zle rfl) (zl := [some (.ref 0), some (.int (nI k)), some (.int (zch 1))]) rfl ?_
  refine z_aload_n (i := 0) dX8_tidyStart_0 rfl rfl (q := 1) rfl ?_
  refine z_iload_n (i := 1) dX8_tidyStart_1 rfl rfl (q := 2) rfl ?_
  refine z_callVF (As := [_]) dX8_tidyStart_2 kX8_106 (c_X8_requireShape (hI.2.2.1 0 (by decide)) hI.1 hk9) (wo_x _ _ _) rfl rfl (zle rfl) ⟨zle rfl, zle rfl⟩ ⟨zle rfl, zle rfl⟩ (q := 5) rfl ?_
  refine z_aload_n (i := 0) dX8_tidyStart_5 rfl rfl (q := 6) rfl ?_
  refine z_iload_n (i := 2) dX8_tidyStart_6 rfl rfl (q := 7) rfl ?_
  refine z_callV (As := [_]) dX8_tidyStart_7 kX8_219 (c_X8_searchTidiest_1 hI) (wo_x _ _ _) rfl rfl (zle rfl) ⟨zle rfl, zle rfl⟩ ⟨zle rfl, zle rfl⟩ (q := 10) rfl (fun rv w2 hw2 => ?_) (fun E w2 h9 => by cases h9.1)
  obtain ⟨h9, X2, B, rfl, hk, hB, hr⟩ := hw2
  cases h9
  refine z_aload_n (i := 0) dX8_tidyStart_10 rfl rfl (q := 11) rfl ?_
  refine z_get dX8_tidyStart_11 fX8_41 (wo_x _ _ _) rfl (q := 14) rfl ?_
  refine z_iload_n (i := 1) dX8_tidyStart_14 rfl rfl (q := 15) rfl ?_
  refine z_callVF (As := [_]) dX8_tidyStart_15 kX8_235 (c_X6_foundStart (k := k) (by omega)) (wo_tidySearch _ _ _) rfl rfl (zle rfl) ⟨zle rfl, zle rfl⟩ ⟨zle rfl, zle rfl⟩ (q := 18) rfl ?_
  rw [hB.2.2.2.2 k hk9]
  exact z_iret dX8_tidyStart_18 rfl ⟨zle rfl, zle rfl⟩ ⟨X2, B, hr, rfl, rfl, hk⟩
set_option maxRecDepth 100000 in
set_option maxHeartbeats 4000000 in
theorem c_X8_bestByAll_1 {n nw : Nat} (hI : inv X n nw) : ZM G mX8_bestByAll 13 1 6 [.ref 0, .int (zch 1)] (zw X Y O) (fun r w2 => ∃ (X2 : zX) (g : Nat), taR X 1 n nw g ∧ r = .inl (some (.int (nI g))) ∧ w2 = zw X2 Y O ∧ keep0 X X2) := by
  refine ZM.go pX8 rfl rfl (zle rfl) (zl := [some (.ref 0), some (.int (zch 1))]) rfl ?_
  refine z_aload_n (i := 0) dX8_bestByAll_0 rfl rfl (q := 1) rfl ?_
  refine z_iload_n (i := 1) dX8_bestByAll_1 rfl rfl (q := 2) rfl ?_
  refine z_callV (As := [_]) dX8_bestByAll_2 kX8_226 (c_X8_loadTidySearch_1 hI) (wo_x _ _ _) rfl rfl (zle rfl) ⟨zle rfl, zle rfl⟩ ⟨zle rfl, zle rfl⟩ (q := 5) rfl (fun rv w2 hw2 => ?_) (fun E w2 h9 => by cases h9.1)
  obtain ⟨h9, X2, T, rfl, hk, hT, hS⟩ := hw2
  cases h9
  refine z_aload_n (i := 0) dX8_bestByAll_5 rfl rfl (q := 6) rfl ?_
  refine z_get dX8_bestByAll_6 fX8_41 (wo_x _ _ _) rfl (q := 9) rfl ?_
  refine z_callV (As := []) dX8_bestByAll_9 kX8_229 (c_X6_greatestStrengthOfAll hT (tsS_pos hI (t := 1) (by decide) hS)) (wo_tidySearch _ _ _) rfl rfl (zle rfl) ⟨zle rfl, zle rfl⟩ ⟨zle rfl, zle rfl⟩ (q := 12) rfl (fun rv w2 hw2 => ?_) (fun E w2 h9 => by obtain ⟨_, _, h9, _⟩ := h9; cases h9)
  obtain ⟨X3, g, h9, rfl, hk2, hg⟩ := hw2
  cases h9
  exact z_iret dX8_bestByAll_12 rfl ⟨zle rfl, zle rfl⟩ ⟨X3, g, ⟨T, X2, hT, hS, hg⟩, rfl, rfl, keep0_ks (keep0_kp hk) hk2⟩
set_option maxRecDepth 100000 in
set_option maxHeartbeats 4000000 in
theorem c_X8_loadTidySearch_ax {c : Int32} (h1 : ¬ c = 120) (h2 : ¬ c = 121) : ZM G mX8_loadTidySearch 4 1 6 [.ref 0, .int c] (zw X Y O) (zTh eIAE (zw X Y O)) := by
  refine ZM.go pX8 rfl rfl (zle rfl) (zl := [some (.ref 0), some (.int c), none]) rfl ?_
  refine z_aload_n (i := 0) dX8_loadTidySearch_0 rfl rfl (q := 1) rfl ?_
  refine z_iload_n (i := 1) dX8_loadTidySearch_1 rfl rfl (q := 2) rfl ?_
  exact z_callVT (As := [_]) dX8_loadTidySearch_2 kX8_116 (c_X8_axisNamed_out h1 h2) (wo_x _ _ _) rfl rfl rfl (zle rfl) ⟨zle rfl, zle rfl⟩ ⟨zle rfl, zle rfl⟩ ⟨rfl, rfl⟩
set_option maxRecDepth 100000 in
set_option maxHeartbeats 4000000 in
theorem c_X8_searchTidiest_ax {c : Int32} (h1 : ¬ c = 120) (h2 : ¬ c = 121) : ZM G mX8_searchTidiest 12 1 6 [.ref 0, .int c] (zw X Y O) (zTh eIAE (zw X Y O)) := by
  refine ZM.go pX8 rfl rfl (zle rfl) (zl := [some (.ref 0), some (.int c)]) rfl ?_
  refine z_aload_n (i := 0) dX8_searchTidiest_0 rfl rfl (q := 1) rfl ?_
  refine z_iload_n (i := 1) dX8_searchTidiest_1 rfl rfl (q := 2) rfl ?_
  exact z_callVT (As := [_]) dX8_searchTidiest_2 kX8_226 (c_X8_loadTidySearch_ax h1 h2) (wo_x _ _ _) rfl rfl rfl (zle rfl) ⟨zle rfl, zle rfl⟩ ⟨zle rfl, zle rfl⟩ ⟨rfl, rfl⟩
set_option maxRecDepth 100000 in
set_option maxHeartbeats 4000000 in
theorem c_X8_bestStrength_ax {c : Int32} (h1 : ¬ c = 120) (h2 : ¬ c = 121) : ZM G mX8_bestStrength 13 1 6 [.ref 0, .int c] (zw X Y O) (zTh eIAE (zw X Y O)) := by
  refine ZM.go pX8 rfl rfl (zle rfl) (zl := [some (.ref 0), some (.int c)]) rfl ?_
  refine z_aload_n (i := 0) dX8_bestStrength_0 rfl rfl (q := 1) rfl ?_
  refine z_iload_n (i := 1) dX8_bestStrength_1 rfl rfl (q := 2) rfl ?_
  exact z_callVT (As := [_]) dX8_bestStrength_2 kX8_219 (c_X8_searchTidiest_ax h1 h2) (wo_x _ _ _) rfl rfl rfl (zle rfl) ⟨zle rfl, zle rfl⟩ ⟨zle rfl, zle rfl⟩ ⟨rfl, rfl⟩
set_option maxRecDepth 100000 in
set_option maxHeartbeats 4000000 in
theorem c_X8_tidyCost_ax {c : Int32} (h1 : ¬ c = 120) (h2 : ¬ c = 121) : ZM G mX8_tidyCost 13 1 6 [.ref 0, .int c] (zw X Y O) (zTh eIAE (zw X Y O)) := by
  refine ZM.go pX8 rfl rfl (zle rfl) (zl := [some (.ref 0), some (.int c)]) rfl ?_
  refine z_aload_n (i := 0) dX8_tidyCost_0 rfl rfl (q := 1) rfl ?_
  refine z_iload_n (i := 1) dX8_tidyCost_1 rfl rfl (q := 2) rfl ?_
  exact z_callVT (As := [_]) dX8_tidyCost_2 kX8_219 (c_X8_searchTidiest_ax h1 h2) (wo_x _ _ _) rfl rfl rfl (zle rfl) ⟨zle rfl, zle rfl⟩ ⟨zle rfl, zle rfl⟩ ⟨rfl, rfl⟩
set_option maxRecDepth 100000 in
set_option maxHeartbeats 4000000 in
theorem c_X8_bestByAll_ax {c : Int32} (h1 : ¬ c = 120) (h2 : ¬ c = 121) : ZM G mX8_bestByAll 13 1 6 [.ref 0, .int c] (zw X Y O) (zTh eIAE (zw X Y O)) := by
  refine ZM.go pX8 rfl rfl (zle rfl) (zl := [some (.ref 0), some (.int c)]) rfl ?_
  refine z_aload_n (i := 0) dX8_bestByAll_0 rfl rfl (q := 1) rfl ?_
  refine z_iload_n (i := 1) dX8_bestByAll_1 rfl rfl (q := 2) rfl ?_
  exact z_callVT (As := [_]) dX8_bestByAll_2 kX8_226 (c_X8_loadTidySearch_ax h1 h2) (wo_x _ _ _) rfl rfl rfl (zle rfl) ⟨zle rfl, zle rfl⟩ ⟨zle rfl, zle rfl⟩ ⟨rfl, rfl⟩
set_option maxRecDepth 100000 in
set_option maxHeartbeats 4000000 in
theorem c_X8_tidy_ax {c : Int32} (h1 : ¬ c = 120) (h2 : ¬ c = 121) : ZM G mX8_tidy 13 1 6 [.ref 0, .int c] (zw X Y O) (zTh eIAE (zw X Y O)) := by
  refine ZM.go pX8 rfl rfl (zle rfl) (zl := [some (.ref 0), some (.int c), none, none]) rfl ?_
  refine z_aload_n (i := 0) dX8_tidy_0 rfl rfl (q := 1) rfl ?_
  refine z_iload_n (i := 1) dX8_tidy_1 rfl rfl (q := 2) rfl ?_
  exact z_callVT (As := [_]) dX8_tidy_2 kX8_219 (c_X8_searchTidiest_ax h1 h2) (wo_x _ _ _) rfl rfl rfl (zle rfl) ⟨zle rfl, zle rfl⟩ ⟨zle rfl, zle rfl⟩ ⟨rfl, rfl⟩
set_option maxRecDepth 100000 in
set_option maxHeartbeats 4000000 in
theorem c_X8_tidyStart_ax {n k : Nat} (hn : X.1 0 = nI n) (h4 : n ≤ 4) (hk : k < n) {c : Int32} (h1 : ¬ c = 120) (h2 : ¬ c = 121) : ZM G mX8_tidyStart 13 1 6 [.ref 0, .int (nI k), .int c] (zw X Y O) (zTh eIAE (zw X Y O)) := by
  refine ZM.go pX8 rfl rfl (zle rfl) (zl := [some (.ref 0), some (.int (nI k)), some (.int c)]) rfl ?_
  refine z_aload_n (i := 0) dX8_tidyStart_0 rfl rfl (q := 1) rfl ?_
  refine z_iload_n (i := 1) dX8_tidyStart_1 rfl rfl (q := 2) rfl ?_
  refine z_callVF (As := [_]) dX8_tidyStart_2 kX8_106 (c_X8_requireShape hn h4 hk) (wo_x _ _ _) rfl rfl (zle rfl) ⟨zle rfl, zle rfl⟩ ⟨zle rfl, zle rfl⟩ (q := 5) rfl ?_
  refine z_aload_n (i := 0) dX8_tidyStart_5 rfl rfl (q := 6) rfl ?_
  refine z_iload_n (i := 2) dX8_tidyStart_6 rfl rfl (q := 7) rfl ?_
  exact z_callVT (As := [_]) dX8_tidyStart_7 kX8_219 (c_X8_searchTidiest_ax h1 h2) (wo_x _ _ _) rfl rfl rfl (zle rfl) ⟨zle rfl, zle rfl⟩ ⟨zle rfl, zle rfl⟩ ⟨rfl, rfl⟩
set_option maxRecDepth 100000 in
set_option maxHeartbeats 4000000 in
theorem c_X8_tidyStart_out {n : Nat} {s : Int32} (hn : X.1 0 = nI n) (h : s < 0 ∨ nI n ≤ s) {c : Int32} : ZM G mX8_tidyStart 13 1 6 [.ref 0, .int s, .int c] (zw X Y O) (zTh eIOOBE (zw X Y O)) := by
  refine ZM.go pX8 rfl rfl (zle rfl) (zl := [some (.ref 0), some (.int s), some (.int c)]) rfl ?_
  refine z_aload_n (i := 0) dX8_tidyStart_0 rfl rfl (q := 1) rfl ?_
  refine z_iload_n (i := 1) dX8_tidyStart_1 rfl rfl (q := 2) rfl ?_
  exact z_callVT (As := [_]) dX8_tidyStart_2 kX8_106 (c_X8_requireShape_out hn h) (wo_x _ _ _) rfl rfl rfl (zle rfl) ⟨zle rfl, zle rfl⟩ ⟨zle rfl, zle rfl⟩ ⟨rfl, rfl⟩
end
