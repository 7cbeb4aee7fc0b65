section
variable {G : zG} {X : zX} {Y : zY} {O : zO}
set_option maxRecDepth 100000 in
set_option maxHeartbeats 4000000 in
theorem z_X2_searchBestStarts_7 {n : Nat} {st sb : Nat → Nat} {lk : Nat → Int32} {F : Int32} {Fn : Nat} (hE : evN X n st sb lk F) (h2n : 2 ≤ n) (hFn : F = nI Fn) (hF2 : Fn ≤ 200) : ∀ (m g : Nat) (b : eb) (X1 : zX) (e : Option Value), g + m = Fn + 1 → k3 X X1 → evB X1 b → eres (candB n st sb lk F g 0) (fun g s => cN st sb g s 0 n) b → Z G mX2_searchBestStarts (zrm 5 0 0) 0 0 7 [some (.ref 57), some (.int (nI g)), e] [] (zw X1 Y O) (fun r w2 => r = .inl none ∧ ∃ (X2 : zX) (b : eb), w2 = zw X2 Y O ∧ k3 X X2 ∧ evB X2 b ∧ eres (cand n st sb lk F) (fun g s => cN st sb g s 0 n) b) := by
  have h4 := hE.1
  intro m
  induction m with
  | zero =>
    intro g b X1 e hg hk hb hr
    have hE1 := evN_k3 hk hE
    refine z_iload_n (i := 1) dX2_searchBestStarts_7 rfl rfl (q := 8) rfl ?_
    refine z_aload_n (i := 0) dX2_searchBestStarts_8 rfl rfl (q := 9) rfl ?_
    refine z_get dX2_searchBestStarts_9 fX2_61 (wo_evenSearch _ _ _) rfl (q := 12) rfl ?_
    rw [hE1.2.2.2.trans hFn]
    refine z_icmp_gt (tgt := 49) dX2_searchBestStarts_12 (by decide) (q := 15) rfl (fun h12 => ?_) (fun h12 => absurd ((nI_ltI (by omega) (by omega)).mpr (by omega)) h12)
    exact z_vret dX2_searchBestStarts_49 rfl ⟨zle rfl, zle rfl⟩ ⟨rfl, X1, b, rfl, hk, hb, eres_congr (fun g2 s2 => ⟨fun h6 => ⟨by obtain ⟨_, Fm, e1, e2, e3, e4, _⟩ := h6; have e5 : Fm = Fn := (nI_eq (by omega) (by omega)).mp (e1.symm.trans hFn); exact Or.inl (by omega), h6⟩, fun h6 => h6.2⟩) hr⟩
  | succ m ih =>
    intro g b X1 e hg hk hb hr
    have hE1 := evN_k3 hk hE
    refine z_iload_n (i := 1) dX2_searchBestStarts_7 rfl rfl (q := 8) rfl ?_
    refine z_aload_n (i := 0) dX2_searchBestStarts_8 rfl rfl (q := 9) rfl ?_
    refine z_get dX2_searchBestStarts_9 fX2_61 (wo_evenSearch _ _ _) rfl (q := 12) rfl ?_
    rw [hE1.2.2.2.trans hFn]
    refine z_icmp_gt (tgt := 49) dX2_searchBestStarts_12 (by decide) (q := 15) rfl (fun h12 => absurd h12 (fun h9 => absurd ((nI_ltI (by omega) (by omega)).mp h9) (by omega))) (fun h12 => ?_)
    refine z_aload_n (i := 0) dX2_searchBestStarts_15 rfl rfl (q := 16) rfl ?_
    refine z_get dX2_searchBestStarts_16 fX2_14 (wo_evenSearch _ _ _) rfl (q := 19) rfl ?_
    refine z_callVF (As := []) dX2_searchBestStarts_19 kX2_39 (c_X4_length (wr_25 _ _ _)) (wr_25 _ _ _).1 rfl rfl (zle rfl) ⟨zle rfl, zle rfl⟩ ⟨zle rfl, zle rfl⟩ (q := 22) rfl ?_
    rw [hE1.2.1]
    refine z_iconst (v := 2) dX2_searchBestStarts_22 rfl (q := 23) rfl ?_
    refine z_icmp_lt (tgt := 49) dX2_searchBestStarts_23 (by decide) (q := 26) rfl (fun h23 => absurd h23 (fun h9 => absurd ((nI_ltI (b := 2) (by omega) (by decide)).mp h9) (by omega))) (fun h23 => ?_)
    refine z_aload_n (i := 0) dX2_searchBestStarts_26 rfl rfl (q := 27) rfl ?_
    refine z_iload_n (i := 1) dX2_searchBestStarts_27 rfl rfl (q := 28) rfl ?_
    refine z_callV (As := [_]) dX2_searchBestStarts_28 kX2_88 (c_X2_bestStart hE1 h2n hFn hF2 (g := g) (by omega)) (wo_evenSearch _ _ _) rfl rfl (zle rfl) ⟨zle rfl, zle rfl⟩ ⟨zle rfl, zle rfl⟩ (q := 31) rfl (fun rv w2 hw2 => ?_) (fun E w2 h9 => by obtain ⟨_, _, h9, _⟩ := h9; cases h9)
    obtain ⟨X2, v, h9, rfl, hk2, hv⟩ := hw2
    cases h9
    rcases hv with ⟨rfl, hno⟩ | ⟨s, rfl, hs2, hcand, hbest⟩
    · refine z_istore_n (i := 2) dX2_searchBestStarts_31 rfl (zle rfl) rfl (q := 32) rfl ?_
      refine z_iload_n (i := 2) dX2_searchBestStarts_32 rfl rfl (q := 33) rfl ?_
      refine z_iconst (v := (-1)) dX2_searchBestStarts_33 rfl (q := 34) rfl ?_
      refine z_icmp_eq (tgt := 43) dX2_searchBestStarts_34 (by decide) (q := 37) rfl (fun h34 => ?_) (fun h34 => absurd rfl h34)
      refine z_iinc dX2_searchBestStarts_43 rfl rfl (zle rfl) rfl (q := 46) rfl ?_
      refine z_goto (tgt := 7) dX2_searchBestStarts_46 (by decide) ?_
      refine Z.eql (zl2 := [some (.ref 57), some (.int (nI (g + 1))), some (.int (-1))]) (by first | (rw [← nI_1 g]; done) | (rw [← nI_1 g]; rfl)) ?_
      refine ih (g + 1) b X2 _ (by omega) (k3_trans hk (k3_29 hk2)) (evB_29 hk2 hb) (eres_congr (fun g2 s2 => ?_) hr)
      constructor
      · rintro ⟨h5, h6⟩
        rcases Decidable.em (g2 = g) with h7 | h7
        · exact absurd (by rw [h7] at h6; exact h6) (hno s2)
        · exact ⟨Or.inl (by omega), h6⟩
      · rintro ⟨h5, h6⟩
        exact ⟨Or.inl (by omega), h6⟩
    · refine z_istore_n (i := 2) dX2_searchBestStarts_31 rfl (zle rfl) rfl (q := 32) rfl ?_
      refine z_iload_n (i := 2) dX2_searchBestStarts_32 rfl rfl (q := 33) rfl ?_
      refine z_iconst (v := (-1)) dX2_searchBestStarts_33 rfl (q := 34) rfl ?_
      refine z_icmp_eq (tgt := 43) dX2_searchBestStarts_34 (by decide) (q := 37) rfl (fun h34 => absurd h34 (nI_neg1 (by omega))) (fun h34 => ?_)
      refine z_aload_n (i := 0) dX2_searchBestStarts_37 rfl rfl (q := 38) rfl ?_
      refine z_iload_n (i := 2) dX2_searchBestStarts_38 rfl rfl (q := 39) rfl ?_
      refine z_iload_n (i := 1) dX2_searchBestStarts_39 rfl rfl (q := 40) rfl ?_
      refine z_callV (As := [_, _]) dX2_searchBestStarts_40 kX2_91 (c_X2_compare (evN_k3 (k3_29 hk2) hE1) (g := g) (s := s) (by omega) hs2 (evB_29 hk2 hb)) (wo_evenSearch _ _ _) rfl rfl (zle rfl) ⟨zle rfl, zle rfl⟩ ⟨zle rfl, zle rfl⟩ (q := 43) rfl (fun rv w2 hw2 => ?_) (fun E w2 h9 => by cases h9.1)
      obtain ⟨h9, X3, rfl, hk3, hb3⟩ := hw2
      cases h9
      refine z_iinc dX2_searchBestStarts_43 rfl rfl (zle rfl) rfl (q := 46) rfl ?_
      refine z_goto (tgt := 7) dX2_searchBestStarts_46 (by decide) ?_
      refine Z.eql (zl2 := [some (.ref 57), some (.int (nI (g + 1))), some (.int (nI s))]) (by first | (rw [← nI_1 g]; done) | (rw [← nI_1 g]; rfl)) ?_
      refine ih (g + 1) _ X3 _ (by omega) (k3_trans hk (k3_trans (k3_29 hk2) hk3)) hb3 (eres_gap (K := fun s2 => cand n st sb lk F g s2) (co := fun g s => cN st sb g s 0 n) (fun g2 s2 => ?_) (fun g2 s2 h5 => by have h6 := h5.1; omega) hcand hbest hr)
      constructor
      · rintro ⟨h5, h6⟩
        rcases Decidable.em (g2 = g) with h7 | h7
        · exact Or.inr ⟨h7, by rw [h7] at h6; exact h6⟩
        · exact Or.inl ⟨Or.inl (by omega), h6⟩
      · rintro (⟨h5, h6⟩ | ⟨rfl, h6⟩)
        · exact ⟨Or.inl (by omega), h6⟩
        · exact ⟨Or.inl (by omega), h6⟩
set_option maxRecDepth 100000 in
set_option maxHeartbeats 4000000 in
theorem c_X2_searchBestStarts {n : Nat} {st sb : Nat → Nat} {lk : Nat → Int32} {F : Int32} (hE : evN X n st sb lk F) (hF : F < 0 ∨ ∃ Fn, F = nI Fn ∧ Fn ≤ 200) : ZM G mX2_searchBestStarts 5 0 0 [.ref 57] (zw X Y O) (fun r w2 => r = .inl none ∧ ∃ (X2 : zX) (b : eb), w2 = zw X2 Y O ∧ k3 X X2 ∧ evB X2 b ∧ eres (cand n st sb lk F) (fun g s => cN st sb g s 0 n) b) := by
  refine ZM.go pX2 rfl rfl (zle rfl) (zl := [some (.ref 57), none, none]) rfl ?_
  refine z_aload_n (i := 0) dX2_searchBestStarts_0 rfl rfl (q := 1) rfl ?_
  refine z_iconst (v := (-1)) dX2_searchBestStarts_1 rfl (q := 2) rfl ?_
  refine z_put dX2_searchBestStarts_2 fX2_75 (wo_evenSearch _ _ _) (zle rfl) (zfit_int _) (q := 5) rfl ?_
  refine Z.eqw (wi_3 _ _ _ _) ?_
  refine z_iconst (v := 0) dX2_searchBestStarts_5 rfl (q := 6) rfl ?_
  refine z_istore_n (i := 1) dX2_searchBestStarts_6 rfl (zle rfl) rfl (q := 7) rfl ?_
  have hk : k3 X (xint X 3 (-1)) := ⟨fun _ _ => ⟨rfl, rfl⟩, rfl, rfl⟩
  have hE1 := evN_k3 hk hE
  have h4 := hE.1
  rcases hF with hF | ⟨Fn, hFn, hF2⟩
  · refine z_iload_n (i := 1) dX2_searchBestStarts_7 rfl rfl (q := 8) rfl ?_
    refine z_aload_n (i := 0) dX2_searchBestStarts_8 rfl rfl (q := 9) rfl ?_
    refine z_get dX2_searchBestStarts_9 fX2_61 (wo_evenSearch _ _ _) rfl (q := 12) rfl ?_
    rw [hE1.2.2.2]
    refine z_icmp_gt (tgt := 49) dX2_searchBestStarts_12 (by decide) (q := 15) rfl (fun h12 => ?_) (fun h12 => absurd hF h12)
    exact z_vret dX2_searchBestStarts_49 rfl ⟨zle rfl, zle rfl⟩ ⟨rfl, _, none, rfl, hk, rfl, eres_congr (S := fun _ _ => False) (fun g2 s2 => ⟨fun h6 => by obtain ⟨_, Fm, e1, _⟩ := h6; rw [e1] at hF; exact nI_pos (by omega) hF, False.elim⟩) (show eres (fun _ _ => False) _ none from fun _ _ h => h)⟩
  · rcases Nat.lt_or_ge n 2 with h2n | h2n
    · refine z_iload_n (i := 1) dX2_searchBestStarts_7 rfl rfl (q := 8) rfl ?_
      refine z_aload_n (i := 0) dX2_searchBestStarts_8 rfl rfl (q := 9) rfl ?_
      refine z_get dX2_searchBestStarts_9 fX2_61 (wo_evenSearch _ _ _) rfl (q := 12) rfl ?_
      rw [hE1.2.2.2.trans hFn]
      refine z_icmp_gt (tgt := 49) dX2_searchBestStarts_12 (by decide) (q := 15) rfl (fun h12 => absurd h12 (fun h9 => absurd ((nI_ltI (b := 0) (by omega) (by decide)).mp h9) (by omega))) (fun h12 => ?_)
      refine z_aload_n (i := 0) dX2_searchBestStarts_15 rfl rfl (q := 16) rfl ?_
      refine z_get dX2_searchBestStarts_16 fX2_14 (wo_evenSearch _ _ _) rfl (q := 19) rfl ?_
      refine z_callVF (As := []) dX2_searchBestStarts_19 kX2_39 (c_X4_length (wr_25 _ _ _)) (wr_25 _ _ _).1 rfl rfl (zle rfl) ⟨zle rfl, zle rfl⟩ ⟨zle rfl, zle rfl⟩ (q := 22) rfl ?_
      rw [hE1.2.1]
      refine z_iconst (v := 2) dX2_searchBestStarts_22 rfl (q := 23) rfl ?_
      refine z_icmp_lt (tgt := 49) dX2_searchBestStarts_23 (by decide) (q := 26) rfl (fun h23 => ?_) (fun h23 => absurd ((nI_ltI (b := 2) (by omega) (by decide)).mpr (by omega)) h23)
      exact z_vret dX2_searchBestStarts_49 rfl ⟨zle rfl, zle rfl⟩ ⟨rfl, _, none, rfl, hk, rfl, eres_congr (S := fun _ _ => False) (fun g2 s2 => ⟨fun h6 => by have := h6.1; omega, False.elim⟩) (show eres (fun _ _ => False) _ none from fun _ _ h => h)⟩
    · refine Z.mono (z_X2_searchBestStarts_7 hE1 h2n hFn hF2 (Fn + 1) 0 none _ none (by omega) (k3_refl _) rfl (fun g s h => by have := h.1; omega)) (fun r w2 h => ?_)
      obtain ⟨h1, X3, b, h3, h5, h6, h7⟩ := h
      exact ⟨h1, X3, b, h3, k3_trans hk h5, h6, h7⟩
end
