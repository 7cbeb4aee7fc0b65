section
variable {G : zG} {X X1 : zX} {Y : zY} {O : zO}
set_option maxRecDepth 100000 in
set_option maxHeartbeats 4000000 in
theorem ev_keep {t n co g s : Nat} {o : Nat → Nat} {Y2 : zY} {b : eb} (hE : evY X t n o Y2 b) (h : Y2.2.1 6 = 0 ∨ ¬ Y2.2.1 3 ≤ nI co) (hc : co ≤ 8000) : ecmp b co g s = some (co, g, s) := by
  cases b with
  | none => rfl
  | some q =>
    obtain ⟨c0, g0, s0⟩ := q
    obtain ⟨h1, h2, h3, h4, h5⟩ := hE
    have h6 := h.resolve_left (by rw [h1]; decide)
    rw [h2, nI_leI (by omega) (by omega)] at h6
    show (if co < c0 then _ else _) = _
    rw [if_pos (by omega)]
set_option maxRecDepth 100000 in
set_option maxHeartbeats 4000000 in
theorem ev_skip {t n co g s : Nat} {o : Nat → Nat} {Y2 : zY} {b : eb} (hE : evY X t n o Y2 b) (h0 : ¬ Y2.2.1 6 = 0) (h : Y2.2.1 3 ≤ nI co) (hc : co ≤ 8000) : ecmp b co g s = b := by
  cases b with
  | none => exact absurd hE h0
  | some q =>
    obtain ⟨c0, g0, s0⟩ := q
    obtain ⟨h1, h2, h3, h4, h5⟩ := hE
    rw [h2, nI_leI (by omega) (by omega)] at h
    show (if co < c0 then _ else _) = _
    rw [if_neg (by omega)]
set_option maxRecDepth 100000 in
set_option maxHeartbeats 4000000 in
theorem z_X9_ev_106 {g : Nat} {P : zRes → zWorld → Prop} {n nw t : Nat} {o : Nat → Nat} (hI : inv X n nw) (hR : rel X Y n nw) (ht : t < 2) (h2 : 2 ≤ n) (ho : ordR X t n o) (hg : g ≤ limN t) : ∀ (m s : Nat) (Y2 : zY) (b : eb) (e4 e5 : Option Value), s + m = limN t + 1 → TE Y Y2 n o → evY X t n o Y2 b → eres (cbE X t n o g s) (coE X t n o) b → (∀ (Y3 : zY) (b : eb) (e4 e5 : Option Value), TE Y Y3 n o → evY X t n o Y3 b → eres (cbE X t n o g (limN t + 1)) (coE X t n o) b → Z G mX9_findEvenest (zrm 3 0 0) 0 0 212 [some (.ref 77), some (.int (nI t)), some (.int (nI g)), some (.int (nI (limN t + 1))), e4, e5] [] (zw X1 Y3 O) P) → Z G mX9_findEvenest (zrm 3 0 0) 0 0 106 [some (.ref 77), some (.int (nI t)), some (.int (nI g)), some (.int (nI s)), e4, e5] [] (zw X1 Y2 O) P := by
  have hL := limN_eq ht
  have hL2 := hL.2
  intro m
  induction m with
  | zero =>
    intro s Y2 b e4 e5 hs hT hE hr hx
    refine z_iload_n (i := 3) dX9_findEvenest_106 rfl rfl (q := 107) rfl ?_
    refine z_iload_n (i := 1) dX9_findEvenest_107 rfl rfl (q := 108) rfl ?_
    refine z_callSF (As := [_]) dX9_findEvenest_108 kX9_71 (c_X9_room ht) rfl (zle rfl) ⟨zle rfl, zle rfl⟩ ⟨zle rfl, zle rfl⟩ (q := 111) rfl ?_
    rw [hL.1]
    refine z_icmp_gt (tgt := 212) dX9_findEvenest_111 (by decide) (q := 114) rfl (fun h111 => ?_) (fun h111 => absurd (nI_lt (by omega) (by omega)) h111)
    rw [show s = limN t + 1 by omega] at hr ⊢
    exact hx Y2 b e4 e5 hT hE hr
  | succ m ih =>
    intro s Y2 b e4 e5 hs hT hE hr hx
    refine z_iload_n (i := 3) dX9_findEvenest_106 rfl rfl (q := 107) rfl ?_
    refine z_iload_n (i := 1) dX9_findEvenest_107 rfl rfl (q := 108) rfl ?_
    refine z_callSF (As := [_]) dX9_findEvenest_108 kX9_71 (c_X9_room ht) rfl (zle rfl) ⟨zle rfl, zle rfl⟩ ⟨zle rfl, zle rfl⟩ (q := 111) rfl ?_
    rw [hL.1]
    refine z_icmp_gt (tgt := 212) dX9_findEvenest_111 (by decide) (q := 114) rfl (fun h111 => absurd h111 (nI_nlt (by omega) (by omega))) (fun h111 => ?_)
    refine z_iload_n (i := 3) dX9_findEvenest_114 rfl rfl (q := 115) rfl ?_
    refine z_istore dX9_findEvenest_115 (zle rfl) rfl (q := 117) rfl ?_
    refine z_iconst (v := 0) dX9_findEvenest_117 rfl (q := 118) rfl ?_
    refine z_istore dX9_findEvenest_118 (zle rfl) rfl (q := 120) rfl ?_
    refine Z.eql (zl2 := [some (.ref 77), some (.int (nI t)), some (.int (nI g)), some (.int (nI s)), some (.int (nI (pN (eSb X t o) g s 0))), some (.int (nI 0))]) rfl ?_
    refine Z.eqw (w2 := zw X1 (yarr Y2 12 (Y2.1 12)) O) (by rw [yarr_self]) ?_
    refine z_X9_ev_120 hI (rel_kY hR hT.1) ht ho hT.2.2 n 0 _ (by omega) (fun p hp => absurd hp (by omega)) (fun f hf => ?_)
    have hRn : rel X (yarr Y2 12 f) n nw := rel_arr (rel_kY hR hT.1) (by decide) f
    have hac := allow_cand hI ht h2 ho (show g ≤ 200 by omega) (show s ≤ 200 by omega) hf
    have hcst : rsum (fun k => iabs (f k - X.2.1 (2 * t) k)) 0 n 0 = nI (coE X t n o g s) := cst_E hI ht ho (by omega) (by omega) hf
    have hco := coE_le hI ht ho (show g ≤ 200 by omega) (show s ≤ 200 by omega)
    refine z_aload_n (i := 0) dX9_findEvenest_168 rfl rfl (q := 169) rfl ?_
    refine z_iload_n (i := 1) dX9_findEvenest_169 rfl rfl (q := 170) rfl ?_
    refine z_callV (As := [_]) dX9_findEvenest_170 kX9_172 (c_X9_isAllowed (D := f) hRn ht (fun _ _ => rfl)) (wm _ _ _) rfl rfl (zle rfl) ⟨zle rfl, zle rfl⟩ ⟨zle rfl, zle rfl⟩ (q := 173) rfl (fun rv w2 hw2 => ?_) (fun E w2 h9 => by obtain ⟨_, h9, _⟩ := h9; cases h9)
    obtain ⟨v1, h9, hb1, rfl, hv1⟩ := hw2
    cases h9
    refine z_if_eq (tgt := 206) dX9_findEvenest_173 (by decide) (q := 176) rfl (fun h173 => ?_) (fun h173 => ?_)
    · refine z_iinc dX9_findEvenest_206 rfl rfl (zle rfl) rfl (q := 209) rfl ?_
      refine z_goto (tgt := 106) dX9_findEvenest_209 (by decide) ?_
      refine Z.eql (zl2 := [some (.ref 77), some (.int (nI t)), some (.int (nI g)), some (.int (nI (s + 1))), _, _]) (by rw [← nI_1 s]; rfl) ?_
      exact ih (s + 1) _ _ _ _ (by omega) (TE_arr hT (Or.inl rfl) f) (by cases b <;> exact hE) (eres_congr (cb_skip (fun h9 => hv1.mpr (hac.mpr h9) h173)) hr) hx
    · refine z_aload_n (i := 0) dX9_findEvenest_176 rfl rfl (q := 177) rfl ?_
      refine z_get dX9_findEvenest_177 fX9_159 (wm _ _ _) rfl (q := 180) rfl ?_
      refine z_if_eq (tgt := 195) dX9_findEvenest_180 (by decide) (q := 183) rfl (fun h180 => ?_) (fun h180 => ?_)
      · refine z_aload_n (i := 0) dX9_findEvenest_195 rfl rfl (q := 196) rfl ?_
        refine z_aload_n (i := 0) dX9_findEvenest_196 rfl rfl (q := 197) rfl ?_
        refine z_iload_n (i := 1) dX9_findEvenest_197 rfl rfl (q := 198) rfl ?_
        refine z_callVF (As := [_]) dX9_findEvenest_198 kX9_175 (c_X9_costNow (D := f) hRn ht (fun _ _ => rfl)) (wm _ _ _) rfl rfl (zle rfl) ⟨zle rfl, zle rfl⟩ ⟨zle rfl, zle rfl⟩ (q := 201) rfl ?_
        rw [hcst]
        refine z_iconst (v := 0) dX9_findEvenest_201 rfl (q := 202) rfl ?_
        refine z_iload_n (i := 2) dX9_findEvenest_202 rfl rfl (q := 203) rfl ?_
        refine z_callV (As := [_, _, _]) dX9_findEvenest_203 kX9_182 (c_X9_keeps hRn) (wm _ _ _) rfl rfl (zle rfl) ⟨zle rfl, zle rfl⟩ ⟨zle rfl, zle rfl⟩ (q := 206) rfl (fun rv w2 hw2 => ?_) (fun E w2 h9 => by cases h9.1)
        obtain ⟨h9, f3, rfl, hf3⟩ := hw2
        cases h9
        refine z_iinc dX9_findEvenest_206 rfl rfl (zle rfl) rfl (q := 209) rfl ?_
        refine z_goto (tgt := 106) dX9_findEvenest_209 (by decide) ?_
        have hr2 := (eres_add (cb_next (hac.mp (hv1.mp h173))) (fun g2 s2 h9 => h9.1) hr)
        rw [ev_keep hE (Or.inl h180) hco] at hr2
        refine Z.eql (zl2 := [some (.ref 77), some (.int (nI t)), some (.int (nI g)), some (.int (nI (s + 1))), _, _]) (by rw [← nI_1 s]; rfl) ?_
        exact ih (s + 1) _ (some (coE X t n o g s, g, s)) _ _ (by omega) (TE_arr (TE_int (TE_int (TE_int (TE_int (TE_arr hT (Or.inl rfl) f) (by decide) 1) (by decide) _) (by decide) _) (by decide) _) (Or.inr rfl) f3) ⟨rfl, rfl, rfl, hco, fun p hp => (hf3 _ (ho.1 p hp)).trans (hf p hp)⟩ hr2 hx
      · refine z_aload_n (i := 0) dX9_findEvenest_183 rfl rfl (q := 184) rfl ?_
        refine z_iload_n (i := 1) dX9_findEvenest_184 rfl rfl (q := 185) rfl ?_
        refine z_callVF (As := [_]) dX9_findEvenest_185 kX9_175 (c_X9_costNow (D := f) hRn ht (fun _ _ => rfl)) (wm _ _ _) rfl rfl (zle rfl) ⟨zle rfl, zle rfl⟩ ⟨zle rfl, zle rfl⟩ (q := 188) rfl ?_
        rw [hcst]
        refine z_aload_n (i := 0) dX9_findEvenest_188 rfl rfl (q := 189) rfl ?_
        refine z_get dX9_findEvenest_189 fX9_163 (wm _ _ _) rfl (q := 192) rfl ?_
        refine z_icmp_ge (tgt := 206) dX9_findEvenest_192 (by decide) (q := 195) rfl (fun h192 => ?_) (fun h192 => ?_)
        · refine z_iinc dX9_findEvenest_206 rfl rfl (zle rfl) rfl (q := 209) rfl ?_
          refine z_goto (tgt := 106) dX9_findEvenest_209 (by decide) ?_
          have hr2 := (eres_add (cb_next (hac.mp (hv1.mp h173))) (fun g2 s2 h9 => h9.1) hr)
          rw [ev_skip hE h180 h192 hco] at hr2
          refine Z.eql (zl2 := [some (.ref 77), some (.int (nI t)), some (.int (nI g)), some (.int (nI (s + 1))), _, _]) (by rw [← nI_1 s]; rfl) ?_
          exact ih (s + 1) _ _ _ _ (by omega) (TE_arr hT (Or.inl rfl) f) (by cases b <;> exact hE) hr2 hx
        · refine z_aload_n (i := 0) dX9_findEvenest_195 rfl rfl (q := 196) rfl ?_
          refine z_aload_n (i := 0) dX9_findEvenest_196 rfl rfl (q := 197) rfl ?_
          refine z_iload_n (i := 1) dX9_findEvenest_197 rfl rfl (q := 198) rfl ?_
          refine z_callVF (As := [_]) dX9_findEvenest_198 kX9_175 (c_X9_costNow (D := f) hRn ht (fun _ _ => rfl)) (wm _ _ _) rfl rfl (zle rfl) ⟨zle rfl, zle rfl⟩ ⟨zle rfl, zle rfl⟩ (q := 201) rfl ?_
          rw [hcst]
          refine z_iconst (v := 0) dX9_findEvenest_201 rfl (q := 202) rfl ?_
          refine z_iload_n (i := 2) dX9_findEvenest_202 rfl rfl (q := 203) rfl ?_
          refine z_callV (As := [_, _, _]) dX9_findEvenest_203 kX9_182 (c_X9_keeps hRn) (wm _ _ _) rfl rfl (zle rfl) ⟨zle rfl, zle rfl⟩ ⟨zle rfl, zle rfl⟩ (q := 206) rfl (fun rv w2 hw2 => ?_) (fun E w2 h9 => by cases h9.1)
          obtain ⟨h9, f3, rfl, hf3⟩ := hw2
          cases h9
          refine z_iinc dX9_findEvenest_206 rfl rfl (zle rfl) rfl (q := 209) rfl ?_
          refine z_goto (tgt := 106) dX9_findEvenest_209 (by decide) ?_
          have hr2 := (eres_add (cb_next (hac.mp (hv1.mp h173))) (fun g2 s2 h9 => h9.1) hr)
          rw [ev_keep hE (Or.inr h192) hco] at hr2
          refine Z.eql (zl2 := [some (.ref 77), some (.int (nI t)), some (.int (nI g)), some (.int (nI (s + 1))), _, _]) (by rw [← nI_1 s]; rfl) ?_
          exact ih (s + 1) _ (some (coE X t n o g s, g, s)) _ _ (by omega) (TE_arr (TE_int (TE_int (TE_int (TE_int (TE_arr hT (Or.inl rfl) f) (by decide) 1) (by decide) _) (by decide) _) (by decide) _) (Or.inr rfl) f3) ⟨rfl, rfl, rfl, hco, fun p hp => (hf3 _ (ho.1 p hp)).trans (hf p hp)⟩ hr2 hx
set_option maxRecDepth 100000 in
set_option maxHeartbeats 4000000 in
theorem z_X9_ev_96 {n nw t : Nat} {o : Nat → Nat} (hI : inv X n nw) (hR : rel X Y n nw) (ht : t < 2) (h2 : 2 ≤ n) (ho : ordR X t n o) : ∀ (m g : Nat) (Y2 : zY) (b : eb) (e3 e4 e5 : Option Value), g + m = limN t + 1 → TE Y Y2 n o → evY X t n o Y2 b → eres (cbE X t n o g 0) (coE X t n o) b → Z G mX9_findEvenest (zrm 3 0 0) 0 0 96 [some (.ref 77), some (.int (nI t)), some (.int (nI g)), e3, e4, e5] [] (zw X1 Y2 O) (fun r w => r = .inl none ∧ ∃ (Y3 : zY) (b : eb), w = zw X1 Y3 O ∧ TE Y Y3 n o ∧ evY X t n o Y3 b ∧ eres (cdE X t n o) (coE X t n o) b) := by
  have hL := limN_eq ht
  have hL2 := hL.2
  intro m
  induction m with
  | zero =>
    intro g Y2 b e3 e4 e5 hs hT hE hr
    refine z_iload_n (i := 2) dX9_findEvenest_96 rfl rfl (q := 97) rfl ?_
    refine z_iload_n (i := 1) dX9_findEvenest_97 rfl rfl (q := 98) rfl ?_
    refine z_callSF (As := [_]) dX9_findEvenest_98 kX9_71 (c_X9_room ht) rfl (zle rfl) ⟨zle rfl, zle rfl⟩ ⟨zle rfl, zle rfl⟩ (q := 101) rfl ?_
    rw [hL.1]
    refine z_icmp_gt (tgt := 218) dX9_findEvenest_101 (by decide) (q := 104) rfl (fun h101 => ?_) (fun h101 => absurd (nI_lt (by omega) (by omega)) h101)
    exact z_vret dX9_findEvenest_218 rfl ⟨zle rfl, zle rfl⟩ ⟨rfl, Y2, b, rfl, hT, hE, eres_congr (fun a c => by rw [show g = limN t + 1 by omega]; exact cb_all hI ht ho a c) hr⟩
  | succ m ih =>
    intro g Y2 b e3 e4 e5 hs hT hE hr
    refine z_iload_n (i := 2) dX9_findEvenest_96 rfl rfl (q := 97) rfl ?_
    refine z_iload_n (i := 1) dX9_findEvenest_97 rfl rfl (q := 98) rfl ?_
    refine z_callSF (As := [_]) dX9_findEvenest_98 kX9_71 (c_X9_room ht) rfl (zle rfl) ⟨zle rfl, zle rfl⟩ ⟨zle rfl, zle rfl⟩ (q := 101) rfl ?_
    rw [hL.1]
    refine z_icmp_gt (tgt := 218) dX9_findEvenest_101 (by decide) (q := 104) rfl (fun h101 => absurd h101 (nI_nlt (by omega) (by omega))) (fun h101 => ?_)
    refine z_iconst (v := 0) dX9_findEvenest_104 rfl (q := 105) rfl ?_
    refine z_istore_n (i := 3) dX9_findEvenest_105 rfl (zle rfl) rfl (q := 106) rfl ?_
    refine z_X9_ev_106 hI hR ht h2 ho (show g ≤ limN t by omega) (limN t + 1) 0 Y2 b _ _ (by omega) hT hE hr (fun Y3 b3 e4 e5 hT3 hE3 hr3 => ?_)
    refine z_iinc dX9_findEvenest_212 rfl rfl (zle rfl) rfl (q := 215) rfl ?_
    refine z_goto (tgt := 96) dX9_findEvenest_215 (by decide) ?_
    refine Z.eql (zl2 := [some (.ref 77), some (.int (nI t)), some (.int (nI (g + 1))), _, _, _]) (by rw [← nI_1 g]; rfl) ?_
    exact ih (g + 1) Y3 b3 _ _ _ (by omega) hT3 hE3 (eres_congr (cb_row hI ht ho) hr3)
set_option maxRecDepth 100000 in
set_option maxHeartbeats 4000000 in
theorem c_X9_findEvenest {n nw t : Nat} {o : Nat → Nat} (hI : inv X n nw) (hR : rel X Y n nw) (ht : t < 2) (h2 : 2 ≤ n) (ho : ordR X t n o) : ZM G mX9_findEvenest 3 0 0 [.ref 77, .int (nI t)] (zw X1 Y O) (fun r w => r = .inl none ∧ ∃ (Y3 : zY) (b : eb), w = zw X1 Y3 O ∧ TE Y Y3 n o ∧ evY X t n o Y3 b ∧ eres (cdE X t n o) (coE X t n o) b) := by
  refine ZM.go pX9 rfl rfl (zle rfl) (zl := [some (.ref 77), some (.int (nI t)), none, none, none, none]) rfl ?_
  refine z_aload_n (i := 0) dX9_findEvenest_0 rfl rfl (q := 1) rfl ?_
  refine z_iconst (v := 0) dX9_findEvenest_1 rfl (q := 2) rfl ?_
  refine z_put dX9_findEvenest_2 fX9_159 (wm _ _ _) (zle rfl) zfit_0 (q := 5) rfl ?_
  refine Z.eqw (wmi_isFound _ _ _ _) ?_
  refine z_iconst (v := 0) dX9_findEvenest_5 rfl (q := 6) rfl ?_
  refine z_istore_n (i := 2) dX9_findEvenest_6 rfl (zle rfl) rfl (q := 7) rfl ?_
  refine Z.eqw (w2 := zw X1 (yarr (yint Y 6 0) 15 ((yint Y 6 0).1 15)) O) (by rw [yarr_self]) ?_
  refine z_X9_ev_7 hI (rel_int hR (by decide) 0) ht ho n 0 _ _ _ _ (by omega) (fun p _ h9 => absurd h9 (by omega)) (fun f e3 e4 e5 hf => ?_)
  refine z_iconst (v := 0) dX9_findEvenest_94 rfl (q := 95) rfl ?_
  refine z_istore_n (i := 2) dX9_findEvenest_95 rfl (zle rfl) rfl (q := 96) rfl ?_
  have hT : TE Y (yarr (yint Y 6 0) 15 f) n o := ⟨keepY_arr (keepY_int (keepY_refl Y) (by decide) 0) (by decide) f, rfl, hf⟩
  exact z_X9_ev_96 hI hR ht h2 ho (limN t + 1) 0 _ none _ _ _ (by omega) hT rfl (fun g2 s2 h9 => by have := h9.1; omega)
set_option maxRecDepth 100000 in
set_option maxHeartbeats 4000000 in
theorem c_X9_evens_small {n nw t : Nat} (hR : rel X Y n nw) (ht : t < 2) (h2 : n < 2) : ZM G mX9_evens 4 0 0 [.ref 77, .int (zch t)] (zw X1 Y O) (mR X1 O (0) (yth Y 2)) := by
  have h4 := rel_4 hR
  have hR0 : rel X (yint Y 0 0) n nw := rel_thr hR 0
  refine ZM.go pX9 rfl rfl (zle rfl) (zl := [some (.ref 77), some (.int (zch t))]) rfl ?_
  refine z_aload_n (i := 0) dX9_evens_0 rfl rfl (q := 1) rfl ?_
  refine z_iconst (v := 0) dX9_evens_1 rfl (q := 2) rfl ?_
  refine z_put dX9_evens_2 fX9_60 (wm _ _ _) (zle rfl) (zfit_int _) (q := 5) rfl ?_
  refine Z.eqw (wmi_thrown _ _ _ _) ?_
  refine z_aload_n (i := 0) dX9_evens_5 rfl rfl (q := 6) rfl ?_
  refine z_iload_n (i := 1) dX9_evens_6 rfl rfl (q := 7) rfl ?_
  refine z_callSF (As := [_]) dX9_evens_7 kX9_101 (c_X9_axisOf ht) rfl (zle rfl) ⟨zle rfl, zle rfl⟩ ⟨zle rfl, zle rfl⟩ (q := 10) rfl ?_
  refine z_iconst (v := (-1)) dX9_evens_10 rfl (q := 11) rfl ?_
  refine z_icmp_ne (tgt := 18) dX9_evens_11 (by decide) (q := 14) rfl (fun h11 => ?_) (fun h11 => absurd h11 (nI_m1 (by omega)))
  refine z_iconst (v := 0) dX9_evens_18 rfl (q := 19) rfl ?_
  refine z_iconst (v := 1) dX9_evens_19 rfl (q := 20) rfl ?_
  refine z_callVF (As := [_, _]) dX9_evens_20 kX9_89 (c_X9_fails_f rfl) (wm _ _ _) rfl rfl (zle rfl) ⟨zle rfl, zle rfl⟩ ⟨zle rfl, zle rfl⟩ (q := 23) rfl ?_
  refine z_if_ne (tgt := 47) dX9_evens_23 (by decide) (q := 26) rfl (fun h23 => absurd h23 (by decide)) (fun h23 => ?_)
  refine z_aload_n (i := 0) dX9_evens_26 rfl rfl (q := 27) rfl ?_
  refine z_aload_n (i := 0) dX9_evens_27 rfl rfl (q := 28) rfl ?_
  refine z_get dX9_evens_28 fX9_64 (wm _ _ _) rfl (q := 31) rfl ?_
  rw [hR0.1]
  refine z_iconst (v := 2) dX9_evens_31 rfl (q := 32) rfl ?_
  refine z_icmp_ge (tgt := 39) dX9_evens_32 (by decide) (q := 35) rfl (fun h32 => absurd h32 (nI_ge (b := 2) (by omega) (by omega))) (fun h32 => ?_)
  refine z_iconst (v := 1) dX9_evens_35 rfl (q := 36) rfl ?_
  refine z_goto (tgt := 40) dX9_evens_36 (by decide) ?_
  refine z_iconst (v := 2) dX9_evens_40 rfl (q := 41) rfl ?_
  refine z_callVF (As := [_, _]) dX9_evens_41 kX9_89 (c_X9_fails_t rfl (by decide)) (wm _ _ _) rfl rfl (zle rfl) ⟨zle rfl, zle rfl⟩ ⟨zle rfl, zle rfl⟩ (q := 44) rfl ?_
  refine z_if_eq (tgt := 49) dX9_evens_44 (by decide) (q := 47) rfl (fun h44 => absurd h44 (by decide)) (fun h44 => ?_)
  refine z_iconst (v := 0) dX9_evens_47 rfl (q := 48) rfl ?_
  exact z_zret dX9_evens_48 rfl (by first | rfl | assumption | decide) ⟨zle rfl, zle rfl⟩ ⟨rfl, rfl⟩
set_option maxRecDepth 100000 in
set_option maxHeartbeats 4000000 in
theorem c_X9_evens_none2 {n nw t : Nat} {o : Nat → Nat} (hI : inv X n nw) (hR : rel X Y n nw) (ht : t < 2) (h2 : 2 ≤ n) (hv : evR X t n o none) : ZM G mX9_evens 4 0 0 [.ref 77, .int (zch t)] (zw X1 Y O) (fun r w => ∃ Y4, r = .inl (some (.int 0)) ∧ w = zw X1 Y4 O ∧ keepY Y Y4 ∧ Y4.2.1 0 = 2) := by
  have h4 := rel_4 hR
  have hR0 : rel X (yint Y 0 0) n nw := rel_thr hR 0
  refine ZM.go pX9 rfl rfl (zle rfl) (zl := [some (.ref 77), some (.int (zch t))]) rfl ?_
  refine z_aload_n (i := 0) dX9_evens_0 rfl rfl (q := 1) rfl ?_
  refine z_iconst (v := 0) dX9_evens_1 rfl (q := 2) rfl ?_
  refine z_put dX9_evens_2 fX9_60 (wm _ _ _) (zle rfl) (zfit_int _) (q := 5) rfl ?_
  refine Z.eqw (wmi_thrown _ _ _ _) ?_
  refine z_aload_n (i := 0) dX9_evens_5 rfl rfl (q := 6) rfl ?_
  refine z_iload_n (i := 1) dX9_evens_6 rfl rfl (q := 7) rfl ?_
  refine z_callSF (As := [_]) dX9_evens_7 kX9_101 (c_X9_axisOf ht) rfl (zle rfl) ⟨zle rfl, zle rfl⟩ ⟨zle rfl, zle rfl⟩ (q := 10) rfl ?_
  refine z_iconst (v := (-1)) dX9_evens_10 rfl (q := 11) rfl ?_
  refine z_icmp_ne (tgt := 18) dX9_evens_11 (by decide) (q := 14) rfl (fun h11 => ?_) (fun h11 => absurd h11 (nI_m1 (by omega)))
  refine z_iconst (v := 0) dX9_evens_18 rfl (q := 19) rfl ?_
  refine z_iconst (v := 1) dX9_evens_19 rfl (q := 20) rfl ?_
  refine z_callVF (As := [_, _]) dX9_evens_20 kX9_89 (c_X9_fails_f rfl) (wm _ _ _) rfl rfl (zle rfl) ⟨zle rfl, zle rfl⟩ ⟨zle rfl, zle rfl⟩ (q := 23) rfl ?_
  refine z_if_ne (tgt := 47) dX9_evens_23 (by decide) (q := 26) rfl (fun h23 => absurd h23 (by decide)) (fun h23 => ?_)
  refine z_aload_n (i := 0) dX9_evens_26 rfl rfl (q := 27) rfl ?_
  refine z_aload_n (i := 0) dX9_evens_27 rfl rfl (q := 28) rfl ?_
  refine z_get dX9_evens_28 fX9_64 (wm _ _ _) rfl (q := 31) rfl ?_
  rw [hR0.1]
  refine z_iconst (v := 2) dX9_evens_31 rfl (q := 32) rfl ?_
  refine z_icmp_ge (tgt := 39) dX9_evens_32 (by decide) (q := 35) rfl (fun h32 => ?_) (fun h32 => absurd (nI_le (a := 2) h2 (by omega)) h32)
  refine z_iconst (v := 0) dX9_evens_39 rfl (q := 40) rfl ?_
  refine z_iconst (v := 2) dX9_evens_40 rfl (q := 41) rfl ?_
  refine z_callVF (As := [_, _]) dX9_evens_41 kX9_89 (c_X9_fails_f rfl) (wm _ _ _) rfl rfl (zle rfl) ⟨zle rfl, zle rfl⟩ ⟨zle rfl, zle rfl⟩ (q := 44) rfl ?_
  refine z_if_eq (tgt := 49) dX9_evens_44 (by decide) (q := 47) rfl (fun h44 => ?_) (fun h44 => absurd h44 (by decide))
  refine z_aload_n (i := 0) dX9_evens_49 rfl rfl (q := 50) rfl ?_
  refine z_iload_n (i := 1) dX9_evens_50 rfl rfl (q := 51) rfl ?_
  refine z_callSF (As := [_]) dX9_evens_51 kX9_101 (c_X9_axisOf ht) rfl (zle rfl) ⟨zle rfl, zle rfl⟩ ⟨zle rfl, zle rfl⟩ (q := 54) rfl ?_
  refine z_callV (As := [_]) dX9_evens_54 kX9_202 (c_X9_findEvenest hI hR0 ht h2 hv.1) (wm _ _ _) rfl rfl (zle rfl) ⟨zle rfl, zle rfl⟩ ⟨zle rfl, zle rfl⟩ (q := 57) rfl (fun rv w2 hw2 => ?_) (fun E w2 h9 => by cases h9.1)
  obtain ⟨h9, Y3, b3, rfl, hT, hE, hr⟩ := hw2
  cases h9
  obtain rfl := eres_same hr hv.2
  refine z_aload_n (i := 0) dX9_evens_57 rfl rfl (q := 58) rfl ?_
  refine z_aload_n (i := 0) dX9_evens_58 rfl rfl (q := 59) rfl ?_
  refine z_get dX9_evens_59 fX9_159 (wm _ _ _) rfl (q := 62) rfl ?_
  refine z_if_ne (tgt := 69) dX9_evens_62 (by decide) (q := 65) rfl (fun h62 => absurd hE h62) (fun h62 => ?_)
  refine z_iconst (v := 1) dX9_evens_65 rfl (q := 66) rfl ?_
  refine z_goto (tgt := 70) dX9_evens_66 (by decide) ?_
  refine z_iconst (v := 2) dX9_evens_70 rfl (q := 71) rfl ?_
  refine z_callVF (As := [_, _]) dX9_evens_71 kX9_89 (c_X9_fails_t hT.2.1 (by decide)) (wm _ _ _) rfl rfl (zle rfl) ⟨zle rfl, zle rfl⟩ ⟨zle rfl, zle rfl⟩ (q := 74) rfl ?_
  refine z_if_ne (tgt := 81) dX9_evens_74 (by decide) (q := 77) rfl (fun h74 => ?_) (fun h74 => absurd h74 (by decide))
  refine z_iconst (v := 0) dX9_evens_81 rfl (q := 82) rfl ?_
  exact z_zret dX9_evens_82 rfl (by first | rfl | assumption | decide) ⟨zle rfl, zle rfl⟩ ⟨_, rfl, rfl, keepY_int (keepY_trans (keepY_int (keepY_refl Y) (by decide) 0) hT.1) (by decide) 2, rfl⟩
set_option maxRecDepth 100000 in
set_option maxHeartbeats 4000000 in
theorem c_X9_evens_some2 {n nw t : Nat} {o : Nat → Nat} (hI : inv X n nw) (hR : rel X Y n nw) (ht : t < 2) {c g s : Nat} (h2 : 2 ≤ n) (hv : evR X t n o (some (c, g, s))) : ZM G mX9_evens 4 0 0 [.ref 77, .int (zch t)] (zw X1 Y O) (fun r w => r = .inl (some (.int 1)) ∧ ∃ Y3, w = zw X1 Y3 O ∧ keepY Y Y3 ∧ Y3.2.1 0 = 0 ∧ Y3.2.1 3 = nI c ∧ Y3.2.1 5 = nI g ∧ ∀ p, p < n → Y3.1 13 (o p) = nI (pN (eSb X t o) g s p)) := by
  have h4 := rel_4 hR
  have hR0 : rel X (yint Y 0 0) n nw := rel_thr hR 0
  refine ZM.go pX9 rfl rfl (zle rfl) (zl := [some (.ref 77), some (.int (zch t))]) rfl ?_
  refine z_aload_n (i := 0) dX9_evens_0 rfl rfl (q := 1) rfl ?_
  refine z_iconst (v := 0) dX9_evens_1 rfl (q := 2) rfl ?_
  refine z_put dX9_evens_2 fX9_60 (wm _ _ _) (zle rfl) (zfit_int _) (q := 5) rfl ?_
  refine Z.eqw (wmi_thrown _ _ _ _) ?_
  refine z_aload_n (i := 0) dX9_evens_5 rfl rfl (q := 6) rfl ?_
  refine z_iload_n (i := 1) dX9_evens_6 rfl rfl (q := 7) rfl ?_
  refine z_callSF (As := [_]) dX9_evens_7 kX9_101 (c_X9_axisOf ht) rfl (zle rfl) ⟨zle rfl, zle rfl⟩ ⟨zle rfl, zle rfl⟩ (q := 10) rfl ?_
  refine z_iconst (v := (-1)) dX9_evens_10 rfl (q := 11) rfl ?_
  refine z_icmp_ne (tgt := 18) dX9_evens_11 (by decide) (q := 14) rfl (fun h11 => ?_) (fun h11 => absurd h11 (nI_m1 (by omega)))
  refine z_iconst (v := 0) dX9_evens_18 rfl (q := 19) rfl ?_
  refine z_iconst (v := 1) dX9_evens_19 rfl (q := 20) rfl ?_
  refine z_callVF (As := [_, _]) dX9_evens_20 kX9_89 (c_X9_fails_f rfl) (wm _ _ _) rfl rfl (zle rfl) ⟨zle rfl, zle rfl⟩ ⟨zle rfl, zle rfl⟩ (q := 23) rfl ?_
  refine z_if_ne (tgt := 47) dX9_evens_23 (by decide) (q := 26) rfl (fun h23 => absurd h23 (by decide)) (fun h23 => ?_)
  refine z_aload_n (i := 0) dX9_evens_26 rfl rfl (q := 27) rfl ?_
  refine z_aload_n (i := 0) dX9_evens_27 rfl rfl (q := 28) rfl ?_
  refine z_get dX9_evens_28 fX9_64 (wm _ _ _) rfl (q := 31) rfl ?_
  rw [hR0.1]
  refine z_iconst (v := 2) dX9_evens_31 rfl (q := 32) rfl ?_
  refine z_icmp_ge (tgt := 39) dX9_evens_32 (by decide) (q := 35) rfl (fun h32 => ?_) (fun h32 => absurd (nI_le (a := 2) h2 (by omega)) h32)
  refine z_iconst (v := 0) dX9_evens_39 rfl (q := 40) rfl ?_
  refine z_iconst (v := 2) dX9_evens_40 rfl (q := 41) rfl ?_
  refine z_callVF (As := [_, _]) dX9_evens_41 kX9_89 (c_X9_fails_f rfl) (wm _ _ _) rfl rfl (zle rfl) ⟨zle rfl, zle rfl⟩ ⟨zle rfl, zle rfl⟩ (q := 44) rfl ?_
  refine z_if_eq (tgt := 49) dX9_evens_44 (by decide) (q := 47) rfl (fun h44 => ?_) (fun h44 => absurd h44 (by decide))
  refine z_aload_n (i := 0) dX9_evens_49 rfl rfl (q := 50) rfl ?_
  refine z_iload_n (i := 1) dX9_evens_50 rfl rfl (q := 51) rfl ?_
  refine z_callSF (As := [_]) dX9_evens_51 kX9_101 (c_X9_axisOf ht) rfl (zle rfl) ⟨zle rfl, zle rfl⟩ ⟨zle rfl, zle rfl⟩ (q := 54) rfl ?_
  refine z_callV (As := [_]) dX9_evens_54 kX9_202 (c_X9_findEvenest hI hR0 ht h2 hv.1) (wm _ _ _) rfl rfl (zle rfl) ⟨zle rfl, zle rfl⟩ ⟨zle rfl, zle rfl⟩ (q := 57) rfl (fun rv w2 hw2 => ?_) (fun E w2 h9 => by cases h9.1)
  obtain ⟨h9, Y3, b3, rfl, hT, hE, hr⟩ := hw2
  cases h9
  obtain rfl := eres_same hr hv.2
  refine z_aload_n (i := 0) dX9_evens_57 rfl rfl (q := 58) rfl ?_
  refine z_aload_n (i := 0) dX9_evens_58 rfl rfl (q := 59) rfl ?_
  refine z_get dX9_evens_59 fX9_159 (wm _ _ _) rfl (q := 62) rfl ?_
  refine z_if_ne (tgt := 69) dX9_evens_62 (by decide) (q := 65) rfl (fun h62 => ?_) (fun h62 => absurd (hE.1.symm.trans h62) (by decide))
  refine z_iconst (v := 0) dX9_evens_69 rfl (q := 70) rfl ?_
  refine z_iconst (v := 2) dX9_evens_70 rfl (q := 71) rfl ?_
  refine z_callVF (As := [_, _]) dX9_evens_71 kX9_89 (c_X9_fails_f hT.2.1) (wm _ _ _) rfl rfl (zle rfl) ⟨zle rfl, zle rfl⟩ ⟨zle rfl, zle rfl⟩ (q := 74) rfl ?_
  refine z_if_ne (tgt := 81) dX9_evens_74 (by decide) (q := 77) rfl (fun h74 => absurd h74 (by decide)) (fun h74 => ?_)
  refine z_iconst (v := 1) dX9_evens_77 rfl (q := 78) rfl ?_
  refine z_goto (tgt := 82) dX9_evens_78 (by decide) ?_
  exact z_zret dX9_evens_82 rfl (by first | rfl | assumption | decide) ⟨zle rfl, zle rfl⟩ ⟨rfl, Y3, rfl, keepY_trans (keepY_int (keepY_refl Y) (by decide) 0) hT.1, hT.2.1, hE.2.1, hE.2.2.1, hE.2.2.2.2⟩
set_option maxRecDepth 100000 in
set_option maxHeartbeats 4000000 in
theorem c_X9_evens_none {n nw t : Nat} {o : Nat → Nat} (hI : inv X n nw) (hR : rel X Y n nw) (ht : t < 2) (hv : evR X t n o none) : ZM G mX9_evens 4 0 0 [.ref 77, .int (zch t)] (zw X1 Y O) (fun r w => ∃ Y4, r = .inl (some (.int 0)) ∧ w = zw X1 Y4 O ∧ keepY Y Y4 ∧ Y4.2.1 0 = 2) := by
  rcases Nat.lt_or_ge n 2 with h2 | h2
  · exact (c_X9_evens_small hR ht h2).mono fun r w h9 => ⟨_, h9.1, h9.2, keepY_int (keepY_int (keepY_refl Y) (by decide) 0) (by decide) 2, rfl⟩
  · exact c_X9_evens_none2 hI hR ht h2 hv
set_option maxRecDepth 100000 in
set_option maxHeartbeats 4000000 in
theorem c_X9_evens_some {n nw t : Nat} {o : Nat → Nat} (hI : inv X n nw) (hR : rel X Y n nw) (ht : t < 2) {c g s : Nat} (hv : evR X t n o (some (c, g, s))) : ZM G mX9_evens 4 0 0 [.ref 77, .int (zch t)] (zw X1 Y O) (fun r w => r = .inl (some (.int 1)) ∧ ∃ Y3, w = zw X1 Y3 O ∧ keepY Y Y3 ∧ Y3.2.1 0 = 0 ∧ Y3.2.1 3 = nI c ∧ Y3.2.1 5 = nI g ∧ ∀ p, p < n → Y3.1 13 (o p) = nI (pN (eSb X t o) g s p)) :=
  c_X9_evens_some2 hI hR ht hv.2.1.1 hv
set_option maxRecDepth 100000 in
set_option maxHeartbeats 4000000 in
theorem c_X9_evens_ax {n nw : Nat} {c : Int32} (hR : rel X Y n nw) (h1 : ¬ c = 120) (h2 : ¬ c = 121) : ZM G mX9_evens 4 0 0 [.ref 77, .int c] (zw X1 Y O) (mR X1 O (0) (yth Y 1)) := by
  have h4 := rel_4 hR
  have hR0 : rel X (yint Y 0 0) n nw := rel_thr hR 0
  refine ZM.go pX9 rfl rfl (zle rfl) (zl := [some (.ref 77), some (.int c)]) rfl ?_
  refine z_aload_n (i := 0) dX9_evens_0 rfl rfl (q := 1) rfl ?_
  refine z_iconst (v := 0) dX9_evens_1 rfl (q := 2) rfl ?_
  refine z_put dX9_evens_2 fX9_60 (wm _ _ _) (zle rfl) (zfit_int _) (q := 5) rfl ?_
  refine Z.eqw (wmi_thrown _ _ _ _) ?_
  refine z_aload_n (i := 0) dX9_evens_5 rfl rfl (q := 6) rfl ?_
  refine z_iload_n (i := 1) dX9_evens_6 rfl rfl (q := 7) rfl ?_
  refine z_callSF (As := [_]) dX9_evens_7 kX9_101 (c_X9_axisOf_no h1 h2) rfl (zle rfl) ⟨zle rfl, zle rfl⟩ ⟨zle rfl, zle rfl⟩ (q := 10) rfl ?_
  refine z_iconst (v := (-1)) dX9_evens_10 rfl (q := 11) rfl ?_
  refine z_icmp_ne (tgt := 18) dX9_evens_11 (by decide) (q := 14) rfl (fun h11 => absurd h11 (by decide)) (fun h11 => ?_)
  refine z_iconst (v := 1) dX9_evens_14 rfl (q := 15) rfl ?_
  refine z_goto (tgt := 19) dX9_evens_15 (by decide) ?_
  refine z_iconst (v := 1) dX9_evens_19 rfl (q := 20) rfl ?_
  refine z_callVF (As := [_, _]) dX9_evens_20 kX9_89 (c_X9_fails_t rfl (by decide)) (wm _ _ _) rfl rfl (zle rfl) ⟨zle rfl, zle rfl⟩ ⟨zle rfl, zle rfl⟩ (q := 23) rfl ?_
  refine z_if_ne (tgt := 47) dX9_evens_23 (by decide) (q := 26) rfl (fun h23 => ?_) (fun h23 => absurd h23 (by decide))
  refine z_iconst (v := 0) dX9_evens_47 rfl (q := 48) rfl ?_
  exact z_zret dX9_evens_48 rfl (by first | rfl | assumption | decide) ⟨zle rfl, zle rfl⟩ ⟨rfl, rfl⟩
set_option maxRecDepth 100000 in
set_option maxHeartbeats 4000000 in
theorem c_X9_evenCost_none {n nw t : Nat} {o : Nat → Nat} (hI : inv X n nw) (hR : rel X Y n nw) (ht : t < 2) (hv : evR X t n o none) : ZM G mX9_evenCost 5 0 0 [.ref 77, .int (zch t)] (zw X1 Y O) (fun r w => ∃ Y4, r = .inl (some (.int 0)) ∧ w = zw X1 Y4 O ∧ keepY Y Y4 ∧ Y4.2.1 0 = 2) := by
  refine ZM.go pX9 rfl rfl (zle rfl) (zl := [some (.ref 77), some (.int (zch t))]) rfl ?_
  refine z_aload_n (i := 0) dX9_evenCost_0 rfl rfl (q := 1) rfl ?_
  refine z_iload_n (i := 1) dX9_evenCost_1 rfl rfl (q := 2) rfl ?_
  refine z_callV (As := [_]) dX9_evenCost_2 kX9_205 (c_X9_evens_none hI hR ht hv) (wm _ _ _) rfl rfl (zle rfl) ⟨zle rfl, zle rfl⟩ ⟨zle rfl, zle rfl⟩ (q := 5) rfl (fun rv w2 hw2 => ?_) (fun E w2 h9 => by obtain ⟨_, h9, _⟩ := h9; cases h9)
  obtain ⟨Y4, h9, rfl, hk, hth⟩ := hw2
  cases h9
  refine z_if_eq (tgt := 15) dX9_evenCost_5 (by decide) (q := 8) rfl (fun h5 => ?_) (fun h5 => absurd h5 (by decide))
  refine z_iconst (v := 0) dX9_evenCost_15 rfl (q := 16) rfl ?_
  exact z_iret dX9_evenCost_16 rfl ⟨zle rfl, zle rfl⟩ ⟨Y4, rfl, rfl, hk, hth⟩
set_option maxRecDepth 100000 in
set_option maxHeartbeats 4000000 in
theorem c_X9_evenCost_some {n nw t : Nat} {o : Nat → Nat} (hI : inv X n nw) (hR : rel X Y n nw) (ht : t < 2) {c g s : Nat} (hv : evR X t n o (some (c, g, s))) : ZM G mX9_evenCost 5 0 0 [.ref 77, .int (zch t)] (zw X1 Y O) (fun r w => ∃ Y4, r = .inl (some (.int (nI c))) ∧ w = zw X1 Y4 O ∧ keepY Y Y4 ∧ Y4.2.1 0 = 0) := by
  refine ZM.go pX9 rfl rfl (zle rfl) (zl := [some (.ref 77), some (.int (zch t))]) rfl ?_
  refine z_aload_n (i := 0) dX9_evenCost_0 rfl rfl (q := 1) rfl ?_
  refine z_iload_n (i := 1) dX9_evenCost_1 rfl rfl (q := 2) rfl ?_
  refine z_callV (As := [_]) dX9_evenCost_2 kX9_205 (c_X9_evens_some hI hR ht hv) (wm _ _ _) rfl rfl (zle rfl) ⟨zle rfl, zle rfl⟩ ⟨zle rfl, zle rfl⟩ (q := 5) rfl (fun rv w2 hw2 => ?_) (fun E w2 h9 => by cases h9.1)
  obtain ⟨h9, Y3, rfl, hk, hth, hc, hg, hb⟩ := hw2
  cases h9
  refine z_if_eq (tgt := 15) dX9_evenCost_5 (by decide) (q := 8) rfl (fun h5 => absurd h5 (by decide)) (fun h5 => ?_)
  refine z_aload_n (i := 0) dX9_evenCost_8 rfl rfl (q := 9) rfl ?_
  refine z_get dX9_evenCost_9 fX9_163 (wm _ _ _) rfl (q := 12) rfl ?_
  refine z_goto (tgt := 16) dX9_evenCost_12 (by decide) ?_
  exact z_iret dX9_evenCost_16 rfl ⟨zle rfl, zle rfl⟩ ⟨Y3, by rw [hc], rfl, hk, hth⟩
set_option maxRecDepth 100000 in
set_option maxHeartbeats 4000000 in
theorem c_X9_evenCost_ax {n nw : Nat} {c : Int32} (hR : rel X Y n nw) (h1 : ¬ c = 120) (h2 : ¬ c = 121) : ZM G mX9_evenCost 5 0 0 [.ref 77, .int c] (zw X1 Y O) (mR X1 O (0) (yth Y 1)) := by
  refine ZM.go pX9 rfl rfl (zle rfl) (zl := [some (.ref 77), some (.int c)]) rfl ?_
  refine z_aload_n (i := 0) dX9_evenCost_0 rfl rfl (q := 1) rfl ?_
  refine z_iload_n (i := 1) dX9_evenCost_1 rfl rfl (q := 2) rfl ?_
  refine z_callVF (As := [_]) dX9_evenCost_2 kX9_205 (c_X9_evens_ax hR h1 h2) (wm _ _ _) rfl rfl (zle rfl) ⟨zle rfl, zle rfl⟩ ⟨zle rfl, zle rfl⟩ (q := 5) rfl ?_
  refine z_if_eq (tgt := 15) dX9_evenCost_5 (by decide) (q := 8) rfl (fun h5 => ?_) (fun h5 => absurd h5 (by decide))
  refine z_iconst (v := 0) dX9_evenCost_15 rfl (q := 16) rfl ?_
  exact z_iret dX9_evenCost_16 rfl ⟨zle rfl, zle rfl⟩ ⟨rfl, rfl⟩
set_option maxRecDepth 100000 in
set_option maxHeartbeats 4000000 in
theorem c_X9_evenByAll_none {n nw t : Nat} {o : Nat → Nat} (hI : inv X n nw) (hR : rel X Y n nw) (ht : t < 2) (hv : evR X t n o none) : ZM G mX9_evenByAll 6 0 0 [.ref 77, .int (zch t)] (zw X1 Y O) (fun r w => ∃ Y4, r = .inl (some (.int 0)) ∧ w = zw X1 Y4 O ∧ keepY Y Y4 ∧ Y4.2.1 0 = 2) := by
  refine ZM.go pX9 rfl rfl (zle rfl) (zl := [some (.ref 77), some (.int (zch t))]) rfl ?_
  refine z_aload_n (i := 0) dX9_evenByAll_0 rfl rfl (q := 1) rfl ?_
  refine z_iload_n (i := 1) dX9_evenByAll_1 rfl rfl (q := 2) rfl ?_
  refine z_callV (As := [_]) dX9_evenByAll_2 kX9_208 (c_X9_evenCost_none hI hR ht hv) (wm _ _ _) rfl rfl (zle rfl) ⟨zle rfl, zle rfl⟩ ⟨zle rfl, zle rfl⟩ (q := 5) rfl (fun rv w2 hw2 => ?_) (fun E w2 h9 => by obtain ⟨_, h9, _⟩ := h9; cases h9)
  obtain ⟨Y4, h9, rfl, hk, hth⟩ := hw2
  cases h9
  exact z_iret dX9_evenByAll_5 rfl ⟨zle rfl, zle rfl⟩ ⟨Y4, rfl, rfl, hk, hth⟩
set_option maxRecDepth 100000 in
set_option maxHeartbeats 4000000 in
theorem c_X9_evenByAll_some {n nw t : Nat} {o : Nat → Nat} (hI : inv X n nw) (hR : rel X Y n nw) (ht : t < 2) {c g s : Nat} (hv : evR X t n o (some (c, g, s))) : ZM G mX9_evenByAll 6 0 0 [.ref 77, .int (zch t)] (zw X1 Y O) (fun r w => ∃ Y4, r = .inl (some (.int (nI c))) ∧ w = zw X1 Y4 O ∧ keepY Y Y4 ∧ Y4.2.1 0 = 0) := by
  refine ZM.go pX9 rfl rfl (zle rfl) (zl := [some (.ref 77), some (.int (zch t))]) rfl ?_
  refine z_aload_n (i := 0) dX9_evenByAll_0 rfl rfl (q := 1) rfl ?_
  refine z_iload_n (i := 1) dX9_evenByAll_1 rfl rfl (q := 2) rfl ?_
  refine z_callV (As := [_]) dX9_evenByAll_2 kX9_208 (c_X9_evenCost_some hI hR ht hv) (wm _ _ _) rfl rfl (zle rfl) ⟨zle rfl, zle rfl⟩ ⟨zle rfl, zle rfl⟩ (q := 5) rfl (fun rv w2 hw2 => ?_) (fun E w2 h9 => by obtain ⟨_, h9, _⟩ := h9; cases h9)
  obtain ⟨Y4, h9, rfl, hk, hth⟩ := hw2
  cases h9
  exact z_iret dX9_evenByAll_5 rfl ⟨zle rfl, zle rfl⟩ ⟨Y4, rfl, rfl, hk, hth⟩
set_option maxRecDepth 100000 in
set_option maxHeartbeats 4000000 in
theorem c_X9_evenByAll_ax {n nw : Nat} {c : Int32} (hR : rel X Y n nw) (h1 : ¬ c = 120) (h2 : ¬ c = 121) : ZM G mX9_evenByAll 6 0 0 [.ref 77, .int c] (zw X1 Y O) (mR X1 O (0) (yth Y 1)) := by
  refine ZM.go pX9 rfl rfl (zle rfl) (zl := [some (.ref 77), some (.int c)]) rfl ?_
  refine z_aload_n (i := 0) dX9_evenByAll_0 rfl rfl (q := 1) rfl ?_
  refine z_iload_n (i := 1) dX9_evenByAll_1 rfl rfl (q := 2) rfl ?_
  refine z_callVF (As := [_]) dX9_evenByAll_2 kX9_208 (c_X9_evenCost_ax hR h1 h2) (wm _ _ _) rfl rfl (zle rfl) ⟨zle rfl, zle rfl⟩ ⟨zle rfl, zle rfl⟩ (q := 5) rfl ?_
  exact z_iret dX9_evenByAll_5 rfl ⟨zle rfl, zle rfl⟩ ⟨rfl, rfl⟩
set_option maxRecDepth 100000 in
set_option maxHeartbeats 4000000 in
theorem c_X9_spread_none {n nw t : Nat} {o : Nat → Nat} (hI : inv X n nw) (hR : rel X Y n nw) (ht : t < 2) (hv : evR X t n o none) : ZM G mX9_spread 5 0 0 [.ref 77, .int (zch t)] (zw X1 Y O) (fun r w => ∃ Y4, r = .inl (some (.int 0)) ∧ w = zw X1 Y4 O ∧ keepY Y Y4 ∧ Y4.2.1 0 = 2) := by
  refine ZM.go pX9 rfl rfl (zle rfl) (zl := [some (.ref 77), some (.int (zch t))]) rfl ?_
  refine z_aload_n (i := 0) dX9_spread_0 rfl rfl (q := 1) rfl ?_
  refine z_iload_n (i := 1) dX9_spread_1 rfl rfl (q := 2) rfl ?_
  refine z_callV (As := [_]) dX9_spread_2 kX9_205 (c_X9_evens_none hI hR ht hv) (wm _ _ _) rfl rfl (zle rfl) ⟨zle rfl, zle rfl⟩ ⟨zle rfl, zle rfl⟩ (q := 5) rfl (fun rv w2 hw2 => ?_) (fun E w2 h9 => by obtain ⟨_, h9, _⟩ := h9; cases h9)
  obtain ⟨Y4, h9, rfl, hk, hth⟩ := hw2
  cases h9
  refine z_if_ne (tgt := 10) dX9_spread_5 (by decide) (q := 8) rfl (fun h5 => absurd h5 (by decide)) (fun h5 => ?_)
  refine z_iconst (v := 0) dX9_spread_8 rfl (q := 9) rfl ?_
  exact z_iret dX9_spread_9 rfl ⟨zle rfl, zle rfl⟩ ⟨Y4, rfl, rfl, hk, hth⟩
set_option maxRecDepth 100000 in
set_option maxHeartbeats 4000000 in
theorem c_X9_spread_ax {n nw : Nat} {c : Int32} (hR : rel X Y n nw) (h1 : ¬ c = 120) (h2 : ¬ c = 121) : ZM G mX9_spread 5 0 0 [.ref 77, .int c] (zw X1 Y O) (mR X1 O (0) (yth Y 1)) := by
  refine ZM.go pX9 rfl rfl (zle rfl) (zl := [some (.ref 77), some (.int c)]) rfl ?_
  refine z_aload_n (i := 0) dX9_spread_0 rfl rfl (q := 1) rfl ?_
  refine z_iload_n (i := 1) dX9_spread_1 rfl rfl (q := 2) rfl ?_
  refine z_callVF (As := [_]) dX9_spread_2 kX9_205 (c_X9_evens_ax hR h1 h2) (wm _ _ _) rfl rfl (zle rfl) ⟨zle rfl, zle rfl⟩ ⟨zle rfl, zle rfl⟩ (q := 5) rfl ?_
  refine z_if_ne (tgt := 10) dX9_spread_5 (by decide) (q := 8) rfl (fun h5 => absurd h5 (by decide)) (fun h5 => ?_)
  refine z_iconst (v := 0) dX9_spread_8 rfl (q := 9) rfl ?_
  exact z_iret dX9_spread_9 rfl ⟨zle rfl, zle rfl⟩ ⟨rfl, rfl⟩
set_option maxRecDepth 100000 in
set_option maxHeartbeats 4000000 in
theorem c_X9_spread_some {n nw t : Nat} {o : Nat → Nat} (hI : inv X n nw) (hR : rel X Y n nw) (ht : t < 2) {c g s : Nat} (hv : evR X t n o (some (c, g, s))) : ZM G mX9_spread 5 0 0 [.ref 77, .int (zch t)] (zw X1 Y O) (fun r w => ∃ Y4, r = .inl (some (.int (nI g))) ∧ w = zw X1 Y4 O ∧ Y4.2.1 0 = 0 ∧ ∀ X3, spR X t n o c g s X3 → rel X3 Y4 n nw) := by
  refine ZM.go pX9 rfl rfl (zle rfl) (zl := [some (.ref 77), some (.int (zch t))]) rfl ?_
  refine z_aload_n (i := 0) dX9_spread_0 rfl rfl (q := 1) rfl ?_
  refine z_iload_n (i := 1) dX9_spread_1 rfl rfl (q := 2) rfl ?_
  refine z_callV (As := [_]) dX9_spread_2 kX9_205 (c_X9_evens_some hI hR ht hv) (wm _ _ _) rfl rfl (zle rfl) ⟨zle rfl, zle rfl⟩ ⟨zle rfl, zle rfl⟩ (q := 5) rfl (fun rv w2 hw2 => ?_) (fun E w2 h9 => by cases h9.1)
  obtain ⟨h9, Y3, rfl, hk, hth, hc, hg, hb⟩ := hw2
  cases h9
  refine z_if_ne (tgt := 10) dX9_spread_5 (by decide) (q := 8) rfl (fun h5 => ?_) (fun h5 => absurd h5 (by decide))
  refine z_aload_n (i := 0) dX9_spread_10 rfl rfl (q := 11) rfl ?_
  refine z_iload_n (i := 1) dX9_spread_11 rfl rfl (q := 12) rfl ?_
  refine z_callSF (As := [_]) dX9_spread_12 kX9_101 (c_X9_axisOf ht) rfl (zle rfl) ⟨zle rfl, zle rfl⟩ ⟨zle rfl, zle rfl⟩ (q := 15) rfl ?_
  refine z_callV (As := [_]) dX9_spread_15 kX9_199 (c_X9_movesToBest (rel_kY hR hk) ht) (wm _ _ _) rfl rfl (zle rfl) ⟨zle rfl, zle rfl⟩ ⟨zle rfl, zle rfl⟩ (q := 18) rfl (fun rv w2 hw2 => ?_) (fun E w2 h9 => by cases h9.1)
  obtain ⟨h9, f, rfl, hf⟩ := hw2
  cases h9
  refine z_aload_n (i := 0) dX9_spread_18 rfl rfl (q := 19) rfl ?_
  refine z_get dX9_spread_19 fX9_169 (wm _ _ _) rfl (q := 22) rfl ?_
  exact z_iret dX9_spread_22 rfl ⟨zle rfl, zle rfl⟩ ⟨_, by rw [← hg]; rfl, rfl, hth, fun X3 ⟨D, hD, hm⟩ => rel_mv hR ht hk hf (fun j hj => by obtain ⟨p, hp, rfl⟩ := hv.1.2.2 j hj; rw [hb p hp, hD p hp]) hc hm⟩
end
