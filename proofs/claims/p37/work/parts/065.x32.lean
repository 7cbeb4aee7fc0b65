section
variable {G : zG} {X : zX} {Y : zY} {O : zO}
/- an even layout: its gap and its first start -/
set_option maxRecDepth 100000 in
set_option maxHeartbeats 4000000 in
def cand (n : Nat) (st sb : Nat → Nat) (lk : Nat → Int32) (F : Int32) (g s : Nat) : Prop := 2 ≤ n ∧ ∃ Fn, F = nI Fn ∧ Fn ≤ 200 ∧ g ≤ Fn ∧ s + g * (n - 1) ≤ Fn ∧ lkN n st sb lk g s
/- those ahead of (g, s) -/
set_option maxRecDepth 100000 in
set_option maxHeartbeats 4000000 in
def candB (n : Nat) (st sb : Nat → Nat) (lk : Nat → Int32) (F : Int32) (g s g2 s2 : Nat) : Prop := (g2 < g ∨ g2 = g ∧ s2 < s) ∧ cand n st sb lk F g2 s2
/- the finding among S: the least cost, of equal ones the first -/
set_option maxRecDepth 100000 in
set_option maxHeartbeats 4000000 in
def eres (S : Nat → Nat → Prop) (co : Nat → Nat → Nat) : eb → Prop
  | none => ∀ g s, ¬ S g s
  | some (c, g, s) => S g s ∧ c = co g s ∧ ∀ g2 s2, S g2 s2 → c < co g2 s2 ∨ c = co g2 s2 ∧ (g < g2 ∨ g = g2 ∧ s ≤ s2)
set_option maxRecDepth 100000 in
set_option maxHeartbeats 4000000 in
theorem eres_congr {S S2 : Nat → Nat → Prop} {co : Nat → Nat → Nat} {b : eb} (h : ∀ g s, S2 g s ↔ S g s) (hb : eres S co b) : eres S2 co b := by
  rcases b with _ | ⟨c, g, s⟩
  · exact fun g s h2 => hb g s ((h g s).mp h2)
  · exact ⟨(h g s).mpr hb.1, hb.2.1, fun g2 s2 h2 => hb.2.2 g2 s2 ((h g2 s2).mp h2)⟩
set_option maxRecDepth 100000 in
set_option maxHeartbeats 4000000 in
theorem eres_add {S S2 : Nat → Nat → Prop} {co : Nat → Nat → Nat} {b : eb} {g s : Nat} (h : ∀ g2 s2, S2 g2 s2 ↔ S g2 s2 ∨ (g2 = g ∧ s2 = s)) (hl : ∀ g2 s2, S g2 s2 → g2 < g ∨ g2 = g ∧ s2 < s) (hb : eres S co b) : eres S2 co (ecmp b (co g s) g s) := by
  rcases b with _ | ⟨c0, g0, s0⟩
  · refine ⟨(h g s).mpr (Or.inr ⟨rfl, rfl⟩), rfl, fun g2 s2 h2 => ?_⟩
    rcases (h g2 s2).mp h2 with h3 | ⟨rfl, rfl⟩
    · exact absurd h3 (hb g2 s2)
    · exact Or.inr ⟨rfl, Or.inr ⟨rfl, Nat.le_refl _⟩⟩
  · obtain ⟨h0, hc, hm⟩ := hb
    rcases Nat.lt_or_ge (co g s) c0 with h1 | h1
    · rw [show ecmp (some (c0, g0, s0)) (co g s) g s = some (co g s, g, s) from if_pos h1]
      refine ⟨(h g s).mpr (Or.inr ⟨rfl, rfl⟩), rfl, fun g2 s2 h2 => ?_⟩
      rcases (h g2 s2).mp h2 with h3 | ⟨rfl, rfl⟩
      · have h4 := hm g2 s2 h3
        exact Or.inl (by omega)
      · exact Or.inr ⟨rfl, Or.inr ⟨rfl, Nat.le_refl _⟩⟩
    · rw [show ecmp (some (c0, g0, s0)) (co g s) g s = some (c0, g0, s0) from if_neg (by omega)]
      refine ⟨(h g0 s0).mpr (Or.inl h0), hc, fun g2 s2 h2 => ?_⟩
      rcases (h g2 s2).mp h2 with h3 | ⟨rfl, rfl⟩
      · exact hm g2 s2 h3
      · have h4 := hl g0 s0 h0
        rcases Nat.lt_or_ge c0 (co g2 s2) with h5 | h5
        · exact Or.inl h5
        · exact Or.inr ⟨by omega, by omega⟩
set_option maxRecDepth 100000 in
set_option maxHeartbeats 4000000 in
theorem nI_subneg {a b : Nat} (h : a < b) (hb : b ≤ 2000) : nI a - nI b < 0 := by
  have e : nI a - nI b = 0 - nI (b - a) := by rw [← nI_sub (Nat.le_of_lt h), Int32.zero_sub, Int32.neg_sub]
  rw [e]
  exact Int32.not_le.mp (nI_distB0 _ (by omega) (by omega))
set_option maxRecDepth 100000 in
set_option maxHeartbeats 4000000 in
theorem last_eq {n g Fn : Nat} (h2 : 2 ≤ n) : nI Fn - nI g * (nI n - 1) = nI Fn - nI (g * (n - 1)) := by
  rw [show nI n = nI (n - 1 + 1) by rw [Nat.sub_add_cancel (by omega)], nI_pred, nI_mul]
set_option maxRecDepth 100000 in
set_option maxHeartbeats 4000000 in
theorem z_X2_searchAll_28 {n : Nat} {st sb : Nat → Nat} {lk : Nat → Int32} {F : Int32} {g Fn : Nat} {P : zRes → zWorld → Prop} (hE : evN X n st sb lk F) (h2n : 2 ≤ n) (hFn : F = nI Fn) (hF2 : Fn ≤ 200) (hgF : g ≤ Fn) (hle : g * (n - 1) ≤ Fn) (hx : ∀ (X2 : zX) (b : eb) (e : Option Value), k3 X X2 → evB X2 b → eres (candB n st sb lk F g (Fn - g * (n - 1) + 1)) (fun g s => cN st sb g s 0 n) b → Z G mX2_searchAll (zrm 5 0 0) 0 0 58 [some (.ref 57), some (.int (nI g)), e] [] (zw X2 Y O) P) : ∀ (m s : Nat) (b : eb) (X1 : zX), s + m = Fn - g * (n - 1) + 1 → k3 X X1 → evB X1 b → eres (candB n st sb lk F g s) (fun g s => cN st sb g s 0 n) b → Z G mX2_searchAll (zrm 5 0 0) 0 0 28 [some (.ref 57), some (.int (nI g)), some (.int (nI s))] [] (zw X1 Y O) P := by
  intro m
  induction m with
  | zero =>
    intro s b X1 hs hk hb hr
    have hE1 := evN_k3 hk hE
    rw [show s = Fn - g * (n - 1) + 1 by omega] at hr ⊢
    refine z_iload_n (i := 2) dX2_searchAll_28 rfl rfl (q := 29) rfl ?_
    refine z_aload_n (i := 0) dX2_searchAll_29 rfl rfl (q := 30) rfl ?_
    refine z_iload_n (i := 1) dX2_searchAll_30 rfl rfl (q := 31) rfl ?_
    refine z_callVF (As := [_]) dX2_searchAll_31 kX2_94 (c_X2_lastStart hE1.2.1) (wo_evenSearch _ _ _) rfl rfl (zle rfl) ⟨zle rfl, zle rfl⟩ ⟨zle rfl, zle rfl⟩ (q := 34) rfl ?_
    rw [hE1.2.2.2.trans hFn, last_eq h2n, nI_sub hle]
    refine z_icmp_gt (tgt := 58) dX2_searchAll_34 (by decide) (q := 37) rfl (fun h34 => ?_) (fun h34 => absurd ((nI_ltI (by omega) (by omega)).mpr (by omega)) h34)
    exact hx X1 b _ hk hb hr
  | succ m ih =>
    intro s b X1 hs hk hb hr
    have hE1 := evN_k3 hk hE
    refine z_iload_n (i := 2) dX2_searchAll_28 rfl rfl (q := 29) rfl ?_
    refine z_aload_n (i := 0) dX2_searchAll_29 rfl rfl (q := 30) rfl ?_
    refine z_iload_n (i := 1) dX2_searchAll_30 rfl rfl (q := 31) rfl ?_
    refine z_callVF (As := [_]) dX2_searchAll_31 kX2_94 (c_X2_lastStart hE1.2.1) (wo_evenSearch _ _ _) rfl rfl (zle rfl) ⟨zle rfl, zle rfl⟩ ⟨zle rfl, zle rfl⟩ (q := 34) rfl ?_
    rw [hE1.2.2.2.trans hFn, last_eq h2n, nI_sub hle]
    refine z_icmp_gt (tgt := 58) dX2_searchAll_34 (by decide) (q := 37) rfl (fun h34 => absurd h34 (fun h9 => absurd ((nI_ltI (by omega) (by omega)).mp h9) (by omega))) (fun h34 => ?_)
    refine z_aload_n (i := 0) dX2_searchAll_37 rfl rfl (q := 38) rfl ?_
    refine z_iload_n (i := 2) dX2_searchAll_38 rfl rfl (q := 39) rfl ?_
    refine z_iload_n (i := 1) dX2_searchAll_39 rfl rfl (q := 40) rfl ?_
    refine z_callVF (As := [_, _]) dX2_searchAll_40 kX2_97 (c_X2_keepsLocks hE1.2.1 hE1.1) (wo_evenSearch _ _ _) rfl rfl (zle rfl) ⟨zle rfl, zle rfl⟩ ⟨zle rfl, zle rfl⟩ (q := 43) rfl ?_
    refine z_if_eq (tgt := 52) dX2_searchAll_43 (by decide) (q := 46) rfl (fun h43 => ?_) (fun h43 => ?_)
    · refine z_iinc dX2_searchAll_52 rfl rfl (zle rfl) rfl (q := 55) rfl ?_
      refine z_goto (tgt := 28) dX2_searchAll_55 (by decide) ?_
      have ho : ¬ lkN n st sb lk g s := fun ho => by rw [show rany (fun p => ¬ X1.2.1 28 p = 0 ∧ ¬ evS X1 (nI s) (nI g) p = X1.2.1 26 p) 0 n = false from Bool.eq_false_iff.mpr (fun h9 => (lk_any hE1 (by omega) (by omega)).mp h9 ho)] at h43; exact absurd h43 (by decide)
      refine Z.eql (zl2 := [some (.ref 57), some (.int (nI g)), some (.int (nI (s + 1)))]) (by first | (rw [← nI_1 s]; done) | (rw [← nI_1 s]; rfl)) ?_
      refine ih (s + 1) b X1 (by omega) hk hb (eres_congr (fun g2 s2 => ?_) hr)
      constructor
      · rintro ⟨h5, h6⟩
        rcases Decidable.em (g2 = g ∧ s2 = s) with h7 | h7
        · obtain ⟨_, _, _, _, _, _, h8⟩ := h6
          rw [h7.1, h7.2] at h8; exact absurd h8 ho
        · exact ⟨by omega, h6⟩
      · rintro ⟨h5, h6⟩
        exact ⟨by omega, h6⟩
    · have ho : lkN n st sb lk g s := Classical.byContradiction (fun h9 => h43 (by rw [(lk_any hE1 (by omega) (by omega)).mpr h9]; rfl))
      refine z_aload_n (i := 0) dX2_searchAll_46 rfl rfl (q := 47) rfl ?_
      refine z_iload_n (i := 2) dX2_searchAll_47 rfl rfl (q := 48) rfl ?_
      refine z_iload_n (i := 1) dX2_searchAll_48 rfl rfl (q := 49) rfl ?_
      refine z_callV (As := [_, _]) dX2_searchAll_49 kX2_91 (c_X2_compare hE1 (g := g) (s := s) (by omega) (by omega) hb) (wo_evenSearch _ _ _) rfl rfl (zle rfl) ⟨zle rfl, zle rfl⟩ ⟨zle rfl, zle rfl⟩ (q := 52) rfl (fun rv w2 hw2 => ?_) (fun E w2 h9 => by cases h9.1)
      obtain ⟨h9, X2, rfl, hk2, hb2⟩ := hw2
      cases h9
      refine z_iinc dX2_searchAll_52 rfl rfl (zle rfl) rfl (q := 55) rfl ?_
      refine z_goto (tgt := 28) dX2_searchAll_55 (by decide) ?_
      refine Z.eql (zl2 := [some (.ref 57), some (.int (nI g)), some (.int (nI (s + 1)))]) (by first | (rw [← nI_1 s]; done) | (rw [← nI_1 s]; rfl)) ?_
      refine ih (s + 1) _ X2 (by omega) (k3_trans hk hk2) hb2 (eres_add (co := fun g s => cN st sb g s 0 n) (fun g2 s2 => ?_) (fun g2 s2 h5 => h5.1) hr)
      constructor
      · rintro ⟨h5, h6⟩
        rcases Decidable.em (g2 = g ∧ s2 = s) with h7 | h7
        · exact Or.inr h7
        · exact Or.inl ⟨by omega, h6⟩
      · rintro (⟨h5, h6⟩ | ⟨rfl, rfl⟩)
        · exact ⟨by omega, h6⟩
        · exact ⟨Or.inr ⟨rfl, by omega⟩, h2n, Fn, hFn, hF2, hgF, by omega, ho⟩
set_option maxRecDepth 100000 in
set_option maxHeartbeats 4000000 in
theorem z_X2_searchAll_7 {n : Nat} {st sb : Nat → Nat} {lk : Nat → Int32} {F : Int32} {Fn : Nat} (hE : evN X n st sb lk F) (h2n : 2 ≤ n) (hFn : F = nI Fn) (hF2 : Fn ≤ 200) : ∀ (m g : Nat) (b : eb) (X1 : zX) (e : Option Value), g + m = Fn + 1 → k3 X X1 → evB X1 b → eres (candB n st sb lk F g 0) (fun g s => cN st sb g s 0 n) b → Z G mX2_searchAll (zrm 5 0 0) 0 0 7 [some (.ref 57), some (.int (nI g)), e] [] (zw X1 Y O) (fun r w2 => r = .inl none ∧ ∃ (X2 : zX) (b : eb), w2 = zw X2 Y O ∧ k3 X X2 ∧ evB X2 b ∧ eres (cand n st sb lk F) (fun g s => cN st sb g s 0 n) b) := by
  have h4 := hE.1
  intro m
  induction m with
  | zero =>
    intro g b X1 e hg hk hb hr
    have hE1 := evN_k3 hk hE
    refine z_iload_n (i := 1) dX2_searchAll_7 rfl rfl (q := 8) rfl ?_
    refine z_aload_n (i := 0) dX2_searchAll_8 rfl rfl (q := 9) rfl ?_
    refine z_get dX2_searchAll_9 fX2_61 (wo_evenSearch _ _ _) rfl (q := 12) rfl ?_
    rw [hE1.2.2.2.trans hFn]
    refine z_icmp_gt (tgt := 64) dX2_searchAll_12 (by decide) (q := 15) rfl (fun h12 => ?_) (fun h12 => absurd ((nI_ltI (by omega) (by omega)).mpr (by omega)) h12)
    exact z_vret dX2_searchAll_64 rfl ⟨zle rfl, zle rfl⟩ ⟨rfl, X1, b, rfl, hk, hb, eres_congr (fun g2 s2 => ⟨fun h6 => ⟨by obtain ⟨_, Fm, e1, e2, e3, e4, _⟩ := h6; have e5 : Fm = Fn := (nI_eq (by omega) (by omega)).mp (e1.symm.trans hFn); exact Or.inl (by omega), h6⟩, fun h6 => h6.2⟩) hr⟩
  | succ m ih =>
    intro g b X1 e hg hk hb hr
    have hE1 := evN_k3 hk hE
    refine z_iload_n (i := 1) dX2_searchAll_7 rfl rfl (q := 8) rfl ?_
    refine z_aload_n (i := 0) dX2_searchAll_8 rfl rfl (q := 9) rfl ?_
    refine z_get dX2_searchAll_9 fX2_61 (wo_evenSearch _ _ _) rfl (q := 12) rfl ?_
    rw [hE1.2.2.2.trans hFn]
    refine z_icmp_gt (tgt := 64) dX2_searchAll_12 (by decide) (q := 15) rfl (fun h12 => absurd h12 (fun h9 => absurd ((nI_ltI (by omega) (by omega)).mp h9) (by omega))) (fun h12 => ?_)
    refine z_aload_n (i := 0) dX2_searchAll_15 rfl rfl (q := 16) rfl ?_
    refine z_get dX2_searchAll_16 fX2_14 (wo_evenSearch _ _ _) rfl (q := 19) rfl ?_
    refine z_callVF (As := []) dX2_searchAll_19 kX2_39 (c_X4_length (wr_25 _ _ _)) (wr_25 _ _ _).1 rfl rfl (zle rfl) ⟨zle rfl, zle rfl⟩ ⟨zle rfl, zle rfl⟩ (q := 22) rfl ?_
    rw [hE1.2.1]
    refine z_iconst (v := 2) dX2_searchAll_22 rfl (q := 23) rfl ?_
    refine z_icmp_lt (tgt := 64) dX2_searchAll_23 (by decide) (q := 26) rfl (fun h23 => absurd h23 (fun h9 => absurd ((nI_ltI (b := 2) (by omega) (by decide)).mp h9) (by omega))) (fun h23 => ?_)
    refine z_iconst (v := 0) dX2_searchAll_26 rfl (q := 27) rfl ?_
    refine z_istore_n (i := 2) dX2_searchAll_27 rfl (zle rfl) rfl (q := 28) rfl ?_
    rcases Nat.lt_or_ge Fn (g * (n - 1)) with hle | hle
    · have hneg : nI Fn - nI (g * (n - 1)) < 0 := nI_subneg hle (by have h9 := Nat.mul_le_mul (show g ≤ 200 by omega) (show n - 1 ≤ 3 by have := hE.1; omega); omega)
      refine z_iload_n (i := 2) dX2_searchAll_28 rfl rfl (q := 29) rfl ?_
      refine z_aload_n (i := 0) dX2_searchAll_29 rfl rfl (q := 30) rfl ?_
      refine z_iload_n (i := 1) dX2_searchAll_30 rfl rfl (q := 31) rfl ?_
      refine z_callVF (As := [_]) dX2_searchAll_31 kX2_94 (c_X2_lastStart hE1.2.1) (wo_evenSearch _ _ _) rfl rfl (zle rfl) ⟨zle rfl, zle rfl⟩ ⟨zle rfl, zle rfl⟩ (q := 34) rfl ?_
      rw [hE1.2.2.2.trans hFn, last_eq h2n]
      refine z_icmp_gt (tgt := 58) dX2_searchAll_34 (by decide) (q := 37) rfl (fun h34 => ?_) (fun h34 => absurd hneg h34)
      refine z_iinc dX2_searchAll_58 rfl rfl (zle rfl) rfl (q := 61) rfl ?_
      refine z_goto (tgt := 7) dX2_searchAll_61 (by decide) ?_
      refine Z.eql (zl2 := [some (.ref 57), some (.int (nI (g + 1))), some (.int 0)]) (by first | (rw [← nI_1 g]; done) | (rw [← nI_1 g]; rfl)) ?_
      refine ih (g + 1) b X1 _ (by omega) hk hb (eres_congr (fun g2 s2 => ?_) hr)
      constructor
      · rintro ⟨h5, h6⟩
        refine ⟨?_, h6⟩
        obtain ⟨_, Fm, e1, e2, e3, e4, _⟩ := h6
        have e5 : Fm = Fn := (nI_eq (by omega) (by omega)).mp (e1.symm.trans hFn)
        rcases Nat.lt_or_ge g2 g with h7 | h7
        · exact Or.inl h7
        · have e6 : g2 = g := by omega
          rw [e6] at e4
          omega
      · rintro ⟨h5, h6⟩
        exact ⟨by omega, h6⟩
    · refine z_X2_searchAll_28 hE h2n hFn hF2 (by omega) hle (fun X2 b2 e2 hk2 hb2 hr2 => ?_) (Fn - g * (n - 1) + 1) 0 b X1 (by omega) hk hb hr
      refine z_iinc dX2_searchAll_58 rfl rfl (zle rfl) rfl (q := 61) rfl ?_
      refine z_goto (tgt := 7) dX2_searchAll_61 (by decide) ?_
      refine Z.eql (zl2 := [some (.ref 57), some (.int (nI (g + 1))), e2]) (by first | (rw [← nI_1 g]; done) | (rw [← nI_1 g]; rfl)) ?_
      refine ih (g + 1) b2 X2 _ (by omega) hk2 hb2 (eres_congr (fun g2 s2 => ?_) hr2)
      constructor
      · rintro ⟨h5, h6⟩
        refine ⟨?_, h6⟩
        obtain ⟨_, Fm, e1, e2, e3, e4, _⟩ := h6
        have e5 : Fm = Fn := (nI_eq (by omega) (by omega)).mp (e1.symm.trans hFn)
        rcases Nat.lt_or_ge g2 g with h7 | h7
        · exact Or.inl h7
        · have e6 : g2 = g := by omega
          rw [e6] at e4 ⊢
          exact Or.inr ⟨rfl, by omega⟩
      · rintro ⟨h5, h6⟩
        exact ⟨by omega, h6⟩
set_option maxRecDepth 100000 in
set_option maxHeartbeats 4000000 in
theorem c_X2_searchAll {n : Nat} {st sb : Nat → Nat} {lk : Nat → Int32} {F : Int32} (hE : evN X n st sb lk F) (hF : F < 0 ∨ ∃ Fn, F = nI Fn ∧ Fn ≤ 200) : ZM G mX2_searchAll 5 0 0 [.ref 57] (zw X Y O) (fun r w2 => r = .inl none ∧ ∃ (X2 : zX) (b : eb), w2 = zw X2 Y O ∧ k3 X X2 ∧ evB X2 b ∧ eres (cand n st sb lk F) (fun g s => cN st sb g s 0 n) b) := by
  refine ZM.go pX2 rfl rfl (zle rfl) (zl := [some (.ref 57), none, none]) rfl ?_
  refine z_aload_n (i := 0) dX2_searchAll_0 rfl rfl (q := 1) rfl ?_
  refine z_iconst (v := (-1)) dX2_searchAll_1 rfl (q := 2) rfl ?_
  refine z_put dX2_searchAll_2 fX2_75 (wo_evenSearch _ _ _) (zle rfl) (zfit_int _) (q := 5) rfl ?_
  refine Z.eqw (wi_3 _ _ _ _) ?_
  refine z_iconst (v := 0) dX2_searchAll_5 rfl (q := 6) rfl ?_
  refine z_istore_n (i := 1) dX2_searchAll_6 rfl (zle rfl) rfl (q := 7) rfl ?_
  have hk : k3 X (xint X 3 (-1)) := ⟨fun _ _ => ⟨rfl, rfl⟩, rfl, rfl⟩
  have hE1 := evN_k3 hk hE
  have h4 := hE.1
  rcases hF with hF | ⟨Fn, hFn, hF2⟩
  · refine z_iload_n (i := 1) dX2_searchAll_7 rfl rfl (q := 8) rfl ?_
    refine z_aload_n (i := 0) dX2_searchAll_8 rfl rfl (q := 9) rfl ?_
    refine z_get dX2_searchAll_9 fX2_61 (wo_evenSearch _ _ _) rfl (q := 12) rfl ?_
    rw [hE1.2.2.2]
    refine z_icmp_gt (tgt := 64) dX2_searchAll_12 (by decide) (q := 15) rfl (fun h12 => ?_) (fun h12 => absurd hF h12)
    exact z_vret dX2_searchAll_64 rfl ⟨zle rfl, zle rfl⟩ ⟨rfl, _, none, rfl, hk, rfl, eres_congr (S := fun _ _ => False) (fun g2 s2 => ⟨fun h6 => by obtain ⟨_, Fm, e1, _⟩ := h6; rw [e1] at hF; exact nI_pos (by omega) hF, False.elim⟩) (show eres (fun _ _ => False) _ none from fun _ _ h => h)⟩
  · rcases Nat.lt_or_ge n 2 with h2n | h2n
    · refine z_iload_n (i := 1) dX2_searchAll_7 rfl rfl (q := 8) rfl ?_
      refine z_aload_n (i := 0) dX2_searchAll_8 rfl rfl (q := 9) rfl ?_
      refine z_get dX2_searchAll_9 fX2_61 (wo_evenSearch _ _ _) rfl (q := 12) rfl ?_
      rw [hE1.2.2.2.trans hFn]
      refine z_icmp_gt (tgt := 64) dX2_searchAll_12 (by decide) (q := 15) rfl (fun h12 => absurd h12 (fun h9 => absurd ((nI_ltI (b := 0) (by omega) (by decide)).mp h9) (by omega))) (fun h12 => ?_)
      refine z_aload_n (i := 0) dX2_searchAll_15 rfl rfl (q := 16) rfl ?_
      refine z_get dX2_searchAll_16 fX2_14 (wo_evenSearch _ _ _) rfl (q := 19) rfl ?_
      refine z_callVF (As := []) dX2_searchAll_19 kX2_39 (c_X4_length (wr_25 _ _ _)) (wr_25 _ _ _).1 rfl rfl (zle rfl) ⟨zle rfl, zle rfl⟩ ⟨zle rfl, zle rfl⟩ (q := 22) rfl ?_
      rw [hE1.2.1]
      refine z_iconst (v := 2) dX2_searchAll_22 rfl (q := 23) rfl ?_
      refine z_icmp_lt (tgt := 64) dX2_searchAll_23 (by decide) (q := 26) rfl (fun h23 => ?_) (fun h23 => absurd ((nI_ltI (b := 2) (by omega) (by decide)).mpr (by omega)) h23)
      exact z_vret dX2_searchAll_64 rfl ⟨zle rfl, zle rfl⟩ ⟨rfl, _, none, rfl, hk, rfl, eres_congr (S := fun _ _ => False) (fun g2 s2 => ⟨fun h6 => by have := h6.1; omega, False.elim⟩) (show eres (fun _ _ => False) _ none from fun _ _ h => h)⟩
    · refine Z.mono (z_X2_searchAll_7 hE1 h2n hFn hF2 (Fn + 1) 0 none _ none (by omega) (k3_refl _) rfl (fun g s h => by have := h.1; omega)) (fun r w2 h => ?_)
      obtain ⟨h1, X3, b, h3, h5, h6, h7⟩ := h
      exact ⟨h1, X3, b, h3, k3_trans hk h5, h6, h7⟩
end
