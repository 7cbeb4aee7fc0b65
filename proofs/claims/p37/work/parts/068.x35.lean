section
variable {G : zG} {X : zX} {Y : zY} {O : zO}
set_option maxRecDepth 100000 in
set_option maxHeartbeats 4000000 in
theorem med_eq {n : Nat} (h : 1 ≤ n) (h4 : n ≤ 4) : (nI n - 1) / 2 = nI ((n - 1) / 2) := by
  rw [show nI n = nI (n - 1 + 1) by rw [Nat.sub_add_cancel h], nI_pred]
  exact (Int32.ofNat_div (b := 2) (by omega) (by decide)).symm
set_option maxRecDepth 100000 in
set_option maxHeartbeats 4000000 in
theorem bI_next {st sb : Nat → Nat} {lk : Nat → Int32} {g i : Nat} {med v : Int32} (h : bI st sb lk g med i v) (hl : lk i = 0) : bI st sb lk g med (i + 1) v := by
  rcases h with ⟨h1, h2⟩ | ⟨p, h1, h2, h3⟩
  · refine Or.inl ⟨h1, fun p hp => ?_⟩
    rcases Nat.lt_or_ge p i with h4 | h4
    · exact h2 p h4
    · rw [show p = i by omega]; exact hl
  · exact Or.inr ⟨p, by omega, h2, h3⟩
set_option maxRecDepth 100000 in
set_option maxHeartbeats 4000000 in
theorem eres_gap {S S2 : Nat → Nat → Prop} {K : Nat → Prop} {co : Nat → Nat → Nat} {b : eb} {g s : Nat} (h : ∀ g2 s2, S2 g2 s2 ↔ S g2 s2 ∨ (g2 = g ∧ K s2)) (hl : ∀ g2 s2, S g2 s2 → g2 < g) (hK : K s) (hm : ∀ s2, K s2 → co g s < co g s2 ∨ co g s = co g s2 ∧ s ≤ s2) (hb : eres S co b) : eres S2 co (ecmp b (co g s) g s) := by
  rcases b with _ | ⟨c0, g0, s0⟩
  · refine ⟨(h g s).mpr (Or.inr ⟨rfl, hK⟩), rfl, fun g2 s2 h2 => ?_⟩
    rcases (h g2 s2).mp h2 with h3 | ⟨rfl, h3⟩
    · exact absurd h3 (hb g2 s2)
    · rcases hm s2 h3 with h4 | ⟨h4, h5⟩
      · exact Or.inl h4
      · exact Or.inr ⟨h4, Or.inr ⟨rfl, h5⟩⟩
  · obtain ⟨h0, hc, hm0⟩ := hb
    rcases Nat.lt_or_ge (co g s) c0 with h1 | h1
    · rw [show ecmp (some (c0, g0, s0)) (co g s) g s = some (co g s, g, s) from if_pos h1]
      refine ⟨(h g s).mpr (Or.inr ⟨rfl, hK⟩), rfl, fun g2 s2 h2 => ?_⟩
      rcases (h g2 s2).mp h2 with h3 | ⟨rfl, h3⟩
      · have h4 := hm0 g2 s2 h3
        exact Or.inl (by omega)
      · rcases hm s2 h3 with h4 | ⟨h4, h5⟩
        · exact Or.inl h4
        · exact Or.inr ⟨h4, Or.inr ⟨rfl, h5⟩⟩
    · rw [show ecmp (some (c0, g0, s0)) (co g s) g s = some (c0, g0, s0) from if_neg (by omega)]
      refine ⟨(h g0 s0).mpr (Or.inl h0), hc, fun g2 s2 h2 => ?_⟩
      rcases (h g2 s2).mp h2 with h3 | ⟨rfl, h3⟩
      · exact hm0 g2 s2 h3
      · have h4 := hl g0 s0 h0
        have h5 : c0 ≤ co g2 s2 := by
          rcases hm s2 h3 with h6 | ⟨h6, _⟩ <;> omega
        rcases Nat.lt_or_ge c0 (co g2 s2) with h6 | h6
        · exact Or.inl h6
        · exact Or.inr ⟨by omega, Or.inl h4⟩
set_option maxRecDepth 100000 in
set_option maxHeartbeats 4000000 in
theorem z_X2_bestStart_70 {n : Nat} {st sb : Nat → Nat} {lk : Nat → Int32} {F : Int32} {g : Nat} {med : Int32} {X1 : zX} {P : zRes → zWorld → Prop} (hE1 : evN X1 n st sb lk F) (hx : ∀ v, bI st sb lk g med n v → Z G mX2_bestStart (zrm 3 0 0) 0 0 105 [some (.ref 57), some (.int (nI g)), some (.int v), some (.int (nI n))] [] (zw X1 Y O) P) : ∀ (m i : Nat) (v : Int32), i + m = n → bI st sb lk g med i v → Z G mX2_bestStart (zrm 3 0 0) 0 0 70 [some (.ref 57), some (.int (nI g)), some (.int v), some (.int (nI i))] [] (zw X1 Y O) P := by
  have h4 := hE1.1
  intro m
  induction m with
  | zero =>
    intro i v hi hb
    have hin : i = n := by omega
    rw [hin] at hb ⊢
    have hin : n = n := rfl
    refine z_iload_n (i := 3) dX2_bestStart_70 rfl rfl (q := 71) rfl ?_
    refine z_aload_n (i := 0) dX2_bestStart_71 rfl rfl (q := 72) rfl ?_
    refine z_get dX2_bestStart_72 fX2_14 (wo_evenSearch _ _ _) rfl (q := 75) rfl ?_
    refine z_callVF (As := []) dX2_bestStart_75 kX2_39 (c_X4_length (wr_25 _ _ _)) (wr_25 _ _ _).1 rfl rfl (zle rfl) ⟨zle rfl, zle rfl⟩ ⟨zle rfl, zle rfl⟩ (q := 78) rfl ?_
    rw [hE1.2.1]
    refine z_icmp_ge (tgt := 105) dX2_bestStart_78 (by decide) (q := 81) rfl (fun h78 => ?_) (fun h78 => absurd (zge_t (by omega)) h78)
    exact hx v (by rw [← hin]; exact hb)
  | succ m ih =>
    intro i v hi hb
    refine z_iload_n (i := 3) dX2_bestStart_70 rfl rfl (q := 71) rfl ?_
    refine z_aload_n (i := 0) dX2_bestStart_71 rfl rfl (q := 72) rfl ?_
    refine z_get dX2_bestStart_72 fX2_14 (wo_evenSearch _ _ _) rfl (q := 75) rfl ?_
    refine z_callVF (As := []) dX2_bestStart_75 kX2_39 (c_X4_length (wr_25 _ _ _)) (wr_25 _ _ _).1 rfl rfl (zle rfl) ⟨zle rfl, zle rfl⟩ ⟨zle rfl, zle rfl⟩ (q := 78) rfl ?_
    rw [hE1.2.1]
    refine z_icmp_ge (tgt := 105) dX2_bestStart_78 (by decide) (q := 81) rfl (fun h78 => absurd h78 (zge_f (by omega) (by omega))) (fun h78 => ?_)
    refine z_aload_n (i := 0) dX2_bestStart_81 rfl rfl (q := 82) rfl ?_
    refine z_get dX2_bestStart_82 fX2_26 (wo_evenSearch _ _ _) rfl (q := 85) rfl ?_
    refine z_iload_n (i := 3) dX2_bestStart_85 rfl rfl (q := 86) rfl ?_
    refine z_callVF (As := [_]) dX2_bestStart_86 kX2_43 (c_X4_get  (wr_28 _ _ _) (by omega) (by decide)) (wr_28 _ _ _).1 rfl rfl (zle rfl) ⟨zle rfl, zle rfl⟩ ⟨zle rfl, zle rfl⟩ (q := 89) rfl ?_
    rw [(hE1.2.2.1 i (by omega)).2.2.2.2]
    refine z_if_eq (tgt := 99) dX2_bestStart_89 (by decide) (q := 92) rfl (fun h89 => ?_) (fun h89 => ?_)
    · refine z_iinc dX2_bestStart_99 rfl rfl (zle rfl) rfl (q := 102) rfl ?_
      refine z_goto (tgt := 70) dX2_bestStart_102 (by decide) ?_
      refine Z.eql (zl2 := [some (.ref 57), some (.int (nI g)), some (.int v), some (.int (nI (i + 1)))]) (by first | (rw [← nI_1 i]; done) | (rw [← nI_1 i]; rfl)) ?_
      exact ih (i + 1) v (by omega) (bI_next hb h89)
    · refine z_aload_n (i := 0) dX2_bestStart_92 rfl rfl (q := 93) rfl ?_
      refine z_iload_n (i := 3) dX2_bestStart_93 rfl rfl (q := 94) rfl ?_
      refine z_iload_n (i := 1) dX2_bestStart_94 rfl rfl (q := 95) rfl ?_
      refine z_callVF (As := [_, _]) dX2_bestStart_95 kX2_110 (c_X2_stayOf (by omega)) (wo_evenSearch _ _ _) rfl rfl (zle rfl) ⟨zle rfl, zle rfl⟩ ⟨zle rfl, zle rfl⟩ (q := 98) rfl ?_
      rw [stay_eq hE1 (by omega)]
      refine z_istore_n (i := 2) dX2_bestStart_98 rfl (zle rfl) rfl (q := 99) rfl ?_
      refine z_iinc dX2_bestStart_99 rfl rfl (zle rfl) rfl (q := 102) rfl ?_
      refine z_goto (tgt := 70) dX2_bestStart_102 (by decide) ?_
      refine Z.eql (zl2 := [some (.ref 57), some (.int (nI g)), some (.int (wI32 st sb g i)), some (.int (nI (i + 1)))]) (by first | (rw [← nI_1 i]; done) | (rw [← nI_1 i]; rfl)) ?_
      exact ih (i + 1) _ (by omega) (Or.inr ⟨i, Nat.lt_succ_self i, h89, rfl⟩)
set_option maxRecDepth 100000 in
set_option maxHeartbeats 4000000 in
theorem z_X2_bestStart_19 {n : Nat} {st sb : Nat → Nat} {lk : Nat → Int32} {F : Int32} {g : Nat} {e3 : Option Value} {P : zRes → zWorld → Prop} (hE : evN X n st sb lk F) (hx : ∀ (X2 : zX), k29 X X2 → stI st sb g n X2 → Z G mX2_bestStart (zrm 3 0 0) 0 0 49 [some (.ref 57), some (.int (nI g)), some (.int (nI n)), e3] [] (zw X2 Y O) P) : ∀ (m i : Nat) (X1 : zX), i + m = n → k29 X X1 → stI st sb g i X1 → Z G mX2_bestStart (zrm 3 0 0) 0 0 19 [some (.ref 57), some (.int (nI g)), some (.int (nI i)), e3] [] (zw X1 Y O) P := by
  have h4 := hE.1
  intro m
  induction m with
  | zero =>
    intro i X1 hi hk hs
    have hE1 := evN_k3 (k3_29 hk) hE
    have hin : i = n := by omega
    rw [hin] at hs ⊢
    refine z_iload_n (i := 2) dX2_bestStart_19 rfl rfl (q := 20) rfl ?_
    refine z_aload_n (i := 0) dX2_bestStart_20 rfl rfl (q := 21) rfl ?_
    refine z_get dX2_bestStart_21 fX2_14 (wo_evenSearch _ _ _) rfl (q := 24) rfl ?_
    refine z_callVF (As := []) dX2_bestStart_24 kX2_39 (c_X4_length (wr_25 _ _ _)) (wr_25 _ _ _).1 rfl rfl (zle rfl) ⟨zle rfl, zle rfl⟩ ⟨zle rfl, zle rfl⟩ (q := 27) rfl ?_
    rw [hE1.2.1]
    refine z_icmp_ge (tgt := 49) dX2_bestStart_27 (by decide) (q := 30) rfl (fun h27 => ?_) (fun h27 => absurd (zge_t (by omega)) h27)
    exact hx X1 hk hs
  | succ m ih =>
    intro i X1 hi hk hs
    have hE1 := evN_k3 (k3_29 hk) hE
    refine z_iload_n (i := 2) dX2_bestStart_19 rfl rfl (q := 20) rfl ?_
    refine z_aload_n (i := 0) dX2_bestStart_20 rfl rfl (q := 21) rfl ?_
    refine z_get dX2_bestStart_21 fX2_14 (wo_evenSearch _ _ _) rfl (q := 24) rfl ?_
    refine z_callVF (As := []) dX2_bestStart_24 kX2_39 (c_X4_length (wr_25 _ _ _)) (wr_25 _ _ _).1 rfl rfl (zle rfl) ⟨zle rfl, zle rfl⟩ ⟨zle rfl, zle rfl⟩ (q := 27) rfl ?_
    rw [hE1.2.1]
    refine z_icmp_ge (tgt := 49) dX2_bestStart_27 (by decide) (q := 30) rfl (fun h27 => absurd h27 (zge_f (by omega) (by omega))) (fun h27 => ?_)
    refine z_aload_n (i := 0) dX2_bestStart_30 rfl rfl (q := 31) rfl ?_
    refine z_get dX2_bestStart_31 fX2_29 (wo_evenSearch _ _ _) rfl (q := 34) rfl ?_
    refine z_aload_n (i := 0) dX2_bestStart_34 rfl rfl (q := 35) rfl ?_
    refine z_iload_n (i := 2) dX2_bestStart_35 rfl rfl (q := 36) rfl ?_
    refine z_iload_n (i := 1) dX2_bestStart_36 rfl rfl (q := 37) rfl ?_
    refine z_callVF (As := [_, _]) dX2_bestStart_37 kX2_110 (c_X2_stayOf (by omega)) (wo_evenSearch _ _ _) rfl rfl (zle rfl) ⟨zle rfl, zle rfl⟩ ⟨zle rfl, zle rfl⟩ (q := 40) rfl ?_
    rw [stay_eq hE1 (by omega)]
    refine z_callVF (As := [_]) dX2_bestStart_40 kX2_68 (c_X4_insert' (k := i) (wr_29 _ _ _) hs.1 (by omega) (by decide)) (wr_29 _ _ _).1 rfl rfl (zle rfl) ⟨zle rfl, zle rfl⟩ ⟨zle rfl, zle rfl⟩ (q := 43) rfl ?_
    refine Z.eqw (wp_29 _ _ _ _ _) ?_
    refine z_iinc dX2_bestStart_43 rfl rfl (zle rfl) rfl (q := 46) rfl ?_
    refine z_goto (tgt := 19) dX2_bestStart_46 (by decide) ?_
    refine Z.eql (zl2 := [some (.ref 57), some (.int (nI g)), some (.int (nI (i + 1))), e3]) (by first | (rw [← nI_1 i]; done) | (rw [← nI_1 i]; rfl)) ?_
    exact ih (i + 1) _ (by omega) (k29_row hk _ _) (stI_add hs)
set_option maxRecDepth 100000 in
set_option maxHeartbeats 4000000 in
theorem z_X2_bestStart_105 {n : Nat} {st sb : Nat → Nat} {lk : Nat → Int32} {F : Int32} {g Fn : Nat} {med v : Int32} {X1 : zX} (hE : evN X n st sb lk F) (h2n : 2 ≤ n) (hFn : F = nI Fn) (hF2 : Fn ≤ 200) (hgF : g ≤ Fn) (hle : g * (n - 1) ≤ Fn) (hk : k29 X X1) (hm : ∀ s : Nat, (med.toInt ≤ s → cN st sb g s 0 n ≤ cN st sb g (s + 1) 0 n) ∧ ((s : Int) < med.toInt → cN st sb g (s + 1) 0 n < cN st sb g s 0 n)) (hb : bI st sb lk g med n v) : Z G mX2_bestStart (zrm 3 0 0) 0 0 105 [some (.ref 57), some (.int (nI g)), some (.int v), some (.int (nI n))] [] (zw X1 Y O) (fun r w2 => ∃ (X2 : zX) (v : Int32), r = .inl (some (.int v)) ∧ w2 = zw X2 Y O ∧ k29 X X2 ∧ bsR n st sb lk F g v) := by
  have h4 := hE.1
  have hE1 := evN_k3 (k3_29 hk) hE
  have hcl0 : (clampN v.toInt (Fn - g * (n - 1))) ≤ Fn - g * (n - 1) := by
    unfold clampN
    split <;> (try split) <;> omega
  have hcl : (clampN v.toInt (Fn - g * (n - 1))) ≤ 200 := by omega
  refine z_iconst (v := 0) dX2_bestStart_105 rfl (q := 106) rfl ?_
  refine z_iload_n (i := 2) dX2_bestStart_106 rfl rfl (q := 107) rfl ?_
  refine z_aload_n (i := 0) dX2_bestStart_107 rfl rfl (q := 108) rfl ?_
  refine z_iload_n (i := 1) dX2_bestStart_108 rfl rfl (q := 109) rfl ?_
  refine z_callVF (As := [_]) dX2_bestStart_109 kX2_94 (c_X2_lastStart hE1.2.1) (wo_evenSearch _ _ _) rfl rfl (zle rfl) ⟨zle rfl, zle rfl⟩ ⟨zle rfl, zle rfl⟩ (q := 112) rfl ?_
  rw [hE1.2.2.2.trans hFn, last_eq h2n, nI_sub hle]
  refine z_min dX2_bestStart_112 kX2_113 (zle rfl) ⟨zle rfl, zle rfl, zle rfl, zle rfl⟩ (q := 115) rfl ?_
  refine z_max dX2_bestStart_115 kX2_116 (zle rfl) ⟨zle rfl, zle rfl, zle rfl, zle rfl⟩ (q := 118) rfl ?_
  rw [clamp_eq (by omega)]
  refine z_istore_n (i := 3) dX2_bestStart_118 rfl (zle rfl) rfl (q := 119) rfl ?_
  refine z_aload_n (i := 0) dX2_bestStart_119 rfl rfl (q := 120) rfl ?_
  refine z_iload_n (i := 3) dX2_bestStart_120 rfl rfl (q := 121) rfl ?_
  refine z_iload_n (i := 1) dX2_bestStart_121 rfl rfl (q := 122) rfl ?_
  refine z_callVF (As := [_, _]) dX2_bestStart_122 kX2_97 (c_X2_keepsLocks hE1.2.1 hE1.1) (wo_evenSearch _ _ _) rfl rfl (zle rfl) ⟨zle rfl, zle rfl⟩ ⟨zle rfl, zle rfl⟩ (q := 125) rfl ?_
  refine z_if_eq (tgt := 132) dX2_bestStart_125 (by decide) (q := 128) rfl (fun h125 => ?_) (fun h125 => ?_)
  · refine z_iconst (v := (-1)) dX2_bestStart_132 rfl (q := 133) rfl ?_
    exact z_iret dX2_bestStart_133 rfl ⟨zle rfl, zle rfl⟩ ⟨X1, _, rfl, rfl, hk, bsR_no hE hFn hF2 hgF hb (fun ho => by rw [show rany (fun p => ¬ X1.2.1 28 p = 0 ∧ ¬ evS X1 (nI (clampN v.toInt (Fn - g * (n - 1)))) (nI g) p = X1.2.1 26 p) 0 n = false from Bool.eq_false_iff.mpr (fun h9 => (lk_any hE1 (by omega) hcl).mp h9 ho)] at h125; exact absurd h125 (by decide))⟩
  · refine z_iload_n (i := 3) dX2_bestStart_128 rfl rfl (q := 129) rfl ?_
    refine z_goto (tgt := 133) dX2_bestStart_129 (by decide) ?_
    exact z_iret dX2_bestStart_133 rfl ⟨zle rfl, zle rfl⟩ ⟨X1, _, rfl, rfl, hk, bsR_ok hE h2n hFn hF2 hgF hle hm hb (Classical.byContradiction (fun h9 => h125 (by rw [(lk_any hE1 (by omega) hcl).mpr h9]; rfl)))⟩
set_option maxRecDepth 100000 in
set_option maxHeartbeats 4000000 in
theorem c_X2_bestStart {n : Nat} {st sb : Nat → Nat} {lk : Nat → Int32} {F : Int32} {g Fn : Nat} (hE : evN X n st sb lk F) (h2n : 2 ≤ n) (hFn : F = nI Fn) (hF2 : Fn ≤ 200) (hgF : g ≤ Fn) : ZM G mX2_bestStart 3 0 0 [.ref 57, .int (nI g)] (zw X Y O) (fun r w2 => ∃ (X2 : zX) (v : Int32), r = .inl (some (.int v)) ∧ w2 = zw X2 Y O ∧ k29 X X2 ∧ bsR n st sb lk F g v) := by
  have h4 := hE.1
  rcases Nat.lt_or_ge Fn (g * (n - 1)) with hle | hle
  · have hneg : nI Fn - nI (g * (n - 1)) < 0 := nI_subneg hle (by have h9 := Nat.mul_le_mul (show g ≤ 200 by omega) (show n - 1 ≤ 3 by omega); omega)
    refine ZM.go pX2 rfl rfl (zle rfl) (zl := [some (.ref 57), some (.int (nI g)), none, none]) rfl ?_
    refine z_aload_n (i := 0) dX2_bestStart_0 rfl rfl (q := 1) rfl ?_
    refine z_iload_n (i := 1) dX2_bestStart_1 rfl rfl (q := 2) rfl ?_
    refine z_callVF (As := [_]) dX2_bestStart_2 kX2_94 (c_X2_lastStart hE.2.1) (wo_evenSearch _ _ _) rfl rfl (zle rfl) ⟨zle rfl, zle rfl⟩ ⟨zle rfl, zle rfl⟩ (q := 5) rfl ?_
    rw [hE.2.2.2.trans hFn, last_eq h2n]
    refine z_if_ge (tgt := 10) dX2_bestStart_5 (by decide) (q := 8) rfl (fun h5 => absurd h5 (Int32.not_le.mpr hneg)) (fun h5 => ?_)
    refine z_iconst (v := (-1)) dX2_bestStart_8 rfl (q := 9) rfl ?_
    exact z_iret dX2_bestStart_9 rfl ⟨zle rfl, zle rfl⟩ ⟨X, -1, rfl, rfl, ⟨fun _ _ => ⟨rfl, rfl⟩, rfl⟩, Or.inl ⟨rfl, fun s hc => by obtain ⟨_, Fm, e1, e2, e3, e4, _⟩ := hc; have e5 : Fm = Fn := (nI_eq (by omega) (by omega)).mp (e1.symm.trans hFn); omega⟩⟩
  · refine ZM.go pX2 rfl rfl (zle rfl) (zl := [some (.ref 57), some (.int (nI g)), none, none]) rfl ?_
    refine z_aload_n (i := 0) dX2_bestStart_0 rfl rfl (q := 1) rfl ?_
    refine z_iload_n (i := 1) dX2_bestStart_1 rfl rfl (q := 2) rfl ?_
    refine z_callVF (As := [_]) dX2_bestStart_2 kX2_94 (c_X2_lastStart hE.2.1) (wo_evenSearch _ _ _) rfl rfl (zle rfl) ⟨zle rfl, zle rfl⟩ ⟨zle rfl, zle rfl⟩ (q := 5) rfl ?_
    rw [hE.2.2.2.trans hFn, last_eq h2n, nI_sub hle]
    refine z_if_ge (tgt := 10) dX2_bestStart_5 (by decide) (q := 8) rfl (fun h5 => ?_) (fun h5 => absurd (Int32.not_lt.mp (nI_pos (by omega))) h5)
    refine z_aload_n (i := 0) dX2_bestStart_10 rfl rfl (q := 11) rfl ?_
    refine z_get dX2_bestStart_11 fX2_29 (wo_evenSearch _ _ _) rfl (q := 14) rfl ?_
    refine z_callVF (As := []) dX2_bestStart_14 kX2_36 (c_X4_clear (wr_29 _ _ _)) (wr_29 _ _ _).1 rfl rfl (zle rfl) ⟨zle rfl, zle rfl⟩ ⟨zle rfl, zle rfl⟩ (q := 17) rfl ?_
    refine Z.eqw (wp_29 _ _ _ _ _) ?_
    refine z_iconst (v := 0) dX2_bestStart_17 rfl (q := 18) rfl ?_
    refine z_istore_n (i := 2) dX2_bestStart_18 rfl (zle rfl) rfl (q := 19) rfl ?_
    refine z_X2_bestStart_19 hE (fun X1 hk hs => ?_) n 0 _ (by omega) (k29_row ⟨fun _ _ => ⟨rfl, rfl⟩, rfl⟩ _ _) ⟨rfl, fun i j _ h => absurd h (Nat.not_lt_zero _), fun P => rfl⟩
    refine z_aload_n (i := 0) dX2_bestStart_49 rfl rfl (q := 50) rfl ?_
    refine z_get dX2_bestStart_50 fX2_29 (wo_evenSearch _ _ _) rfl (q := 53) rfl ?_
    refine z_aload_n (i := 0) dX2_bestStart_53 rfl rfl (q := 54) rfl ?_
    refine z_get dX2_bestStart_54 fX2_29 (wo_evenSearch _ _ _) rfl (q := 57) rfl ?_
    refine z_callVF (As := []) dX2_bestStart_57 kX2_39 (c_X4_length (wr_29 _ _ _)) (wr_29 _ _ _).1 rfl rfl (zle rfl) ⟨zle rfl, zle rfl⟩ ⟨zle rfl, zle rfl⟩ (q := 60) rfl ?_
    rw [hs.1]
    refine z_iconst (v := 1) dX2_bestStart_60 rfl (q := 61) rfl ?_
    refine z_isub dX2_bestStart_61 (q := 62) rfl ?_
    refine z_iconst (v := 2) dX2_bestStart_62 rfl (q := 63) rfl ?_
    refine z_idiv dX2_bestStart_63 (by decide) (q := 64) rfl ?_
    rw [med_eq (by omega) h4]
    refine z_callVF (As := [_]) dX2_bestStart_64 kX2_43 (c_X4_get (k := (n - 1) / 2) (wr_29 _ _ _) (by omega) (by decide)) (wr_29 _ _ _).1 rfl rfl (zle rfl) ⟨zle rfl, zle rfl⟩ ⟨zle rfl, zle rfl⟩ (q := 67) rfl ?_
    refine z_istore_n (i := 2) dX2_bestStart_67 rfl (zle rfl) rfl (q := 68) rfl ?_
    refine z_iconst (v := 0) dX2_bestStart_68 rfl (q := 69) rfl ?_
    refine z_istore_n (i := 3) dX2_bestStart_69 rfl (zle rfl) rfl (q := 70) rfl ?_
    refine z_X2_bestStart_70 (med := (X1.2.1 29 ((n - 1) / 2))) (evN_k3 (k3_29 hk) hE) (fun v hb => ?_) n 0 _ (by omega) (Or.inl ⟨rfl, fun p h => absurd h (Nat.not_lt_zero _)⟩)
    exact z_X2_bestStart_105 hE h2n hFn hF2 hgF hle hk (stI_med (evN_k3 (k3_29 hk) hE) (by omega) h2n hs) hb
end
