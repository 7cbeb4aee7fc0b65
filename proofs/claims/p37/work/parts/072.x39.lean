section
variable {G : zG} {X : zX} {Y : zY} {O : zO}
set_option maxRecDepth 100000 in
set_option maxHeartbeats 4000000 in
theorem rfirst_none {p : Nat → Prop} [DecidablePred p] : ∀ (m i : Nat), (∀ j, i ≤ j → j < i + m → ¬ p j) → rfirst p i m = -1
  | 0, _, _ => rfl
  | m + 1, i, h => by
    unfold rfirst
    rw [if_neg (h i (Nat.le_refl _) (by omega))]
    exact rfirst_none m (i + 1) (fun j h1 h2 => h j (by omega) (by omega))
set_option maxRecDepth 100000 in
set_option maxHeartbeats 4000000 in
theorem inv_on {n nw : Nat} (hI : inv X n nw) {t : Nat} (ht : t < 2) {k : Nat} (hk : k < n) : zon (zlim t) (X.2.1 (2 * t) k) (X.2.1 (2 * t + 1) k) := by
  have h := (own_chN hI ht hk).2.2.2
  rw [← (inv_axis hI ht hk).1.1] at h
  exact h
set_option maxRecDepth 100000 in
set_option maxHeartbeats 4000000 in
theorem inv_apart {n nw : Nat} (hI : inv X n nw) {i k : Nat} (hi : i < n) (hk : k < n) : ¬ pover X (nI i) (X.2.1 0 i) (X.2.1 2 i) (X.2.1 1 i) (X.2.1 3 i) k := by
  rintro ⟨h1, h2, h3⟩
  have h4 := hI.1
  have hne : k ≠ i := fun e => h1 (by rw [e])
  rcases Nat.lt_or_ge k i with h5 | h5
  · exact hI.2.2.2.2.2.1 k i h5 hi ⟨h2, h3⟩
  · exact hI.2.2.2.2.2.1 i k (by omega) hk ⟨⟨h2.2, h2.1⟩, ⟨h3.2, h3.1⟩⟩
/- two findings of one search are the same -/
set_option maxRecDepth 100000 in
set_option maxHeartbeats 4000000 in
theorem eres_same {S : Nat → Nat → Prop} {co : Nat → Nat → Nat} {b b2 : eb} (h : eres S co b) (h2 : eres S co b2) : b = b2 := by
  rcases b with _ | ⟨c, g, s⟩
  · rcases b2 with _ | ⟨c2, g2, s2⟩
    · rfl
    · exact absurd h2.1 (h g2 s2)
  · rcases b2 with _ | ⟨c2, g2, s2⟩
    · exact absurd h.1 (h2 g s)
    · obtain ⟨k1, k2, k3⟩ := h
      obtain ⟨l1, l2, l3⟩ := h2
      have m1 := k3 g2 s2 l1
      have m2 := l3 g s k1
      have e1 : c = c2 := by omega
      have e2 : g = g2 := by omega
      have e3 : s = s2 := by omega
      rw [e1, e2, e3]
set_option maxRecDepth 100000 in
set_option maxHeartbeats 4000000 in
theorem z_X8_allShapesStandRight_2 {n nw : Nat} (hI : inv X n nw) : ∀ (m i : Nat) (a b c d : Option Value), i + m = n → Z G mX8_allShapesStandRight (zrm 4 0 0) 0 0 2 [some (.ref 0), some (.int (nI i)), a, b, c, d] [] (zw X Y O) (zEq (some (.int 1)) (zw X Y O)) := by
  have h4 := hI.1
  intro m
  induction m with
  | zero =>
    intro i a b c d hi
    refine z_iload_n (i := 1) dX8_allShapesStandRight_2 rfl rfl (q := 3) rfl ?_
    refine z_aload_n (i := 0) dX8_allShapesStandRight_3 rfl rfl (q := 4) rfl ?_
    refine z_callVF (As := []) dX8_allShapesStandRight_4 kX8_82 (c_X8_shapeCount ) (wo_x _ _ _) rfl rfl (zle rfl) ⟨zle rfl, zle rfl⟩ ⟨zle rfl, zle rfl⟩ (q := 7) rfl ?_
    rw [hI.2.2.1 0 (by decide)]
    refine z_icmp_ge (tgt := 97) dX8_allShapesStandRight_7 (by decide) (q := 10) rfl (fun h7 => ?_) (fun h7 => absurd (zge_t (by omega)) h7)
    refine z_iconst (v := 1) dX8_allShapesStandRight_97 rfl (q := 98) rfl ?_
    exact z_zret dX8_allShapesStandRight_98 rfl rfl ⟨zle rfl, zle rfl⟩ ⟨rfl, rfl⟩
  | succ m ih =>
    intro i a b c d hi
    have hin : i < n := by omega
    have hf : rfirst (pover X (nI i) (X.2.1 (2 * 0) i) (X.2.1 (2 * 1) i) (X.2.1 (2 * 0 + 1) i) (X.2.1 (2 * 1 + 1) i)) 0 n = -1 := rfirst_none n 0 (fun k _ hk => inv_apart hI hin (by omega))
    refine z_iload_n (i := 1) dX8_allShapesStandRight_2 rfl rfl (q := 3) rfl ?_
    refine z_aload_n (i := 0) dX8_allShapesStandRight_3 rfl rfl (q := 4) rfl ?_
    refine z_callVF (As := []) dX8_allShapesStandRight_4 kX8_82 (c_X8_shapeCount ) (wo_x _ _ _) rfl rfl (zle rfl) ⟨zle rfl, zle rfl⟩ ⟨zle rfl, zle rfl⟩ (q := 7) rfl ?_
    rw [hI.2.2.1 0 (by decide)]
    refine z_icmp_ge (tgt := 97) dX8_allShapesStandRight_7 (by decide) (q := 10) rfl (fun h7 => absurd h7 (zge_f (by omega) (by omega))) (fun h7 => ?_)
    refine z_aload_n (i := 0) dX8_allShapesStandRight_10 rfl rfl (q := 11) rfl ?_
    refine z_get dX8_allShapesStandRight_11 fX8_14 (wo_x _ _ _) rfl (q := 14) rfl ?_
    refine z_iload_n (i := 1) dX8_allShapesStandRight_14 rfl rfl (q := 15) rfl ?_
    refine z_callVF (As := [_]) dX8_allShapesStandRight_15 kX8_120 (c_X0_startAt (t := 0) (by decide) (by omega)) (wo_across _ _ _) rfl rfl (zle rfl) ⟨zle rfl, zle rfl⟩ ⟨zle rfl, zle rfl⟩ (q := 18) rfl ?_
    refine z_istore_n (i := 2) dX8_allShapesStandRight_18 rfl (zle rfl) rfl (q := 19) rfl ?_
    refine z_aload_n (i := 0) dX8_allShapesStandRight_19 rfl rfl (q := 20) rfl ?_
    refine z_get dX8_allShapesStandRight_20 fX8_18 (wo_x _ _ _) rfl (q := 23) rfl ?_
    refine z_iload_n (i := 1) dX8_allShapesStandRight_23 rfl rfl (q := 24) rfl ?_
    refine z_callVF (As := [_]) dX8_allShapesStandRight_24 kX8_120 (c_X0_startAt (t := 1) (by decide) (by omega)) (wo_down _ _ _) rfl rfl (zle rfl) ⟨zle rfl, zle rfl⟩ ⟨zle rfl, zle rfl⟩ (q := 27) rfl ?_
    refine z_istore_n (i := 3) dX8_allShapesStandRight_27 rfl (zle rfl) rfl (q := 28) rfl ?_
    refine z_aload_n (i := 0) dX8_allShapesStandRight_28 rfl rfl (q := 29) rfl ?_
    refine z_get dX8_allShapesStandRight_29 fX8_14 (wo_x _ _ _) rfl (q := 32) rfl ?_
    refine z_iload_n (i := 1) dX8_allShapesStandRight_32 rfl rfl (q := 33) rfl ?_
    refine z_callVF (As := [_]) dX8_allShapesStandRight_33 kX8_124 (c_X0_sizeAt (t := 0) (by decide) (by omega)) (wo_across _ _ _) rfl rfl (zle rfl) ⟨zle rfl, zle rfl⟩ ⟨zle rfl, zle rfl⟩ (q := 36) rfl ?_
    refine z_istore dX8_allShapesStandRight_36 (zle rfl) rfl (q := 38) rfl ?_
    refine z_aload_n (i := 0) dX8_allShapesStandRight_38 rfl rfl (q := 39) rfl ?_
    refine z_get dX8_allShapesStandRight_39 fX8_18 (wo_x _ _ _) rfl (q := 42) rfl ?_
    refine z_iload_n (i := 1) dX8_allShapesStandRight_42 rfl rfl (q := 43) rfl ?_
    refine z_callVF (As := [_]) dX8_allShapesStandRight_43 kX8_124 (c_X0_sizeAt (t := 1) (by decide) (by omega)) (wo_down _ _ _) rfl rfl (zle rfl) ⟨zle rfl, zle rfl⟩ ⟨zle rfl, zle rfl⟩ (q := 46) rfl ?_
    refine z_istore dX8_allShapesStandRight_46 (zle rfl) rfl (q := 48) rfl ?_
    refine z_aload_n (i := 0) dX8_allShapesStandRight_48 rfl rfl (q := 49) rfl ?_
    refine z_get dX8_allShapesStandRight_49 fX8_14 (wo_x _ _ _) rfl (q := 52) rfl ?_
    refine z_iload_n (i := 2) dX8_allShapesStandRight_52 rfl rfl (q := 53) rfl ?_
    refine z_iload dX8_allShapesStandRight_53 rfl (q := 55) rfl ?_
    refine z_callVF (As := [_, _]) dX8_allShapesStandRight_55 kX8_76 (c_X0_holds (t := 0) (by decide) ) (wo_across _ _ _) rfl rfl (zle rfl) ⟨zle rfl, zle rfl⟩ ⟨zle rfl, zle rfl⟩ (q := 58) rfl ?_
    refine z_if_eq (tgt := 89) dX8_allShapesStandRight_58 (by decide) (q := 61) rfl (fun h58 => absurd h58 (zb_1.mpr (inv_on hI (t := 0) (by decide) hin))) (fun h58 => ?_)
    refine z_aload_n (i := 0) dX8_allShapesStandRight_61 rfl rfl (q := 62) rfl ?_
    refine z_get dX8_allShapesStandRight_62 fX8_18 (wo_x _ _ _) rfl (q := 65) rfl ?_
    refine z_iload_n (i := 3) dX8_allShapesStandRight_65 rfl rfl (q := 66) rfl ?_
    refine z_iload dX8_allShapesStandRight_66 rfl (q := 68) rfl ?_
    refine z_callVF (As := [_, _]) dX8_allShapesStandRight_68 kX8_76 (c_X0_holds (t := 1) (by decide) ) (wo_down _ _ _) rfl rfl (zle rfl) ⟨zle rfl, zle rfl⟩ ⟨zle rfl, zle rfl⟩ (q := 71) rfl ?_
    refine z_if_eq (tgt := 89) dX8_allShapesStandRight_71 (by decide) (q := 74) rfl (fun h71 => absurd h71 (zb_1.mpr (inv_on hI (t := 1) (by decide) hin))) (fun h71 => ?_)
    refine z_aload_n (i := 0) dX8_allShapesStandRight_74 rfl rfl (q := 75) rfl ?_
    refine z_iload_n (i := 1) dX8_allShapesStandRight_75 rfl rfl (q := 76) rfl ?_
    refine z_iload_n (i := 2) dX8_allShapesStandRight_76 rfl rfl (q := 77) rfl ?_
    refine z_iload_n (i := 3) dX8_allShapesStandRight_77 rfl rfl (q := 78) rfl ?_
    refine z_iload dX8_allShapesStandRight_78 rfl (q := 80) rfl ?_
    refine z_iload dX8_allShapesStandRight_80 rfl (q := 82) rfl ?_
    refine z_callVF (As := [_, _, _, _, _]) dX8_allShapesStandRight_82 kX8_91 (c_X8_firstOverlapped (hI.2.2.1 0 (by decide)) h4) (wo_x _ _ _) rfl rfl (zle rfl) ⟨zle rfl, zle rfl⟩ ⟨zle rfl, zle rfl⟩ (q := 85) rfl ?_
    refine z_iconst (v := (-1)) dX8_allShapesStandRight_85 rfl (q := 86) rfl ?_
    refine z_icmp_eq (tgt := 91) dX8_allShapesStandRight_86 (by decide) (q := 89) rfl (fun h86 => ?_) (fun h86 => absurd hf h86)
    refine z_iinc dX8_allShapesStandRight_91 rfl rfl (zle rfl) rfl (q := 94) rfl ?_
    refine z_goto (tgt := 2) dX8_allShapesStandRight_94 (by decide) ?_
    refine Z.eql (zl2 := [some (.ref 0), some (.int (nI (i + 1))), some (.int (X.2.1 (2 * 0) i)), some (.int (X.2.1 (2 * 1) i)), some (.int (X.2.1 (2 * 0 + 1) i)), some (.int (X.2.1 (2 * 1 + 1) i))]) (by first | (rw [← nI_1 i]; done) | (rw [← nI_1 i]; rfl)) ?_
    exact ih (i + 1) _ _ _ _ (by omega)
set_option maxRecDepth 100000 in
set_option maxHeartbeats 4000000 in
theorem c_X8_allShapesStandRight {n nw : Nat} (hI : inv X n nw) : ZM G mX8_allShapesStandRight 4 0 0 [.ref 0] (zw X Y O) (zEq (some (.int 1)) (zw X Y O)) := by
  refine ZM.go pX8 rfl rfl (zle rfl) (zl := [some (.ref 0), none, none, none, none, none]) rfl ?_
  refine z_iconst (v := 0) dX8_allShapesStandRight_0 rfl (q := 1) rfl ?_
  refine z_istore_n (i := 1) dX8_allShapesStandRight_1 rfl (zle rfl) rfl (q := 2) rfl ?_
  exact z_X8_allShapesStandRight_2 hI n 0 _ _ _ _ (by omega)
end
