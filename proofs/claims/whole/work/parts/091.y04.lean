section
variable {G : zG} {X X1 : zX} {Y : zY} {O : zO}
set_option maxRecDepth 100000 in
set_option maxHeartbeats 4000000 in
def feat (c p z : Int32) : Int32 := if c = 108 ∨ c = 116 then p else if c = 99 ∨ c = 109 then 2 * p + z else p + z
set_option maxRecDepth 100000 in
set_option maxHeartbeats 4000000 in
theorem inv_A {n nw w : Nat} (hI : inv X n nw) (hw : w < nw) : X.2.1 7 w = nI (wA X w) ∧ wA X w < n ∧ X.2.1 8 w = nI (wB X w) ∧ wB X w < n := by
  have h := hI.2.2.2.2.2.2 w hw
  exact ⟨h.1.1, h.2.2.1, h.2.1.1, h.2.2.2.1⟩
set_option maxRecDepth 100000 in
set_option maxHeartbeats 4000000 in
theorem ext_upd {f g : Nat → Int32} {i : Nat} (h : ∀ j, j < i → f j = g j) : ∀ j, j < i + 1 → upd f i (g i) j = g j := fun j hj => by
  by_cases e : j = i
  · subst e; exact pk_us
  · rw [pk_un e]; exact h j (by omega)
set_option maxRecDepth 100000 in
set_option maxHeartbeats 4000000 in
theorem yarr_self (Y : zY) (j : Nat) : yarr Y j (Y.1 j) = Y := by
  unfold yarr
  refine Prod.ext (funext fun i => ?_) rfl
  show (if i = j then Y.1 j else Y.1 i) = Y.1 i
  by_cases e : i = j
  · subst e; rw [if_pos rfl]
  · rw [if_neg e]
set_option maxRecDepth 100000 in
set_option maxHeartbeats 4000000 in
theorem rel_arr {n nw : Nat} (hR : rel X Y n nw) {j : Nat} (hj : 9 ≤ j) (f : Nat → Int32) : rel X (yarr Y j f) n nw := rel_kY hR (keepY_arr (keepY_refl Y) hj f)
set_option maxRecDepth 100000 in
set_option maxHeartbeats 4000000 in
theorem rel_int {n nw : Nat} (hR : rel X Y n nw) {j : Nat} (hj : j = 0 ∨ 3 ≤ j) (v : Int32) : rel X (yint Y j v) n nw := rel_kY hR (keepY_int (keepY_refl Y) hj v)
set_option maxRecDepth 100000 in
set_option maxHeartbeats 4000000 in
theorem rsumc_congr {p p2 : Nat → Prop} [DecidablePred p] [DecidablePred p2] {g : Nat → Int32} : ∀ (m i : Nat) (a : Int32), (∀ q, i ≤ q → q < i + m → (p q ↔ p2 q)) → rsumc p g i m a = rsumc p2 g i m a
  | 0, _, _, _ => rfl
  | m + 1, i, a, h => by
    by_cases hp : p i
    · rw [rsumc_t hp, rsumc_t ((h i (by omega) (by omega)).mp hp)]
      exact rsumc_congr m (i + 1) _ fun q h1 h2 => h q (by omega) (by omega)
    · rw [rsumc_f hp, rsumc_f fun h9 => hp ((h i (by omega) (by omega)).mpr h9)]
      exact rsumc_congr m (i + 1) _ fun q h1 h2 => h q (by omega) (by omega)
set_option maxRecDepth 100000 in
set_option maxHeartbeats 4000000 in
theorem c_X9_feature {n nw w k t : Nat} {s : Int32} (hR : rel X Y n nw) (hw : w < nw) (hk : k < n) (ht : t < 2) (ha : akd (X.2.1 6 w) = nI t) : ZM G mX9_feature 1 0 0 [.ref 77, .int (nI w), .int (nI k), .int s] (zw X1 Y O) (zEq (some (.int (feat (X.2.1 6 w) s (X.2.1 (2 * t + 1) k)))) (zw X1 Y O)) := by
  have h4 := rel_4 hR
  have h8 := rel_8 hR
  refine ZM.go pX9 rfl rfl (zle rfl) (zl := [some (.ref 77), some (.int (nI w)), some (.int (nI k)), some (.int s), none]) rfl ?_
  refine z_aload_n (i := 0) dX9_feature_0 rfl rfl (q := 1) rfl ?_
  refine z_iload_n (i := 2) dX9_feature_1 rfl rfl (q := 2) rfl ?_
  refine z_aload_n (i := 0) dX9_feature_2 rfl rfl (q := 3) rfl ?_
  refine z_get dX9_feature_3 fX9_23 (wm _ _ _) rfl (q := 6) rfl ?_
  refine z_iload_n (i := 1) dX9_feature_6 rfl rfl (q := 7) rfl ?_
  refine z_cald dX9_feature_7 (wma_kind _ _ _) (zin (by omega) (by decide)) (q := 8) rfl ?_
  rw [nI_clamp (by omega), (hR.2.2.2.2.1 w hw).1]
  refine z_callSF (As := [_]) dX9_feature_8 kX9_129 (c_X9_axisOfKind ) rfl (zle rfl) ⟨zle rfl, zle rfl⟩ ⟨zle rfl, zle rfl⟩ (q := 11) rfl ?_
  rw [ha]
  refine z_callVF (As := [_, _]) dX9_feature_11 kX9_79 (c_X9_sizeAt hR (by omega) ht) (wm _ _ _) rfl rfl (zle rfl) ⟨zle rfl, zle rfl⟩ ⟨zle rfl, zle rfl⟩ (q := 14) rfl ?_
  refine z_istore dX9_feature_14 (zle rfl) rfl (q := 16) rfl ?_
  refine z_aload_n (i := 0) dX9_feature_16 rfl rfl (q := 17) rfl ?_
  refine z_get dX9_feature_17 fX9_23 (wm _ _ _) rfl (q := 20) rfl ?_
  refine z_iload_n (i := 1) dX9_feature_20 rfl rfl (q := 21) rfl ?_
  refine z_cald dX9_feature_21 (wma_kind _ _ _) (zin (by omega) (by decide)) (q := 22) rfl ?_
  rw [nI_clamp (by omega), (hR.2.2.2.2.1 w hw).1]
  refine z_bipush (v := 108) dX9_feature_22 rfl (q := 24) rfl ?_
  refine z_icmp_eq (tgt := 38) dX9_feature_24 (by decide) (q := 27) rfl (fun h24 => ?_) (fun h24 => ?_)
  · refine z_iload_n (i := 3) dX9_feature_38 rfl rfl (q := 39) rfl ?_
    refine z_goto (tgt := 77) dX9_feature_39 (by decide) ?_
    exact z_iret dX9_feature_77 rfl ⟨zle rfl, zle rfl⟩ ⟨by unfold feat; simp_all, rfl⟩
  · refine z_aload_n (i := 0) dX9_feature_27 rfl rfl (q := 28) rfl ?_
    refine z_get dX9_feature_28 fX9_23 (wm _ _ _) rfl (q := 31) rfl ?_
    refine z_iload_n (i := 1) dX9_feature_31 rfl rfl (q := 32) rfl ?_
    refine z_cald dX9_feature_32 (wma_kind _ _ _) (zin (by omega) (by decide)) (q := 33) rfl ?_
    rw [nI_clamp (by omega), (hR.2.2.2.2.1 w hw).1]
    refine z_bipush (v := 116) dX9_feature_33 rfl (q := 35) rfl ?_
    refine z_icmp_ne (tgt := 42) dX9_feature_35 (by decide) (q := 38) rfl (fun h35 => ?_) (fun h35 => ?_)
    · refine z_aload_n (i := 0) dX9_feature_42 rfl rfl (q := 43) rfl ?_
      refine z_get dX9_feature_43 fX9_23 (wm _ _ _) rfl (q := 46) rfl ?_
      refine z_iload_n (i := 1) dX9_feature_46 rfl rfl (q := 47) rfl ?_
      refine z_cald dX9_feature_47 (wma_kind _ _ _) (zin (by omega) (by decide)) (q := 48) rfl ?_
      rw [nI_clamp (by omega), (hR.2.2.2.2.1 w hw).1]
      refine z_bipush (v := 99) dX9_feature_48 rfl (q := 50) rfl ?_
      refine z_icmp_eq (tgt := 64) dX9_feature_50 (by decide) (q := 53) rfl (fun h50 => ?_) (fun h50 => ?_)
      · refine z_iconst (v := 2) dX9_feature_64 rfl (q := 65) rfl ?_
        refine z_iload_n (i := 3) dX9_feature_65 rfl rfl (q := 66) rfl ?_
        refine z_imul dX9_feature_66 (q := 67) rfl ?_
        refine z_iload dX9_feature_67 rfl (q := 69) rfl ?_
        refine z_iadd dX9_feature_69 (q := 70) rfl ?_
        refine z_goto (tgt := 77) dX9_feature_70 (by decide) ?_
        exact z_iret dX9_feature_77 rfl ⟨zle rfl, zle rfl⟩ ⟨by unfold feat; simp_all, rfl⟩
      · refine z_aload_n (i := 0) dX9_feature_53 rfl rfl (q := 54) rfl ?_
        refine z_get dX9_feature_54 fX9_23 (wm _ _ _) rfl (q := 57) rfl ?_
        refine z_iload_n (i := 1) dX9_feature_57 rfl rfl (q := 58) rfl ?_
        refine z_cald dX9_feature_58 (wma_kind _ _ _) (zin (by omega) (by decide)) (q := 59) rfl ?_
        rw [nI_clamp (by omega), (hR.2.2.2.2.1 w hw).1]
        refine z_bipush (v := 109) dX9_feature_59 rfl (q := 61) rfl ?_
        refine z_icmp_ne (tgt := 73) dX9_feature_61 (by decide) (q := 64) rfl (fun h61 => ?_) (fun h61 => ?_)
        · refine z_iload_n (i := 3) dX9_feature_73 rfl rfl (q := 74) rfl ?_
          refine z_iload dX9_feature_74 rfl (q := 76) rfl ?_
          refine z_iadd dX9_feature_76 (q := 77) rfl ?_
          exact z_iret dX9_feature_77 rfl ⟨zle rfl, zle rfl⟩ ⟨by unfold feat; simp_all, rfl⟩
        · refine z_iconst (v := 2) dX9_feature_64 rfl (q := 65) rfl ?_
          refine z_iload_n (i := 3) dX9_feature_65 rfl rfl (q := 66) rfl ?_
          refine z_imul dX9_feature_66 (q := 67) rfl ?_
          refine z_iload dX9_feature_67 rfl (q := 69) rfl ?_
          refine z_iadd dX9_feature_69 (q := 70) rfl ?_
          refine z_goto (tgt := 77) dX9_feature_70 (by decide) ?_
          exact z_iret dX9_feature_77 rfl ⟨zle rfl, zle rfl⟩ ⟨by unfold feat; simp_all, rfl⟩
    · refine z_iload_n (i := 3) dX9_feature_38 rfl rfl (q := 39) rfl ?_
      refine z_goto (tgt := 77) dX9_feature_39 (by decide) ?_
      exact z_iret dX9_feature_77 rfl ⟨zle rfl, zle rfl⟩ ⟨by unfold feat; simp_all, rfl⟩
set_option maxRecDepth 100000 in
set_option maxHeartbeats 4000000 in
theorem c_X9_isMetWith {n nw w t : Nat} {p q : Int32} (hI : inv X n nw) (hR : rel X Y n nw) (hw : w < nw) (ht : t < 2) (ha : akd (X.2.1 6 w) = nI t) : ZM G mX9_isMetWith 2 0 0 [.ref 77, .int (nI w), .int p, .int q] (zw X1 Y O) (zEq (some (.int (zb (feat (X.2.1 6 w) p (X.2.1 (2 * t + 1) (wA X w)) = feat (X.2.1 6 w) q (X.2.1 (2 * t + 1) (wB X w)))))) (zw X1 Y O)) := by
  have h4 := rel_4 hR
  have h8 := rel_8 hR
  obtain ⟨hA, hAn, hB, hBn⟩ := inv_A hI hw
  refine ZM.go pX9 rfl rfl (zle rfl) (zl := [some (.ref 77), some (.int (nI w)), some (.int p), some (.int q)]) rfl ?_
  refine z_aload_n (i := 0) dX9_isMetWith_0 rfl rfl (q := 1) rfl ?_
  refine z_iload_n (i := 1) dX9_isMetWith_1 rfl rfl (q := 2) rfl ?_
  refine z_aload_n (i := 0) dX9_isMetWith_2 rfl rfl (q := 3) rfl ?_
  refine z_get dX9_isMetWith_3 fX9_27 (wm _ _ _) rfl (q := 6) rfl ?_
  refine z_iload_n (i := 1) dX9_isMetWith_6 rfl rfl (q := 7) rfl ?_
  refine z_iald dX9_isMetWith_7 (wma_one _ _ _) (zin (by omega) (by decide)) (q := 8) rfl ?_
  rw [nI_clamp (by omega), (hR.2.2.2.2.1 w hw).2.1, hA]
  refine z_iload_n (i := 2) dX9_isMetWith_8 rfl rfl (q := 9) rfl ?_
  refine z_callVF (As := [_, _, _]) dX9_isMetWith_9 kX9_138 (c_X9_feature hR hw hAn ht ha) (wm _ _ _) rfl rfl (zle rfl) ⟨zle rfl, zle rfl⟩ ⟨zle rfl, zle rfl⟩ (q := 12) rfl ?_
  refine z_aload_n (i := 0) dX9_isMetWith_12 rfl rfl (q := 13) rfl ?_
  refine z_iload_n (i := 1) dX9_isMetWith_13 rfl rfl (q := 14) rfl ?_
  refine z_aload_n (i := 0) dX9_isMetWith_14 rfl rfl (q := 15) rfl ?_
  refine z_get dX9_isMetWith_15 fX9_30 (wm _ _ _) rfl (q := 18) rfl ?_
  refine z_iload_n (i := 1) dX9_isMetWith_18 rfl rfl (q := 19) rfl ?_
  refine z_iald dX9_isMetWith_19 (wma_two _ _ _) (zin (by omega) (by decide)) (q := 20) rfl ?_
  rw [nI_clamp (by omega), (hR.2.2.2.2.1 w hw).2.2.1, hB]
  refine z_iload_n (i := 3) dX9_isMetWith_20 rfl rfl (q := 21) rfl ?_
  refine z_callVF (As := [_, _, _]) dX9_isMetWith_21 kX9_138 (c_X9_feature hR hw hBn ht ha) (wm _ _ _) rfl rfl (zle rfl) ⟨zle rfl, zle rfl⟩ ⟨zle rfl, zle rfl⟩ (q := 24) rfl ?_
  refine z_icmp_ne (tgt := 31) dX9_isMetWith_24 (by decide) (q := 27) rfl (fun h24 => ?_) (fun h24 => ?_)
  · refine z_iconst (v := 0) dX9_isMetWith_31 rfl (q := 32) rfl ?_
    exact z_zret dX9_isMetWith_32 rfl rfl ⟨zle rfl, zle rfl⟩ (by first | exact zr1 (by assumption) | exact zr0 (by assumption))
  · refine z_iconst (v := 1) dX9_isMetWith_27 rfl (q := 28) rfl ?_
    refine z_goto (tgt := 32) dX9_isMetWith_28 (by decide) ?_
    exact z_zret dX9_isMetWith_32 rfl rfl ⟨zle rfl, zle rfl⟩ (by first | exact zr1 (by assumption) | exact zr0 (by assumption))
set_option maxRecDepth 100000 in
set_option maxHeartbeats 4000000 in
theorem c_X9_isMet_out {n nw : Nat} {s : Int32} (hR : rel X Y n nw) (h : s < 0 ∨ nI nw ≤ s) : ZM G mX9_isMet 3 0 0 [.ref 77, .int s] (zw X1 Y O) (mR X1 O (0) (yth Y 1)) := by
  have h4 := rel_4 hR
  have hR0 : rel X (yint Y 0 0) n nw := rel_thr hR 0
  refine ZM.go pX9 rfl rfl (zle rfl) (zl := [some (.ref 77), some (.int s), none]) rfl ?_
  refine z_aload_n (i := 0) dX9_isMet_0 rfl rfl (q := 1) rfl ?_
  refine z_iconst (v := 0) dX9_isMet_1 rfl (q := 2) rfl ?_
  refine z_put dX9_isMet_2 fX9_60 (wm _ _ _) (zle rfl) (zfit_int _) (q := 5) rfl ?_
  refine Z.eqw (wmi_thrown _ _ _ _) ?_
  refine z_aload_n (i := 0) dX9_isMet_5 rfl rfl (q := 6) rfl ?_
  refine z_aload_n (i := 0) dX9_isMet_6 rfl rfl (q := 7) rfl ?_
  refine z_iload_n (i := 1) dX9_isMet_7 rfl rfl (q := 8) rfl ?_
  refine z_callVF (As := [_]) dX9_isMet_8 kX9_135 (c_X9_noWish_out hR0 h) (wm _ _ _) rfl rfl (zle rfl) ⟨zle rfl, zle rfl⟩ ⟨zle rfl, zle rfl⟩ (q := 11) rfl ?_
  refine z_iconst (v := 1) dX9_isMet_11 rfl (q := 12) rfl ?_
  refine z_callVF (As := [_, _]) dX9_isMet_12 kX9_89 (c_X9_fails_t rfl (by decide)) (wm _ _ _) rfl rfl (zle rfl) ⟨zle rfl, zle rfl⟩ ⟨zle rfl, zle rfl⟩ (q := 15) rfl ?_
  refine z_if_eq (tgt := 20) dX9_isMet_15 (by decide) (q := 18) rfl (fun h15 => absurd h15 (by decide)) (fun h15 => ?_)
  refine z_iconst (v := 0) dX9_isMet_18 rfl (q := 19) rfl ?_
  exact z_zret dX9_isMet_19 rfl (by first | rfl | assumption | decide) ⟨zle rfl, zle rfl⟩ ⟨rfl, rfl⟩
set_option maxRecDepth 100000 in
set_option maxHeartbeats 4000000 in
theorem c_X9_isMet_dr {n nw k : Nat} (hR : rel X Y n nw) (hk : k < nw) (h : ¬ X.2.1 10 k = 0) : ZM G mX9_isMet 3 0 0 [.ref 77, .int (nI k)] (zw X1 Y O) (mR X1 O (0) (yth Y 1)) := by
  have h4 := rel_4 hR
  have hR0 : rel X (yint Y 0 0) n nw := rel_thr hR 0
  refine ZM.go pX9 rfl rfl (zle rfl) (zl := [some (.ref 77), some (.int (nI k)), none]) rfl ?_
  refine z_aload_n (i := 0) dX9_isMet_0 rfl rfl (q := 1) rfl ?_
  refine z_iconst (v := 0) dX9_isMet_1 rfl (q := 2) rfl ?_
  refine z_put dX9_isMet_2 fX9_60 (wm _ _ _) (zle rfl) (zfit_int _) (q := 5) rfl ?_
  refine Z.eqw (wmi_thrown _ _ _ _) ?_
  refine z_aload_n (i := 0) dX9_isMet_5 rfl rfl (q := 6) rfl ?_
  refine z_aload_n (i := 0) dX9_isMet_6 rfl rfl (q := 7) rfl ?_
  refine z_iload_n (i := 1) dX9_isMet_7 rfl rfl (q := 8) rfl ?_
  refine z_callVF (As := [_]) dX9_isMet_8 kX9_135 (c_X9_noWish_dr hR0 hk h) (wm _ _ _) rfl rfl (zle rfl) ⟨zle rfl, zle rfl⟩ ⟨zle rfl, zle rfl⟩ (q := 11) rfl ?_
  refine z_iconst (v := 1) dX9_isMet_11 rfl (q := 12) rfl ?_
  refine z_callVF (As := [_, _]) dX9_isMet_12 kX9_89 (c_X9_fails_t rfl (by decide)) (wm _ _ _) rfl rfl (zle rfl) ⟨zle rfl, zle rfl⟩ ⟨zle rfl, zle rfl⟩ (q := 15) rfl ?_
  refine z_if_eq (tgt := 20) dX9_isMet_15 (by decide) (q := 18) rfl (fun h15 => absurd h15 (by decide)) (fun h15 => ?_)
  refine z_iconst (v := 0) dX9_isMet_18 rfl (q := 19) rfl ?_
  exact z_zret dX9_isMet_19 rfl (by first | rfl | assumption | decide) ⟨zle rfl, zle rfl⟩ ⟨rfl, rfl⟩
set_option maxRecDepth 100000 in
set_option maxHeartbeats 4000000 in
theorem c_X9_dropWish_out {n nw : Nat} {s : Int32} (hR : rel X Y n nw) (h : s < 0 ∨ nI nw ≤ s) : ZM G mX9_dropWish 2 0 0 [.ref 77, .int s] (zw X1 Y O) (mR X1 O (0) (yth Y 1)) := by
  have h4 := rel_4 hR
  have hR0 : rel X (yint Y 0 0) n nw := rel_thr hR 0
  refine ZM.go pX9 rfl rfl (zle rfl) (zl := [some (.ref 77), some (.int s), none, none]) rfl ?_
  refine z_aload_n (i := 0) dX9_dropWish_0 rfl rfl (q := 1) rfl ?_
  refine z_iconst (v := 0) dX9_dropWish_1 rfl (q := 2) rfl ?_
  refine z_put dX9_dropWish_2 fX9_60 (wm _ _ _) (zle rfl) (zfit_int _) (q := 5) rfl ?_
  refine Z.eqw (wmi_thrown _ _ _ _) ?_
  refine z_aload_n (i := 0) dX9_dropWish_5 rfl rfl (q := 6) rfl ?_
  refine z_aload_n (i := 0) dX9_dropWish_6 rfl rfl (q := 7) rfl ?_
  refine z_iload_n (i := 1) dX9_dropWish_7 rfl rfl (q := 8) rfl ?_
  refine z_callVF (As := [_]) dX9_dropWish_8 kX9_135 (c_X9_noWish_out hR0 h) (wm _ _ _) rfl rfl (zle rfl) ⟨zle rfl, zle rfl⟩ ⟨zle rfl, zle rfl⟩ (q := 11) rfl ?_
  refine z_iconst (v := 1) dX9_dropWish_11 rfl (q := 12) rfl ?_
  refine z_callVF (As := [_, _]) dX9_dropWish_12 kX9_89 (c_X9_fails_t rfl (by decide)) (wm _ _ _) rfl rfl (zle rfl) ⟨zle rfl, zle rfl⟩ ⟨zle rfl, zle rfl⟩ (q := 15) rfl ?_
  refine z_if_eq (tgt := 20) dX9_dropWish_15 (by decide) (q := 18) rfl (fun h15 => absurd h15 (by decide)) (fun h15 => ?_)
  refine z_iconst (v := 0) dX9_dropWish_18 rfl (q := 19) rfl ?_
  exact z_iret dX9_dropWish_19 rfl ⟨zle rfl, zle rfl⟩ ⟨rfl, rfl⟩
set_option maxRecDepth 100000 in
set_option maxHeartbeats 4000000 in
theorem c_X9_dropWish_dr {n nw k : Nat} (hR : rel X Y n nw) (hk : k < nw) (h : ¬ X.2.1 10 k = 0) : ZM G mX9_dropWish 2 0 0 [.ref 77, .int (nI k)] (zw X1 Y O) (mR X1 O (0) (yth Y 1)) := by
  have h4 := rel_4 hR
  have hR0 : rel X (yint Y 0 0) n nw := rel_thr hR 0
  refine ZM.go pX9 rfl rfl (zle rfl) (zl := [some (.ref 77), some (.int (nI k)), none, none]) rfl ?_
  refine z_aload_n (i := 0) dX9_dropWish_0 rfl rfl (q := 1) rfl ?_
  refine z_iconst (v := 0) dX9_dropWish_1 rfl (q := 2) rfl ?_
  refine z_put dX9_dropWish_2 fX9_60 (wm _ _ _) (zle rfl) (zfit_int _) (q := 5) rfl ?_
  refine Z.eqw (wmi_thrown _ _ _ _) ?_
  refine z_aload_n (i := 0) dX9_dropWish_5 rfl rfl (q := 6) rfl ?_
  refine z_aload_n (i := 0) dX9_dropWish_6 rfl rfl (q := 7) rfl ?_
  refine z_iload_n (i := 1) dX9_dropWish_7 rfl rfl (q := 8) rfl ?_
  refine z_callVF (As := [_]) dX9_dropWish_8 kX9_135 (c_X9_noWish_dr hR0 hk h) (wm _ _ _) rfl rfl (zle rfl) ⟨zle rfl, zle rfl⟩ ⟨zle rfl, zle rfl⟩ (q := 11) rfl ?_
  refine z_iconst (v := 1) dX9_dropWish_11 rfl (q := 12) rfl ?_
  refine z_callVF (As := [_, _]) dX9_dropWish_12 kX9_89 (c_X9_fails_t rfl (by decide)) (wm _ _ _) rfl rfl (zle rfl) ⟨zle rfl, zle rfl⟩ ⟨zle rfl, zle rfl⟩ (q := 15) rfl ?_
  refine z_if_eq (tgt := 20) dX9_dropWish_15 (by decide) (q := 18) rfl (fun h15 => absurd h15 (by decide)) (fun h15 => ?_)
  refine z_iconst (v := 0) dX9_dropWish_18 rfl (q := 19) rfl ?_
  exact z_iret dX9_dropWish_19 rfl ⟨zle rfl, zle rfl⟩ ⟨rfl, rfl⟩
set_option maxRecDepth 100000 in
set_option maxHeartbeats 4000000 in
theorem c_X9_isMet {n nw w t : Nat} (hI : inv X n nw) (hR : rel X Y n nw) (hw : w < nw) (h : X.2.1 10 w = 0) (ht : t < 2) (ha : akd (X.2.1 6 w) = nI t) : ZM G mX9_isMet 3 0 0 [.ref 77, .int (nI w)] (zw X1 Y O) (mR X1 O (zb (feat (X.2.1 6 w) (X.2.1 (2 * t) (wA X w)) (X.2.1 (2 * t + 1) (wA X w)) = feat (X.2.1 6 w) (X.2.1 (2 * t) (wB X w)) (X.2.1 (2 * t + 1) (wB X w)))) (yint Y 0 0)) := by
  have h4 := rel_4 hR
  have hR0 : rel X (yint Y 0 0) n nw := rel_thr hR 0
  have h8 := rel_8 hR
  obtain ⟨hA, hAn, hB, hBn⟩ := inv_A hI hw
  refine ZM.go pX9 rfl rfl (zle rfl) (zl := [some (.ref 77), some (.int (nI w)), none]) rfl ?_
  refine z_aload_n (i := 0) dX9_isMet_0 rfl rfl (q := 1) rfl ?_
  refine z_iconst (v := 0) dX9_isMet_1 rfl (q := 2) rfl ?_
  refine z_put dX9_isMet_2 fX9_60 (wm _ _ _) (zle rfl) (zfit_int _) (q := 5) rfl ?_
  refine Z.eqw (wmi_thrown _ _ _ _) ?_
  refine z_aload_n (i := 0) dX9_isMet_5 rfl rfl (q := 6) rfl ?_
  refine z_aload_n (i := 0) dX9_isMet_6 rfl rfl (q := 7) rfl ?_
  refine z_iload_n (i := 1) dX9_isMet_7 rfl rfl (q := 8) rfl ?_
  refine z_callVF (As := [_]) dX9_isMet_8 kX9_135 (c_X9_noWish_in hR0 hw h) (wm _ _ _) rfl rfl (zle rfl) ⟨zle rfl, zle rfl⟩ ⟨zle rfl, zle rfl⟩ (q := 11) rfl ?_
  refine z_iconst (v := 1) dX9_isMet_11 rfl (q := 12) rfl ?_
  refine z_callVF (As := [_, _]) dX9_isMet_12 kX9_89 (c_X9_fails_f rfl) (wm _ _ _) rfl rfl (zle rfl) ⟨zle rfl, zle rfl⟩ ⟨zle rfl, zle rfl⟩ (q := 15) rfl ?_
  refine z_if_eq (tgt := 20) dX9_isMet_15 (by decide) (q := 18) rfl (fun h15 => ?_) (fun h15 => absurd h15 (by decide))
  refine z_aload_n (i := 0) dX9_isMet_20 rfl rfl (q := 21) rfl ?_
  refine z_get dX9_isMet_21 fX9_23 (wm _ _ _) rfl (q := 24) rfl ?_
  refine z_iload_n (i := 1) dX9_isMet_24 rfl rfl (q := 25) rfl ?_
  refine z_cald dX9_isMet_25 (wma_kind _ _ _) (zin (by omega) (by decide)) (q := 26) rfl ?_
  rw [nI_clamp (by omega), (hR0.2.2.2.2.1 w hw).1]
  refine z_callSF (As := [_]) dX9_isMet_26 kX9_129 (c_X9_axisOfKind ) rfl (zle rfl) ⟨zle rfl, zle rfl⟩ ⟨zle rfl, zle rfl⟩ (q := 29) rfl ?_
  rw [ha]
  refine z_istore_n (i := 2) dX9_isMet_29 rfl (zle rfl) rfl (q := 30) rfl ?_
  refine z_aload_n (i := 0) dX9_isMet_30 rfl rfl (q := 31) rfl ?_
  refine z_iload_n (i := 1) dX9_isMet_31 rfl rfl (q := 32) rfl ?_
  refine z_aload_n (i := 0) dX9_isMet_32 rfl rfl (q := 33) rfl ?_
  refine z_aload_n (i := 0) dX9_isMet_33 rfl rfl (q := 34) rfl ?_
  refine z_get dX9_isMet_34 fX9_27 (wm _ _ _) rfl (q := 37) rfl ?_
  refine z_iload_n (i := 1) dX9_isMet_37 rfl rfl (q := 38) rfl ?_
  refine z_iald dX9_isMet_38 (wma_one _ _ _) (zin (by omega) (by decide)) (q := 39) rfl ?_
  rw [nI_clamp (by omega), (hR0.2.2.2.2.1 w hw).2.1, hA]
  refine z_iload_n (i := 2) dX9_isMet_39 rfl rfl (q := 40) rfl ?_
  refine z_callVF (As := [_, _]) dX9_isMet_40 kX9_75 (c_X9_at hR0 hAn ht) (wm _ _ _) rfl rfl (zle rfl) ⟨zle rfl, zle rfl⟩ ⟨zle rfl, zle rfl⟩ (q := 43) rfl ?_
  refine z_aload_n (i := 0) dX9_isMet_43 rfl rfl (q := 44) rfl ?_
  refine z_aload_n (i := 0) dX9_isMet_44 rfl rfl (q := 45) rfl ?_
  refine z_get dX9_isMet_45 fX9_30 (wm _ _ _) rfl (q := 48) rfl ?_
  refine z_iload_n (i := 1) dX9_isMet_48 rfl rfl (q := 49) rfl ?_
  refine z_iald dX9_isMet_49 (wma_two _ _ _) (zin (by omega) (by decide)) (q := 50) rfl ?_
  rw [nI_clamp (by omega), (hR0.2.2.2.2.1 w hw).2.2.1, hB]
  refine z_iload_n (i := 2) dX9_isMet_50 rfl rfl (q := 51) rfl ?_
  refine z_callVF (As := [_, _]) dX9_isMet_51 kX9_75 (c_X9_at hR0 hBn ht) (wm _ _ _) rfl rfl (zle rfl) ⟨zle rfl, zle rfl⟩ ⟨zle rfl, zle rfl⟩ (q := 54) rfl ?_
  refine z_callVF (As := [_, _, _]) dX9_isMet_54 kX9_142 (c_X9_isMetWith hI hR0 hw ht ha) (wm _ _ _) rfl rfl (zle rfl) ⟨zle rfl, zle rfl⟩ ⟨zle rfl, zle rfl⟩ (q := 57) rfl ?_
  exact z_zret dX9_isMet_57 rfl zb_n ⟨zle rfl, zle rfl⟩ ⟨rfl, rfl⟩
set_option maxRecDepth 100000 in
set_option maxHeartbeats 4000000 in
theorem z_X9_looks_2 {n nw t : Nat} (hR : rel X Y n nw) (ht : t < 2) : ∀ (m i : Nat) (f : Nat → Int32), i + m = n → (∀ j, j < i → f j = X.2.1 (2 * t) j) → Z G mX9_looksAtPresent (zrm 1 0 0) 0 0 2 [some (.ref 77), some (.int (nI t)), some (.int (nI i))] [] (zw X1 (yarr Y 12 f) O) (fun r w2 => r = .inl none ∧ ∃ f, w2 = zw X1 (yarr Y 12 f) O ∧ ∀ j, j < n → f j = X.2.1 (2 * t) j) := by
  intro m
  induction m with
  | zero =>
    intro i f hi hf
    have h4 := rel_4 hR
    refine z_iload_n (i := 2) dX9_looksAtPresent_2 rfl rfl (q := 3) rfl ?_
    refine z_aload_n (i := 0) dX9_looksAtPresent_3 rfl rfl (q := 4) rfl ?_
    refine z_get dX9_looksAtPresent_4 fX9_64 (wm _ _ _) rfl (q := 7) rfl ?_
    refine Z.eqst (st2 := [.int (nI n), .int (nI i)]) (congrArg (fun x => [Value.int x, Value.int (nI i)]) hR.1) ?_
    refine z_icmp_ge (tgt := 28) dX9_looksAtPresent_7 (by decide) (q := 10) rfl (fun h7 => ?_) (fun h7 => absurd (zge_t (by omega)) h7)
    exact z_vret dX9_looksAtPresent_28 rfl ⟨zle rfl, zle rfl⟩ ⟨rfl, f, rfl, fun j hj => hf j (by omega)⟩
  | succ m ih =>
    intro i f hi hf
    have h4 := rel_4 hR
    refine z_iload_n (i := 2) dX9_looksAtPresent_2 rfl rfl (q := 3) rfl ?_
    refine z_aload_n (i := 0) dX9_looksAtPresent_3 rfl rfl (q := 4) rfl ?_
    refine z_get dX9_looksAtPresent_4 fX9_64 (wm _ _ _) rfl (q := 7) rfl ?_
    refine Z.eqst (st2 := [.int (nI n), .int (nI i)]) (congrArg (fun x => [Value.int x, Value.int (nI i)]) hR.1) ?_
    refine z_icmp_ge (tgt := 28) dX9_looksAtPresent_7 (by decide) (q := 10) rfl (fun h7 => absurd h7 (zge_f (by omega) (by omega))) (fun h7 => ?_)
    refine z_aload_n (i := 0) dX9_looksAtPresent_10 rfl rfl (q := 11) rfl ?_
    refine z_get dX9_looksAtPresent_11 fX9_48 (wm _ _ _) rfl (q := 14) rfl ?_
    refine z_iload_n (i := 2) dX9_looksAtPresent_14 rfl rfl (q := 15) rfl ?_
    refine z_aload_n (i := 0) dX9_looksAtPresent_15 rfl rfl (q := 16) rfl ?_
    refine z_iload_n (i := 2) dX9_looksAtPresent_16 rfl rfl (q := 17) rfl ?_
    refine z_iload_n (i := 1) dX9_looksAtPresent_17 rfl rfl (q := 18) rfl ?_
    refine z_callVF (As := [_, _]) dX9_looksAtPresent_18 kX9_75 (c_X9_at (rel_arr hR (by decide) f) (by omega) ht) (wm _ _ _) rfl rfl (zle rfl) ⟨zle rfl, zle rfl⟩ ⟨zle rfl, zle rfl⟩ (q := 21) rfl ?_
    refine z_iast dX9_looksAtPresent_21 (wma_now _ _ _) (zin (by omega) (by decide)) (q := 22) rfl ?_
    refine Z.eqw (wms_now _ _ _ _) ?_
    rw [nI_clamp (by omega), yarr_yarr, yarr_f]
    refine z_iinc dX9_looksAtPresent_22 rfl rfl (zle rfl) rfl (q := 25) rfl ?_
    refine z_goto (tgt := 2) dX9_looksAtPresent_25 (by decide) ?_
    refine Z.eql (zl2 := [some (.ref 77), some (.int (nI t)), some (.int (nI (i + 1)))]) (by first | (rw [← nI_1 i]; done) | (rw [← nI_1 i]; rfl)) ?_
    exact ih (i + 1) _ (by omega) (ext_upd hf)
set_option maxRecDepth 100000 in
set_option maxHeartbeats 4000000 in
theorem c_X9_looksAtPresent {n nw t : Nat} (hR : rel X Y n nw) (ht : t < 2) : ZM G mX9_looksAtPresent 1 0 0 [.ref 77, .int (nI t)] (zw X1 Y O) (fun r w2 => r = .inl none ∧ ∃ f, w2 = zw X1 (yarr Y 12 f) O ∧ ∀ j, j < n → f j = X.2.1 (2 * t) j) := by
  refine ZM.go pX9 rfl rfl (zle rfl) (zl := [some (.ref 77), some (.int (nI t)), none]) rfl ?_
  refine z_iconst (v := 0) dX9_looksAtPresent_0 rfl (q := 1) rfl ?_
  refine z_istore_n (i := 2) dX9_looksAtPresent_1 rfl (zle rfl) rfl (q := 2) rfl ?_
  refine Z.eqw (w2 := zw X1 (yarr Y 12 (Y.1 12)) O) (by rw [yarr_self]) ?_
  exact z_X9_looks_2 hR ht n 0 _ (by omega) (fun j hj => absurd hj (by omega))
set_option maxRecDepth 100000 in
set_option maxHeartbeats 4000000 in
abbrev mhit (X : zX) (t : Nat) (D : Nat → Int32) (w : Nat) : Prop := X.2.1 10 w = 0 ∧ akd (X.2.1 6 w) = nI t ∧ feat (X.2.1 6 w) (D (wA X w)) (X.2.1 (2 * t + 1) (wA X w)) = feat (X.2.1 6 w) (D (wB X w)) (X.2.1 (2 * t + 1) (wB X w))
set_option maxRecDepth 100000 in
set_option maxHeartbeats 4000000 in
theorem z_X9_forceNow_4 {n nw t : Nat} {D : Nat → Int32} (hI : inv X n nw) (hR : rel X Y n nw) (ht : t < 2) (hD : ∀ k, k < n → Y.1 12 k = D k) : ∀ (m i : Nat) (a : Int32) (e4 : Option Value), i + m = nw → Z G mX9_forceNow (zrm 3 0 0) 0 0 4 [some (.ref 77), some (.int (nI t)), some (.int a), some (.int (nI i)), e4] [] (zw X1 Y O) (zEq (some (.int (rsumc (mhit X t D) (X.2.1 9) i m a))) (zw X1 Y O)) := by
  intro m
  induction m with
  | zero =>
    intro i a e4 hi
    have h8 := rel_8 hR
    refine z_iload_n (i := 3) dX9_forceNow_4 rfl rfl (q := 5) rfl ?_
    refine z_aload_n (i := 0) dX9_forceNow_5 rfl rfl (q := 6) rfl ?_
    refine z_get dX9_forceNow_6 fX9_132 (wm _ _ _) rfl (q := 9) rfl ?_
    rw [hR.2.1]
    refine z_icmp_ge (tgt := 95) dX9_forceNow_9 (by decide) (q := 12) rfl (fun h9 => ?_) (fun h9 => absurd (zge_t (by omega)) h9)
    refine z_iload_n (i := 2) dX9_forceNow_95 rfl rfl (q := 96) rfl ?_
    exact z_iret dX9_forceNow_96 rfl ⟨zle rfl, zle rfl⟩ ⟨rfl, rfl⟩
  | succ m ih =>
    intro i a e4 hi
    have h8 := rel_8 hR
    have h4 := rel_4 hR
    obtain ⟨hA, hAn, hB, hBn⟩ := inv_A hI (w := i) (by omega)
    refine z_iload_n (i := 3) dX9_forceNow_4 rfl rfl (q := 5) rfl ?_
    refine z_aload_n (i := 0) dX9_forceNow_5 rfl rfl (q := 6) rfl ?_
    refine z_get dX9_forceNow_6 fX9_132 (wm _ _ _) rfl (q := 9) rfl ?_
    rw [hR.2.1]
    refine z_icmp_ge (tgt := 95) dX9_forceNow_9 (by decide) (q := 12) rfl (fun h9 => absurd h9 (zge_f (by omega) (by omega))) (fun h9 => ?_)
    refine z_aload_n (i := 0) dX9_forceNow_12 rfl rfl (q := 13) rfl ?_
    refine z_get dX9_forceNow_13 fX9_36 (wm _ _ _) rfl (q := 16) rfl ?_
    refine z_iload_n (i := 3) dX9_forceNow_16 rfl rfl (q := 17) rfl ?_
    refine z_zald dX9_forceNow_17 (wma_isDropped _ _ _) (zin (by omega) (by decide)) (q := 18) rfl ?_
    rw [nI_clamp (by omega), (hR.2.2.2.2.1 i (by omega)).2.2.2.2]
    refine z_if_ne (tgt := 68) dX9_forceNow_18 (by decide) (q := 21) rfl (fun h18 => ?_) (fun h18 => ?_)
    · refine z_iconst (v := 0) dX9_forceNow_68 rfl (q := 69) rfl ?_
      refine z_istore dX9_forceNow_69 (zle rfl) rfl (q := 71) rfl ?_
      rw [rsumc_f (fun h9 => h18 h9.1)]
      refine z_iload_n (i := 2) dX9_forceNow_71 rfl rfl (q := 72) rfl ?_
      refine z_iload dX9_forceNow_72 rfl (q := 74) rfl ?_
      refine z_if_eq (tgt := 86) dX9_forceNow_74 (by decide) (q := 77) rfl (fun h74 => ?_) (fun h74 => absurd h74 (by decide))
      refine z_iconst (v := 0) dX9_forceNow_86 rfl (q := 87) rfl ?_
      refine z_iadd dX9_forceNow_87 (q := 88) rfl ?_
      refine z_istore_n (i := 2) dX9_forceNow_88 rfl (zle rfl) rfl (q := 89) rfl ?_
      refine z_iinc dX9_forceNow_89 rfl rfl (zle rfl) rfl (q := 92) rfl ?_
      refine z_goto (tgt := 4) dX9_forceNow_92 (by decide) ?_
      rw [Int32.add_zero]
      refine Z.eql (zl2 := [some (.ref 77), some (.int (nI t)), _, some (.int (nI (i + 1))), _]) (by first | (rw [← nI_1 i]; done) | (rw [← nI_1 i]; rfl)) ?_
      exact ih (i + 1) _ _ (by omega)
    · refine z_aload_n (i := 0) dX9_forceNow_21 rfl rfl (q := 22) rfl ?_
      refine z_get dX9_forceNow_22 fX9_23 (wm _ _ _) rfl (q := 25) rfl ?_
      refine z_iload_n (i := 3) dX9_forceNow_25 rfl rfl (q := 26) rfl ?_
      refine z_cald dX9_forceNow_26 (wma_kind _ _ _) (zin (by omega) (by decide)) (q := 27) rfl ?_
      rw [nI_clamp (by omega), (hR.2.2.2.2.1 i (by omega)).1]
      refine z_callSF (As := [_]) dX9_forceNow_27 kX9_129 (c_X9_axisOfKind ) rfl (zle rfl) ⟨zle rfl, zle rfl⟩ ⟨zle rfl, zle rfl⟩ (q := 30) rfl ?_
      refine z_iload_n (i := 1) dX9_forceNow_30 rfl rfl (q := 31) rfl ?_
      refine z_icmp_ne (tgt := 68) dX9_forceNow_31 (by decide) (q := 34) rfl (fun h31 => ?_) (fun h31 => ?_)
      · refine z_iconst (v := 0) dX9_forceNow_68 rfl (q := 69) rfl ?_
        refine z_istore dX9_forceNow_69 (zle rfl) rfl (q := 71) rfl ?_
        rw [rsumc_f (fun h9 => h31 h9.2.1)]
        refine z_iload_n (i := 2) dX9_forceNow_71 rfl rfl (q := 72) rfl ?_
        refine z_iload dX9_forceNow_72 rfl (q := 74) rfl ?_
        refine z_if_eq (tgt := 86) dX9_forceNow_74 (by decide) (q := 77) rfl (fun h74 => ?_) (fun h74 => absurd h74 (by decide))
        refine z_iconst (v := 0) dX9_forceNow_86 rfl (q := 87) rfl ?_
        refine z_iadd dX9_forceNow_87 (q := 88) rfl ?_
        refine z_istore_n (i := 2) dX9_forceNow_88 rfl (zle rfl) rfl (q := 89) rfl ?_
        refine z_iinc dX9_forceNow_89 rfl rfl (zle rfl) rfl (q := 92) rfl ?_
        refine z_goto (tgt := 4) dX9_forceNow_92 (by decide) ?_
        rw [Int32.add_zero]
        refine Z.eql (zl2 := [some (.ref 77), some (.int (nI t)), _, some (.int (nI (i + 1))), _]) (by first | (rw [← nI_1 i]; done) | (rw [← nI_1 i]; rfl)) ?_
        exact ih (i + 1) _ _ (by omega)
      · refine z_aload_n (i := 0) dX9_forceNow_34 rfl rfl (q := 35) rfl ?_
        refine z_iload_n (i := 3) dX9_forceNow_35 rfl rfl (q := 36) rfl ?_
        refine z_aload_n (i := 0) dX9_forceNow_36 rfl rfl (q := 37) rfl ?_
        refine z_get dX9_forceNow_37 fX9_48 (wm _ _ _) rfl (q := 40) rfl ?_
        refine z_aload_n (i := 0) dX9_forceNow_40 rfl rfl (q := 41) rfl ?_
        refine z_get dX9_forceNow_41 fX9_27 (wm _ _ _) rfl (q := 44) rfl ?_
        refine z_iload_n (i := 3) dX9_forceNow_44 rfl rfl (q := 45) rfl ?_
        refine z_iald dX9_forceNow_45 (wma_one _ _ _) (zin (by omega) (by decide)) (q := 46) rfl ?_
        rw [nI_clamp (by omega), (hR.2.2.2.2.1 i (by omega)).2.1, hA]
        refine z_iald dX9_forceNow_46 (wma_now _ _ _) (zin (by omega) (by decide)) (q := 47) rfl ?_
        rw [nI_clamp (by omega), hD _ hAn]
        refine z_aload_n (i := 0) dX9_forceNow_47 rfl rfl (q := 48) rfl ?_
        refine z_get dX9_forceNow_48 fX9_48 (wm _ _ _) rfl (q := 51) rfl ?_
        refine z_aload_n (i := 0) dX9_forceNow_51 rfl rfl (q := 52) rfl ?_
        refine z_get dX9_forceNow_52 fX9_30 (wm _ _ _) rfl (q := 55) rfl ?_
        refine z_iload_n (i := 3) dX9_forceNow_55 rfl rfl (q := 56) rfl ?_
        refine z_iald dX9_forceNow_56 (wma_two _ _ _) (zin (by omega) (by decide)) (q := 57) rfl ?_
        rw [nI_clamp (by omega), (hR.2.2.2.2.1 i (by omega)).2.2.1, hB]
        refine z_iald dX9_forceNow_57 (wma_now _ _ _) (zin (by omega) (by decide)) (q := 58) rfl ?_
        rw [nI_clamp (by omega), hD _ hBn]
        refine z_callVF (As := [_, _, _]) dX9_forceNow_58 kX9_142 (c_X9_isMetWith hI hR (w := i) (by omega) ht h31) (wm _ _ _) rfl rfl (zle rfl) ⟨zle rfl, zle rfl⟩ ⟨zle rfl, zle rfl⟩ (q := 61) rfl ?_
        refine z_if_eq (tgt := 68) dX9_forceNow_61 (by decide) (q := 64) rfl (fun h61 => ?_) (fun h61 => ?_)
        · replace h61 := zb_0.mp h61
          refine z_iconst (v := 0) dX9_forceNow_68 rfl (q := 69) rfl ?_
          refine z_istore dX9_forceNow_69 (zle rfl) rfl (q := 71) rfl ?_
          rw [rsumc_f (fun h9 => h61 h9.2.2)]
          refine z_iload_n (i := 2) dX9_forceNow_71 rfl rfl (q := 72) rfl ?_
          refine z_iload dX9_forceNow_72 rfl (q := 74) rfl ?_
          refine z_if_eq (tgt := 86) dX9_forceNow_74 (by decide) (q := 77) rfl (fun h74 => ?_) (fun h74 => absurd h74 (by decide))
          refine z_iconst (v := 0) dX9_forceNow_86 rfl (q := 87) rfl ?_
          refine z_iadd dX9_forceNow_87 (q := 88) rfl ?_
          refine z_istore_n (i := 2) dX9_forceNow_88 rfl (zle rfl) rfl (q := 89) rfl ?_
          refine z_iinc dX9_forceNow_89 rfl rfl (zle rfl) rfl (q := 92) rfl ?_
          refine z_goto (tgt := 4) dX9_forceNow_92 (by decide) ?_
          rw [Int32.add_zero]
          refine Z.eql (zl2 := [some (.ref 77), some (.int (nI t)), _, some (.int (nI (i + 1))), _]) (by first | (rw [← nI_1 i]; done) | (rw [← nI_1 i]; rfl)) ?_
          exact ih (i + 1) _ _ (by omega)
        · replace h61 := zb_1.mp h61
          refine z_iconst (v := 1) dX9_forceNow_64 rfl (q := 65) rfl ?_
          refine z_goto (tgt := 69) dX9_forceNow_65 (by decide) ?_
          refine z_istore dX9_forceNow_69 (zle rfl) rfl (q := 71) rfl ?_
          rw [rsumc_t ⟨h18, h31, h61⟩]
          refine z_iload_n (i := 2) dX9_forceNow_71 rfl rfl (q := 72) rfl ?_
          refine z_iload dX9_forceNow_72 rfl (q := 74) rfl ?_
          refine z_if_eq (tgt := 86) dX9_forceNow_74 (by decide) (q := 77) rfl (fun h74 => absurd h74 (by decide)) (fun h74 => ?_)
          refine z_aload_n (i := 0) dX9_forceNow_77 rfl rfl (q := 78) rfl ?_
          refine z_get dX9_forceNow_78 fX9_33 (wm _ _ _) rfl (q := 81) rfl ?_
          refine z_iload_n (i := 3) dX9_forceNow_81 rfl rfl (q := 82) rfl ?_
          refine z_iald dX9_forceNow_82 (wma_force _ _ _) (zin (by omega) (by decide)) (q := 83) rfl ?_
          rw [nI_clamp (by omega), (hR.2.2.2.2.1 i (by omega)).2.2.2.1]
          refine z_goto (tgt := 87) dX9_forceNow_83 (by decide) ?_
          refine z_iadd dX9_forceNow_87 (q := 88) rfl ?_
          refine z_istore_n (i := 2) dX9_forceNow_88 rfl (zle rfl) rfl (q := 89) rfl ?_
          refine z_iinc dX9_forceNow_89 rfl rfl (zle rfl) rfl (q := 92) rfl ?_
          refine z_goto (tgt := 4) dX9_forceNow_92 (by decide) ?_
          refine Z.eql (zl2 := [some (.ref 77), some (.int (nI t)), _, some (.int (nI (i + 1))), _]) (by first | (rw [← nI_1 i]; done) | (rw [← nI_1 i]; rfl)) ?_
          exact ih (i + 1) _ _ (by omega)
set_option maxRecDepth 100000 in
set_option maxHeartbeats 4000000 in
theorem c_X9_forceNow {n nw t : Nat} {D : Nat → Int32} (hI : inv X n nw) (hR : rel X Y n nw) (ht : t < 2) (hD : ∀ k, k < n → Y.1 12 k = D k) : ZM G mX9_forceNow 3 0 0 [.ref 77, .int (nI t)] (zw X1 Y O) (zEq (some (.int (rsumc (mhit X t D) (X.2.1 9) 0 nw 0))) (zw X1 Y O)) := by
  refine ZM.go pX9 rfl rfl (zle rfl) (zl := [some (.ref 77), some (.int (nI t)), none, none, none]) rfl ?_
  refine z_iconst (v := 0) dX9_forceNow_0 rfl (q := 1) rfl ?_
  refine z_istore_n (i := 2) dX9_forceNow_1 rfl (zle rfl) rfl (q := 2) rfl ?_
  refine z_iconst (v := 0) dX9_forceNow_2 rfl (q := 3) rfl ?_
  refine z_istore_n (i := 3) dX9_forceNow_3 rfl (zle rfl) rfl (q := 4) rfl ?_
  exact z_X9_forceNow_4 hI hR ht hD nw 0 0 none (by omega)
set_option maxRecDepth 100000 in
set_option maxHeartbeats 4000000 in
theorem c_X9_strength {n nw t : Nat} (hI : inv X n nw) (hR : rel X Y n nw) (ht : t < 2) : ZM G mX9_strength 4 0 0 [.ref 77, .int (zch t)] (zw X1 Y O) (fun r w2 => ∃ f, r = .inl (some (.int (rsumc (mhit X t (X.2.1 (2 * t))) (X.2.1 9) 0 nw 0))) ∧ w2 = zw X1 (yarr (yint Y 0 0) 12 f) O) := by
  have h4 := rel_4 hR
  have hR0 : rel X (yint Y 0 0) n nw := rel_thr hR 0
  refine ZM.go pX9 rfl rfl (zle rfl) (zl := [some (.ref 77), some (.int (zch t))]) rfl ?_
  refine z_aload_n (i := 0) dX9_strength_0 rfl rfl (q := 1) rfl ?_
  refine z_iconst (v := 0) dX9_strength_1 rfl (q := 2) rfl ?_
  refine z_put dX9_strength_2 fX9_60 (wm _ _ _) (zle rfl) (zfit_int _) (q := 5) rfl ?_
  refine Z.eqw (wmi_thrown _ _ _ _) ?_
  refine z_aload_n (i := 0) dX9_strength_5 rfl rfl (q := 6) rfl ?_
  refine z_iload_n (i := 1) dX9_strength_6 rfl rfl (q := 7) rfl ?_
  refine z_callSF (As := [_]) dX9_strength_7 kX9_101 (c_X9_axisOf ht) rfl (zle rfl) ⟨zle rfl, zle rfl⟩ ⟨zle rfl, zle rfl⟩ (q := 10) rfl ?_
  refine z_iconst (v := (-1)) dX9_strength_10 rfl (q := 11) rfl ?_
  refine z_icmp_ne (tgt := 18) dX9_strength_11 (by decide) (q := 14) rfl (fun h11 => ?_) (fun h11 => absurd h11 (nI_m1 (by omega)))
  refine z_iconst (v := 0) dX9_strength_18 rfl (q := 19) rfl ?_
  refine z_iconst (v := 1) dX9_strength_19 rfl (q := 20) rfl ?_
  refine z_callVF (As := [_, _]) dX9_strength_20 kX9_89 (c_X9_fails_f rfl) (wm _ _ _) rfl rfl (zle rfl) ⟨zle rfl, zle rfl⟩ ⟨zle rfl, zle rfl⟩ (q := 23) rfl ?_
  refine z_if_eq (tgt := 28) dX9_strength_23 (by decide) (q := 26) rfl (fun h23 => ?_) (fun h23 => absurd h23 (by decide))
  refine z_aload_n (i := 0) dX9_strength_28 rfl rfl (q := 29) rfl ?_
  refine z_iload_n (i := 1) dX9_strength_29 rfl rfl (q := 30) rfl ?_
  refine z_callSF (As := [_]) dX9_strength_30 kX9_101 (c_X9_axisOf ht) rfl (zle rfl) ⟨zle rfl, zle rfl⟩ ⟨zle rfl, zle rfl⟩ (q := 33) rfl ?_
  refine z_callV (As := [_]) dX9_strength_33 kX9_145 (c_X9_looksAtPresent hR0 ht) (wm _ _ _) rfl rfl (zle rfl) ⟨zle rfl, zle rfl⟩ ⟨zle rfl, zle rfl⟩ (q := 36) rfl (fun rv w2 hw2 => ?_) (fun E w2 h9 => by cases h9.1)
  obtain ⟨h9, f, rfl, hf⟩ := hw2
  cases h9
  refine z_aload_n (i := 0) dX9_strength_36 rfl rfl (q := 37) rfl ?_
  refine z_iload_n (i := 1) dX9_strength_37 rfl rfl (q := 38) rfl ?_
  refine z_callSF (As := [_]) dX9_strength_38 kX9_101 (c_X9_axisOf ht) rfl (zle rfl) ⟨zle rfl, zle rfl⟩ ⟨zle rfl, zle rfl⟩ (q := 41) rfl ?_
  refine z_callVF (As := [_]) dX9_strength_41 kX9_149 (c_X9_forceNow hI (rel_arr hR0 (by decide) f) ht hf) (wm _ _ _) rfl rfl (zle rfl) ⟨zle rfl, zle rfl⟩ ⟨zle rfl, zle rfl⟩ (q := 44) rfl ?_
  exact z_iret dX9_strength_44 rfl ⟨zle rfl, zle rfl⟩ ⟨f, rfl, rfl⟩
set_option maxRecDepth 100000 in
set_option maxHeartbeats 4000000 in
theorem c_X9_strength_ax {n nw : Nat} {c : Int32} (hR : rel X Y n nw) (h1 : ¬ c = 120) (h2 : ¬ c = 121) : ZM G mX9_strength 4 0 0 [.ref 77, .int c] (zw X1 Y O) (mR X1 O (0) (yth Y 1)) := by
  have h4 := rel_4 hR
  have hR0 : rel X (yint Y 0 0) n nw := rel_thr hR 0
  refine ZM.go pX9 rfl rfl (zle rfl) (zl := [some (.ref 77), some (.int c)]) rfl ?_
  refine z_aload_n (i := 0) dX9_strength_0 rfl rfl (q := 1) rfl ?_
  refine z_iconst (v := 0) dX9_strength_1 rfl (q := 2) rfl ?_
  refine z_put dX9_strength_2 fX9_60 (wm _ _ _) (zle rfl) (zfit_int _) (q := 5) rfl ?_
  refine Z.eqw (wmi_thrown _ _ _ _) ?_
  refine z_aload_n (i := 0) dX9_strength_5 rfl rfl (q := 6) rfl ?_
  refine z_iload_n (i := 1) dX9_strength_6 rfl rfl (q := 7) rfl ?_
  refine z_callSF (As := [_]) dX9_strength_7 kX9_101 (c_X9_axisOf_no h1 h2) rfl (zle rfl) ⟨zle rfl, zle rfl⟩ ⟨zle rfl, zle rfl⟩ (q := 10) rfl ?_
  refine z_iconst (v := (-1)) dX9_strength_10 rfl (q := 11) rfl ?_
  refine z_icmp_ne (tgt := 18) dX9_strength_11 (by decide) (q := 14) rfl (fun h11 => absurd h11 (by decide)) (fun h11 => ?_)
  refine z_iconst (v := 1) dX9_strength_14 rfl (q := 15) rfl ?_
  refine z_goto (tgt := 19) dX9_strength_15 (by decide) ?_
  refine z_iconst (v := 1) dX9_strength_19 rfl (q := 20) rfl ?_
  refine z_callVF (As := [_, _]) dX9_strength_20 kX9_89 (c_X9_fails_t rfl (by decide)) (wm _ _ _) rfl rfl (zle rfl) ⟨zle rfl, zle rfl⟩ ⟨zle rfl, zle rfl⟩ (q := 23) rfl ?_
  refine z_if_eq (tgt := 28) dX9_strength_23 (by decide) (q := 26) rfl (fun h23 => absurd h23 (by decide)) (fun h23 => ?_)
  refine z_iconst (v := 0) dX9_strength_26 rfl (q := 27) rfl ?_
  exact z_iret dX9_strength_27 rfl ⟨zle rfl, zle rfl⟩ ⟨rfl, rfl⟩
set_option maxRecDepth 100000 in
set_option maxHeartbeats 4000000 in
theorem z_X9_dropWish_31 {n nw : Nat} {e1 : Int32} (hR : rel X Y n nw) : ∀ (m i : Nat) (a : Int32), i + m = nw → Z G mX9_dropWish (zrm 2 0 0) 0 0 31 [some (.ref 77), some (.int e1), some (.int a), some (.int (nI i))] [] (zw X1 Y O) (zEq (some (.int (rcnt (fun k => X.2.1 10 k = 0) i m a))) (zw X1 Y O)) := by
  intro m
  induction m with
  | zero =>
    intro i a hi
    have h8 := rel_8 hR
    refine z_iload_n (i := 3) dX9_dropWish_31 rfl rfl (q := 32) rfl ?_
    refine z_aload_n (i := 0) dX9_dropWish_32 rfl rfl (q := 33) rfl ?_
    refine z_get dX9_dropWish_33 fX9_132 (wm _ _ _) rfl (q := 36) rfl ?_
    rw [hR.2.1]
    refine z_icmp_ge (tgt := 62) dX9_dropWish_36 (by decide) (q := 39) rfl (fun h36 => ?_) (fun h36 => absurd (zge_t (by omega)) h36)
    refine z_iload_n (i := 2) dX9_dropWish_62 rfl rfl (q := 63) rfl ?_
    exact z_iret dX9_dropWish_63 rfl ⟨zle rfl, zle rfl⟩ ⟨rfl, rfl⟩
  | succ m ih =>
    intro i a hi
    have h8 := rel_8 hR
    refine z_iload_n (i := 3) dX9_dropWish_31 rfl rfl (q := 32) rfl ?_
    refine z_aload_n (i := 0) dX9_dropWish_32 rfl rfl (q := 33) rfl ?_
    refine z_get dX9_dropWish_33 fX9_132 (wm _ _ _) rfl (q := 36) rfl ?_
    rw [hR.2.1]
    refine z_icmp_ge (tgt := 62) dX9_dropWish_36 (by decide) (q := 39) rfl (fun h36 => absurd h36 (zge_f (by omega) (by omega))) (fun h36 => ?_)
    refine z_iload_n (i := 2) dX9_dropWish_39 rfl rfl (q := 40) rfl ?_
    refine z_aload_n (i := 0) dX9_dropWish_40 rfl rfl (q := 41) rfl ?_
    refine z_get dX9_dropWish_41 fX9_36 (wm _ _ _) rfl (q := 44) rfl ?_
    refine z_iload_n (i := 3) dX9_dropWish_44 rfl rfl (q := 45) rfl ?_
    refine z_zald dX9_dropWish_45 (wma_isDropped _ _ _) (zin (by omega) (by decide)) (q := 46) rfl ?_
    rw [nI_clamp (by omega), (hR.2.2.2.2.1 i (by omega)).2.2.2.2]
    refine z_if_eq (tgt := 53) dX9_dropWish_46 (by decide) (q := 49) rfl (fun h46 => ?_) (fun h46 => ?_)
    · refine z_iconst (v := 1) dX9_dropWish_53 rfl (q := 54) rfl ?_
      refine z_iadd dX9_dropWish_54 (q := 55) rfl ?_
      refine z_istore_n (i := 2) dX9_dropWish_55 rfl (zle rfl) rfl (q := 56) rfl ?_
      refine z_iinc dX9_dropWish_56 rfl rfl (zle rfl) rfl (q := 59) rfl ?_
      refine z_goto (tgt := 31) dX9_dropWish_59 (by decide) ?_
      rw [rcnt_t h46]
      refine Z.eql (zl2 := [some (.ref 77), some (.int e1), _, some (.int (nI (i + 1)))]) (by first | (rw [← nI_1 i]; done) | (rw [← nI_1 i]; rfl)) ?_
      exact ih (i + 1) _ (by omega)
    · refine z_iconst (v := 0) dX9_dropWish_49 rfl (q := 50) rfl ?_
      refine z_goto (tgt := 54) dX9_dropWish_50 (by decide) ?_
      refine z_iadd dX9_dropWish_54 (q := 55) rfl ?_
      refine z_istore_n (i := 2) dX9_dropWish_55 rfl (zle rfl) rfl (q := 56) rfl ?_
      refine z_iinc dX9_dropWish_56 rfl rfl (zle rfl) rfl (q := 59) rfl ?_
      refine z_goto (tgt := 31) dX9_dropWish_59 (by decide) ?_
      rw [rcnt_f h46, Int32.add_zero]
      refine Z.eql (zl2 := [some (.ref 77), some (.int e1), _, some (.int (nI (i + 1)))]) (by first | (rw [← nI_1 i]; done) | (rw [← nI_1 i]; rfl)) ?_
      exact ih (i + 1) _ (by omega)
set_option maxRecDepth 100000 in
set_option maxHeartbeats 4000000 in
theorem rel_drop {n nw k : Nat} (hR : rel X Y n nw) (hk : k < nw) (v c : Int32) : rel (xrow X 10 (upd (X.2.1 10) k v) c) (yarr (yint Y 0 0) 8 (upd (Y.1 8) k v)) n nw := by
  obtain ⟨h1, h2, h3, h4, h5, h6, h7, h8, h9⟩ := hR
  refine ⟨h1, h2, h3, h4, fun j hj => ?_, fun j hj hj4 => ?_, h7, h8, h9⟩
  · have h := h5 j hj
    refine ⟨h.1, h.2.1, h.2.2.1, h.2.2.2.1, ?_⟩
    show upd (Y.1 8) k v j = upd (X.2.1 10) k v j
    by_cases e : j = k
    · rw [e, pk_us, pk_us]
    · rw [pk_un e, pk_un e]; exact h.2.2.2.2
  · show upd (Y.1 8) k v j = 0
    rw [pk_un (by omega)]; exact h6 j hj hj4
set_option maxRecDepth 100000 in
set_option maxHeartbeats 4000000 in
theorem c_X9_dropWish {n nw k : Nat} (hR : rel X Y n nw) (hk : k < nw) (h : X.2.1 10 k = 0) : ZM G mX9_dropWish 2 0 0 [.ref 77, .int (nI k)] (zw X1 Y O) (mR X1 O (rcnt (fun j => upd (X.2.1 10) k 1 j = 0) 0 nw 0) (yarr (yint Y 0 0) 8 (upd (Y.1 8) k 1))) := by
  have h4 := rel_4 hR
  have hR0 : rel X (yint Y 0 0) n nw := rel_thr hR 0
  have h8 := rel_8 hR
  refine ZM.go pX9 rfl rfl (zle rfl) (zl := [some (.ref 77), some (.int (nI k)), none, none]) rfl ?_
  refine z_aload_n (i := 0) dX9_dropWish_0 rfl rfl (q := 1) rfl ?_
  refine z_iconst (v := 0) dX9_dropWish_1 rfl (q := 2) rfl ?_
  refine z_put dX9_dropWish_2 fX9_60 (wm _ _ _) (zle rfl) (zfit_int _) (q := 5) rfl ?_
  refine Z.eqw (wmi_thrown _ _ _ _) ?_
  refine z_aload_n (i := 0) dX9_dropWish_5 rfl rfl (q := 6) rfl ?_
  refine z_aload_n (i := 0) dX9_dropWish_6 rfl rfl (q := 7) rfl ?_
  refine z_iload_n (i := 1) dX9_dropWish_7 rfl rfl (q := 8) rfl ?_
  refine z_callVF (As := [_]) dX9_dropWish_8 kX9_135 (c_X9_noWish_in hR0 hk h) (wm _ _ _) rfl rfl (zle rfl) ⟨zle rfl, zle rfl⟩ ⟨zle rfl, zle rfl⟩ (q := 11) rfl ?_
  refine z_iconst (v := 1) dX9_dropWish_11 rfl (q := 12) rfl ?_
  refine z_callVF (As := [_, _]) dX9_dropWish_12 kX9_89 (c_X9_fails_f rfl) (wm _ _ _) rfl rfl (zle rfl) ⟨zle rfl, zle rfl⟩ ⟨zle rfl, zle rfl⟩ (q := 15) rfl ?_
  refine z_if_eq (tgt := 20) dX9_dropWish_15 (by decide) (q := 18) rfl (fun h15 => ?_) (fun h15 => absurd h15 (by decide))
  refine z_aload_n (i := 0) dX9_dropWish_20 rfl rfl (q := 21) rfl ?_
  refine z_get dX9_dropWish_21 fX9_36 (wm _ _ _) rfl (q := 24) rfl ?_
  refine z_iload_n (i := 1) dX9_dropWish_24 rfl rfl (q := 25) rfl ?_
  refine z_iconst (v := 1) dX9_dropWish_25 rfl (q := 26) rfl ?_
  refine z_zast dX9_dropWish_26 (wma_isDropped _ _ _) (zin (by omega) (by decide)) (q := 27) rfl ?_
  refine Z.eqw (wms_isDropped _ _ _ _) ?_
  rw [nI_clamp (by omega), show vp_nar .boolean 1 = 1 by decide]
  refine z_iconst (v := 0) dX9_dropWish_27 rfl (q := 28) rfl ?_
  refine z_istore_n (i := 2) dX9_dropWish_28 rfl (zle rfl) rfl (q := 29) rfl ?_
  refine z_iconst (v := 0) dX9_dropWish_29 rfl (q := 30) rfl ?_
  refine z_istore_n (i := 3) dX9_dropWish_30 rfl (zle rfl) rfl (q := 31) rfl ?_
  exact z_X9_dropWish_31 (rel_drop hR hk 1 0) nw 0 0 (by omega)
end
