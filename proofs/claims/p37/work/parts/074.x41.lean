section
variable {G : zG} {X : zX} {Y : zY} {O : zO}
set_option maxRecDepth 100000 in
set_option maxHeartbeats 4000000 in
theorem inv_keep {X X2 : zX} {n nw : Nat} (hk : keep0 X X2) (h : inv X n nw) : inv X2 n nw := by
  refine ⟨h.1, h.2.1, fun r hr => (hk.1 r (by omega)).1.trans (h.2.2.1 r hr), fun r h1 h2 => (hk.1 r h2).1.trans (h.2.2.2.1 r h1 h2), ?_⟩
  have h5 := h.2.2.2.2
  rw [(hk.1 0 (by decide)).2, (hk.1 1 (by decide)).2, (hk.1 2 (by decide)).2, (hk.1 3 (by decide)).2, (hk.1 4 (by decide)).2, (hk.1 5 (by decide)).2, (hk.1 6 (by decide)).2, (hk.1 7 (by decide)).2, (hk.1 8 (by decide)).2, (hk.1 9 (by decide)).2, (hk.1 10 (by decide)).2]
  exact h5
set_option maxRecDepth 100000 in
set_option maxHeartbeats 4000000 in
theorem keep0_trans {X X2 X3 : zX} (h : keep0 X X2) (h2 : keep0 X2 X3) : keep0 X X3 :=
  ⟨fun r hr => ⟨(h2.1 r hr).1.trans (h.1 r hr).1, (h2.1 r hr).2.trans (h.1 r hr).2⟩, h2.2.trans h.2⟩
set_option maxRecDepth 100000 in
set_option maxHeartbeats 4000000 in
theorem evB_cost {X X2 : zX} {b : eb} (h : evB X b) (h2 : evB X2 b) : X.2.2.1 3 = X2.2.2.1 3 := by
  rcases b with _ | ⟨c, g, s⟩
  · exact Eq.trans h (Eq.symm h2)
  · exact h.1.trans h2.1.symm
set_option maxRecDepth 100000 in
set_option maxHeartbeats 4000000 in
theorem c_X8_bothWaysAgreeAlong_0 {n nw : Nat} (hI : inv X n nw) : ZM G mX8_bothWaysAgreeAlong 12 0 0 [.ref 0, .int (zch 0)] (zw X Y O) (fun r w2 => ∃ X2, r = .inl (some (.int 1)) ∧ w2 = zw X2 Y O ∧ keep0 X X2) := by
  refine ZM.go pX8 rfl rfl (zle rfl) (zl := [some (.ref 0), some (.int (zch 0)), none]) rfl ?_
  refine z_aload_n (i := 0) dX8_bothWaysAgreeAlong_0 rfl rfl (q := 1) rfl ?_
  refine z_iload_n (i := 1) dX8_bothWaysAgreeAlong_1 rfl rfl (q := 2) rfl ?_
  refine z_callV (As := [_]) dX8_bothWaysAgreeAlong_2 kX8_226 (c_X8_loadTidySearch_0 hI) (wo_x _ _ _) rfl rfl (zle rfl) ⟨zle rfl, zle rfl⟩ ⟨zle rfl, zle rfl⟩ (q := 5) rfl (fun rv w2 hw2 => ?_) (fun E w2 h9 => by cases h9.1)
  obtain ⟨h9, X2, T, rfl, hk, hT, hS⟩ := hw2
  cases h9
  refine z_aload_n (i := 0) dX8_bothWaysAgreeAlong_5 rfl rfl (q := 6) rfl ?_
  refine z_get dX8_bothWaysAgreeAlong_6 fX8_41 (wo_x _ _ _) rfl (q := 9) rfl ?_
  refine z_callV (As := []) dX8_bothWaysAgreeAlong_9 kX8_329 (c_X6_searchTidiest hT) (wo_tidySearch _ _ _) rfl rfl (zle rfl) ⟨zle rfl, zle rfl⟩ ⟨zle rfl, zle rfl⟩ (q := 12) rfl (fun rv w2 hw2 => ?_) (fun E w2 h9 => by cases h9.1)
  obtain ⟨h9, X3, B, rfl, hk2, hB, hr⟩ := hw2
  cases h9
  refine z_aload_n (i := 0) dX8_bothWaysAgreeAlong_12 rfl rfl (q := 13) rfl ?_
  refine z_get dX8_bothWaysAgreeAlong_13 fX8_41 (wo_x _ _ _) rfl (q := 16) rfl ?_
  refine z_callVF (As := []) dX8_bothWaysAgreeAlong_16 kX8_223 (c_X6_foundStrength) (wo_tidySearch _ _ _) rfl rfl (zle rfl) ⟨zle rfl, zle rfl⟩ ⟨zle rfl, zle rfl⟩ (q := 19) rfl ?_
  refine z_aload_n (i := 0) dX8_bothWaysAgreeAlong_19 rfl rfl (q := 20) rfl ?_
  refine z_get dX8_bothWaysAgreeAlong_20 fX8_41 (wo_x _ _ _) rfl (q := 23) rfl ?_
  refine z_callV (As := []) dX8_bothWaysAgreeAlong_23 kX8_229 (c_X6_greatestStrengthOfAll (tsK_ks hk2 hT) (tsS_pos hI (t := 0) (by decide) hS)) (wo_tidySearch _ _ _) rfl rfl (zle rfl) ⟨zle rfl, zle rfl⟩ ⟨zle rfl, zle rfl⟩ (q := 26) rfl (fun rv w2 hw2 => ?_) (fun E w2 h9 => by obtain ⟨_, _, h9, _⟩ := h9; cases h9)
  obtain ⟨X4, g, h9, rfl, hk3, hg⟩ := hw2
  cases h9
  have hK := keep0_ks (keep0_ks (keep0_kp hk) hk2) hk3
  have hI4 := inv_keep hK hI
  refine z_icmp_eq (tgt := 31) dX8_bothWaysAgreeAlong_26 (by decide) (q := 29) rfl (fun h26 => ?_) (fun h26 => absurd (hB.1.trans (congrArg nI (best_all hI (t := 0) (by decide) hT hS hr hg))) h26)
  refine z_aload_n (i := 0) dX8_bothWaysAgreeAlong_31 rfl rfl (q := 32) rfl ?_
  refine z_get dX8_bothWaysAgreeAlong_32 fX8_48 (wo_x _ _ _) rfl (q := 35) rfl ?_
  refine z_aload_n (i := 0) dX8_bothWaysAgreeAlong_35 rfl rfl (q := 36) rfl ?_
  refine z_iload_n (i := 1) dX8_bothWaysAgreeAlong_36 rfl rfl (q := 37) rfl ?_
  refine z_callVF (As := [_]) dX8_bothWaysAgreeAlong_37 kX8_116 (c_X8_axisNamed (t := 0) (by decide)) (wo_x _ _ _) rfl rfl (zle rfl) ⟨zle rfl, zle rfl⟩ ⟨zle rfl, zle rfl⟩ (q := 40) rfl ?_
  refine z_aload_n (i := 0) dX8_bothWaysAgreeAlong_40 rfl rfl (q := 41) rfl ?_
  refine z_get dX8_bothWaysAgreeAlong_41 fX8_24 (wo_x _ _ _) rfl (q := 44) rfl ?_
  refine z_callV (As := [_, _]) dX8_bothWaysAgreeAlong_44 kX8_238 (c_X2_load_0 (X := X4) (hI4.2.2.1 (2 * 0) (by decide)) hI4.1 (fun j hj => inv_axis hI4 (t := 0) (by decide) hj)) (wo_evenSearch _ _ _) rfl rfl (zle rfl) ⟨zle rfl, zle rfl⟩ ⟨zle rfl, zle rfl⟩ (q := 47) rfl (fun rv w2 hw2 => ?_) (fun E w2 h9 => by cases h9.1)
  obtain ⟨h9, X5, o, rfl, hk5, hev, ho, hf⟩ := hw2
  cases h9
  obtain ⟨hE, hF⟩ := evN_of (t := 0) hI4 (by decide) hev ho hf
  refine z_aload_n (i := 0) dX8_bothWaysAgreeAlong_47 rfl rfl (q := 48) rfl ?_
  refine z_get dX8_bothWaysAgreeAlong_48 fX8_48 (wo_x _ _ _) rfl (q := 51) rfl ?_
  refine z_callV (As := []) dX8_bothWaysAgreeAlong_51 kX8_242 (c_X2_searchBestStarts hE hF) (wo_evenSearch _ _ _) rfl rfl (zle rfl) ⟨zle rfl, zle rfl⟩ ⟨zle rfl, zle rfl⟩ (q := 54) rfl (fun rv w2 hw2 => ?_) (fun E w2 h9 => by cases h9.1)
  obtain ⟨h9, X6, b, rfl, hk6, hb, hr6⟩ := hw2
  cases h9
  refine z_aload_n (i := 0) dX8_bothWaysAgreeAlong_54 rfl rfl (q := 55) rfl ?_
  refine z_get dX8_bothWaysAgreeAlong_55 fX8_48 (wo_x _ _ _) rfl (q := 58) rfl ?_
  refine z_callVF (As := []) dX8_bothWaysAgreeAlong_58 kX8_248 (c_X2_foundCost) (wo_evenSearch _ _ _) rfl rfl (zle rfl) ⟨zle rfl, zle rfl⟩ ⟨zle rfl, zle rfl⟩ (q := 61) rfl ?_
  refine z_istore_n (i := 2) dX8_bothWaysAgreeAlong_61 rfl (zle rfl) rfl (q := 62) rfl ?_
  refine z_aload_n (i := 0) dX8_bothWaysAgreeAlong_62 rfl rfl (q := 63) rfl ?_
  refine z_get dX8_bothWaysAgreeAlong_63 fX8_48 (wo_x _ _ _) rfl (q := 66) rfl ?_
  refine z_callV (As := []) dX8_bothWaysAgreeAlong_66 kX8_249 (c_X2_searchAll (evN_k3 hk6 hE) hF) (wo_evenSearch _ _ _) rfl rfl (zle rfl) ⟨zle rfl, zle rfl⟩ ⟨zle rfl, zle rfl⟩ (q := 69) rfl (fun rv w2 hw2 => ?_) (fun E w2 h9 => by cases h9.1)
  obtain ⟨h9, X7, b7, rfl, hk7, hb7, hr7⟩ := hw2
  cases h9
  have hbb := eres_same hr6 hr7
  subst hbb
  refine z_iload_n (i := 2) dX8_bothWaysAgreeAlong_69 rfl rfl (q := 70) rfl ?_
  refine z_aload_n (i := 0) dX8_bothWaysAgreeAlong_70 rfl rfl (q := 71) rfl ?_
  refine z_get dX8_bothWaysAgreeAlong_71 fX8_48 (wo_x _ _ _) rfl (q := 74) rfl ?_
  refine z_callVF (As := []) dX8_bothWaysAgreeAlong_74 kX8_248 (c_X2_foundCost) (wo_evenSearch _ _ _) rfl rfl (zle rfl) ⟨zle rfl, zle rfl⟩ ⟨zle rfl, zle rfl⟩ (q := 77) rfl ?_
  refine z_icmp_ne (tgt := 84) dX8_bothWaysAgreeAlong_77 (by decide) (q := 80) rfl (fun h77 => absurd (evB_cost hb hb7) h77) (fun h77 => ?_)
  refine z_iconst (v := 1) dX8_bothWaysAgreeAlong_80 rfl (q := 81) rfl ?_
  refine z_goto (tgt := 85) dX8_bothWaysAgreeAlong_81 (by decide) ?_
  exact z_zret dX8_bothWaysAgreeAlong_85 rfl rfl ⟨zle rfl, zle rfl⟩ ⟨X7, rfl, rfl, keep0_trans hK (ke_0 (ke_k3 (ke_k3 hk5 hk6) hk7))⟩
set_option maxRecDepth 100000 in
set_option maxHeartbeats 4000000 in
theorem c_X8_bothWaysAgreeAlong_1 {n nw : Nat} (hI : inv X n nw) : ZM G mX8_bothWaysAgreeAlong 12 0 0 [.ref 0, .int (zch 1)] (zw X Y O) (fun r w2 => ∃ X2, r = .inl (some (.int 1)) ∧ w2 = zw X2 Y O ∧ keep0 X X2) := by
  refine ZM.go pX8 rfl rfl (zle rfl) (zl := [some (.ref 0), some (.int (zch 1)), none]) rfl ?_
  refine z_aload_n (i := 0) dX8_bothWaysAgreeAlong_0 rfl rfl (q := 1) rfl ?_
  refine z_iload_n (i := 1) dX8_bothWaysAgreeAlong_1 rfl rfl (q := 2) rfl ?_
  refine z_callV (As := [_]) dX8_bothWaysAgreeAlong_2 kX8_226 (c_X8_loadTidySearch_1 hI) (wo_x _ _ _) rfl rfl (zle rfl) ⟨zle rfl, zle rfl⟩ ⟨zle rfl, zle rfl⟩ (q := 5) rfl (fun rv w2 hw2 => ?_) (fun E w2 h9 => by cases h9.1)
  obtain ⟨h9, X2, T, rfl, hk, hT, hS⟩ := hw2
  cases h9
  refine z_aload_n (i := 0) dX8_bothWaysAgreeAlong_5 rfl rfl (q := 6) rfl ?_
  refine z_get dX8_bothWaysAgreeAlong_6 fX8_41 (wo_x _ _ _) rfl (q := 9) rfl ?_
  refine z_callV (As := []) dX8_bothWaysAgreeAlong_9 kX8_329 (c_X6_searchTidiest hT) (wo_tidySearch _ _ _) rfl rfl (zle rfl) ⟨zle rfl, zle rfl⟩ ⟨zle rfl, zle rfl⟩ (q := 12) rfl (fun rv w2 hw2 => ?_) (fun E w2 h9 => by cases h9.1)
  obtain ⟨h9, X3, B, rfl, hk2, hB, hr⟩ := hw2
  cases h9
  refine z_aload_n (i := 0) dX8_bothWaysAgreeAlong_12 rfl rfl (q := 13) rfl ?_
  refine z_get dX8_bothWaysAgreeAlong_13 fX8_41 (wo_x _ _ _) rfl (q := 16) rfl ?_
  refine z_callVF (As := []) dX8_bothWaysAgreeAlong_16 kX8_223 (c_X6_foundStrength) (wo_tidySearch _ _ _) rfl rfl (zle rfl) ⟨zle rfl, zle rfl⟩ ⟨zle rfl, zle rfl⟩ (q := 19) rfl ?_
  refine z_aload_n (i := 0) dX8_bothWaysAgreeAlong_19 rfl rfl (q := 20) rfl ?_
  refine z_get dX8_bothWaysAgreeAlong_20 fX8_41 (wo_x _ _ _) rfl (q := 23) rfl ?_
  refine z_callV (As := []) dX8_bothWaysAgreeAlong_23 kX8_229 (c_X6_greatestStrengthOfAll (tsK_ks hk2 hT) (tsS_pos hI (t := 1) (by decide) hS)) (wo_tidySearch _ _ _) rfl rfl (zle rfl) ⟨zle rfl, zle rfl⟩ ⟨zle rfl, zle rfl⟩ (q := 26) rfl (fun rv w2 hw2 => ?_) (fun E w2 h9 => by obtain ⟨_, _, h9, _⟩ := h9; cases h9)
  obtain ⟨X4, g, h9, rfl, hk3, hg⟩ := hw2
  cases h9
  have hK := keep0_ks (keep0_ks (keep0_kp hk) hk2) hk3
  have hI4 := inv_keep hK hI
  refine z_icmp_eq (tgt := 31) dX8_bothWaysAgreeAlong_26 (by decide) (q := 29) rfl (fun h26 => ?_) (fun h26 => absurd (hB.1.trans (congrArg nI (best_all hI (t := 1) (by decide) hT hS hr hg))) h26)
  refine z_aload_n (i := 0) dX8_bothWaysAgreeAlong_31 rfl rfl (q := 32) rfl ?_
  refine z_get dX8_bothWaysAgreeAlong_32 fX8_48 (wo_x _ _ _) rfl (q := 35) rfl ?_
  refine z_aload_n (i := 0) dX8_bothWaysAgreeAlong_35 rfl rfl (q := 36) rfl ?_
  refine z_iload_n (i := 1) dX8_bothWaysAgreeAlong_36 rfl rfl (q := 37) rfl ?_
  refine z_callVF (As := [_]) dX8_bothWaysAgreeAlong_37 kX8_116 (c_X8_axisNamed (t := 1) (by decide)) (wo_x _ _ _) rfl rfl (zle rfl) ⟨zle rfl, zle rfl⟩ ⟨zle rfl, zle rfl⟩ (q := 40) rfl ?_
  refine z_aload_n (i := 0) dX8_bothWaysAgreeAlong_40 rfl rfl (q := 41) rfl ?_
  refine z_get dX8_bothWaysAgreeAlong_41 fX8_24 (wo_x _ _ _) rfl (q := 44) rfl ?_
  refine z_callV (As := [_, _]) dX8_bothWaysAgreeAlong_44 kX8_238 (c_X2_load_1 (X := X4) (hI4.2.2.1 (2 * 1) (by decide)) hI4.1 (fun j hj => inv_axis hI4 (t := 1) (by decide) hj)) (wo_evenSearch _ _ _) rfl rfl (zle rfl) ⟨zle rfl, zle rfl⟩ ⟨zle rfl, zle rfl⟩ (q := 47) rfl (fun rv w2 hw2 => ?_) (fun E w2 h9 => by cases h9.1)
  obtain ⟨h9, X5, o, rfl, hk5, hev, ho, hf⟩ := hw2
  cases h9
  obtain ⟨hE, hF⟩ := evN_of (t := 1) hI4 (by decide) hev ho hf
  refine z_aload_n (i := 0) dX8_bothWaysAgreeAlong_47 rfl rfl (q := 48) rfl ?_
  refine z_get dX8_bothWaysAgreeAlong_48 fX8_48 (wo_x _ _ _) rfl (q := 51) rfl ?_
  refine z_callV (As := []) dX8_bothWaysAgreeAlong_51 kX8_242 (c_X2_searchBestStarts hE hF) (wo_evenSearch _ _ _) rfl rfl (zle rfl) ⟨zle rfl, zle rfl⟩ ⟨zle rfl, zle rfl⟩ (q := 54) rfl (fun rv w2 hw2 => ?_) (fun E w2 h9 => by cases h9.1)
  obtain ⟨h9, X6, b, rfl, hk6, hb, hr6⟩ := hw2
  cases h9
  refine z_aload_n (i := 0) dX8_bothWaysAgreeAlong_54 rfl rfl (q := 55) rfl ?_
  refine z_get dX8_bothWaysAgreeAlong_55 fX8_48 (wo_x _ _ _) rfl (q := 58) rfl ?_
  refine z_callVF (As := []) dX8_bothWaysAgreeAlong_58 kX8_248 (c_X2_foundCost) (wo_evenSearch _ _ _) rfl rfl (zle rfl) ⟨zle rfl, zle rfl⟩ ⟨zle rfl, zle rfl⟩ (q := 61) rfl ?_
  refine z_istore_n (i := 2) dX8_bothWaysAgreeAlong_61 rfl (zle rfl) rfl (q := 62) rfl ?_
  refine z_aload_n (i := 0) dX8_bothWaysAgreeAlong_62 rfl rfl (q := 63) rfl ?_
  refine z_get dX8_bothWaysAgreeAlong_63 fX8_48 (wo_x _ _ _) rfl (q := 66) rfl ?_
  refine z_callV (As := []) dX8_bothWaysAgreeAlong_66 kX8_249 (c_X2_searchAll (evN_k3 hk6 hE) hF) (wo_evenSearch _ _ _) rfl rfl (zle rfl) ⟨zle rfl, zle rfl⟩ ⟨zle rfl, zle rfl⟩ (q := 69) rfl (fun rv w2 hw2 => ?_) (fun E w2 h9 => by cases h9.1)
  obtain ⟨h9, X7, b7, rfl, hk7, hb7, hr7⟩ := hw2
  cases h9
  have hbb := eres_same hr6 hr7
  subst hbb
  refine z_iload_n (i := 2) dX8_bothWaysAgreeAlong_69 rfl rfl (q := 70) rfl ?_
  refine z_aload_n (i := 0) dX8_bothWaysAgreeAlong_70 rfl rfl (q := 71) rfl ?_
  refine z_get dX8_bothWaysAgreeAlong_71 fX8_48 (wo_x _ _ _) rfl (q := 74) rfl ?_
  refine z_callVF (As := []) dX8_bothWaysAgreeAlong_74 kX8_248 (c_X2_foundCost) (wo_evenSearch _ _ _) rfl rfl (zle rfl) ⟨zle rfl, zle rfl⟩ ⟨zle rfl, zle rfl⟩ (q := 77) rfl ?_
  refine z_icmp_ne (tgt := 84) dX8_bothWaysAgreeAlong_77 (by decide) (q := 80) rfl (fun h77 => absurd (evB_cost hb hb7) h77) (fun h77 => ?_)
  refine z_iconst (v := 1) dX8_bothWaysAgreeAlong_80 rfl (q := 81) rfl ?_
  refine z_goto (tgt := 85) dX8_bothWaysAgreeAlong_81 (by decide) ?_
  exact z_zret dX8_bothWaysAgreeAlong_85 rfl rfl ⟨zle rfl, zle rfl⟩ ⟨X7, rfl, rfl, keep0_trans hK (ke_0 (ke_k3 (ke_k3 hk5 hk6) hk7))⟩
end
