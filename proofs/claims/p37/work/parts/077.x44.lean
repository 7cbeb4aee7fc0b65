section
variable {G : zG} {X : zX} {Y : zY} {O : zO}
set_option maxRecDepth 100000 in
set_option maxHeartbeats 4000000 in
theorem counts2 (X X2 : zX) {n b : Nat} (h4 : n ≤ 4) (hb : b < 64) : nI (grGo X n b).2 = (grJoin X2 n b).2 := by
  have e1 : (grGo X n b).2 = (grGo X2 n b).2 := gGo_congr n 0 _ _ 0 (by omega) (fun i hi => (gfill_eqn (v := fun _ => -1) n 0 (X.2.1 30) (by omega) (fun j hj => absurd hj (Nat.not_lt_zero _)) i hi).trans (gfill_eqn (v := fun _ => -1) n 0 (X2.2.1 30) (by omega) (fun j hj => absurd hj (Nat.not_lt_zero _)) i hi).symm)
  rw [e1]
  exact counts_agree h4 hb
set_option maxRecDepth 100000 in
set_option maxHeartbeats 4000000 in
theorem keep0_xg (X : zX) (low : Nat → Int32) (l : Int32) (g : Nat → Int32) (c : Int32) : keep0 X (xg X low l g c) :=
  ⟨fun r hr => ⟨(xrow_ln _ (by omega) _ _).trans (xrow_ln X (by omega) _ _), (xrow_fn _ (by omega) _ _).trans (xrow_fn X (by omega) _ _)⟩, rfl⟩
set_option maxRecDepth 100000 in
set_option maxHeartbeats 4000000 in
theorem c_X8_groupCountsAgree {n nw : Nat} {d : Int32} (hI : inv X n nw) : ZM G mX8_groupCountsAgree 5 0 0 [.ref 0, .int d] (zw X Y O) (fun r w2 => ∃ X2, r = .inl (some (.int 1)) ∧ w2 = zw X2 Y O ∧ keep0 X X2) := by
  obtain ⟨b, hb6, hb⟩ := linked_ex X hI.1 d
  have hn := hI.2.2.1 0 (by decide)
  refine ZM.go pX8 rfl rfl (zle rfl) (zl := [some (.ref 0), some (.int d)]) rfl ?_
  refine z_aload_n (i := 0) dX8_groupCountsAgree_0 rfl rfl (q := 1) rfl ?_
  refine z_get dX8_groupCountsAgree_1 fX8_55 (wo_x _ _ _) rfl (q := 4) rfl ?_
  refine z_aload_n (i := 0) dX8_groupCountsAgree_4 rfl rfl (q := 5) rfl ?_
  refine z_get dX8_groupCountsAgree_5 fX8_14 (wo_x _ _ _) rfl (q := 8) rfl ?_
  refine z_aload_n (i := 0) dX8_groupCountsAgree_8 rfl rfl (q := 9) rfl ?_
  refine z_get dX8_groupCountsAgree_9 fX8_18 (wo_x _ _ _) rfl (q := 12) rfl ?_
  refine z_iload_n (i := 1) dX8_groupCountsAgree_12 rfl rfl (q := 13) rfl ?_
  refine z_callV (As := [_, _, _]) dX8_groupCountsAgree_13 kX8_277 (c_X3_countByGoing hn hI.1 hb) (wo_nearness _ _ _) rfl rfl (zle rfl) ⟨zle rfl, zle rfl⟩ ⟨zle rfl, zle rfl⟩ (q := 16) rfl (fun rv w2 hw2 => ?_) (fun E w2 h9 => by cases h9.1)
  obtain ⟨h9, g2, c2, rfl⟩ := hw2
  cases h9
  refine z_aload_n (i := 0) dX8_groupCountsAgree_16 rfl rfl (q := 17) rfl ?_
  refine z_get dX8_groupCountsAgree_17 fX8_55 (wo_x _ _ _) rfl (q := 20) rfl ?_
  refine z_aload_n (i := 0) dX8_groupCountsAgree_20 rfl rfl (q := 21) rfl ?_
  refine z_get dX8_groupCountsAgree_21 fX8_14 (wo_x _ _ _) rfl (q := 24) rfl ?_
  refine z_aload_n (i := 0) dX8_groupCountsAgree_24 rfl rfl (q := 25) rfl ?_
  refine z_get dX8_groupCountsAgree_25 fX8_18 (wo_x _ _ _) rfl (q := 28) rfl ?_
  refine z_iload_n (i := 1) dX8_groupCountsAgree_28 rfl rfl (q := 29) rfl ?_
  refine z_callV (As := [_, _, _]) dX8_groupCountsAgree_29 kX8_281 (c_X3_countByJoining (X := xg X (grGo X n b).1 (nI n) g2 c2) hn hI.1 hb) (wo_nearness _ _ _) rfl rfl (zle rfl) ⟨zle rfl, zle rfl⟩ ⟨zle rfl, zle rfl⟩ (q := 32) rfl (fun rv w2 hw2 => ?_) (fun E w2 h9 => by cases h9.1)
  obtain ⟨h9, g3, c3, rfl⟩ := hw2
  cases h9
  refine z_icmp_ne (tgt := 39) dX8_groupCountsAgree_32 (by decide) (q := 35) rfl (fun h32 => absurd (counts2 X (xg X (grGo X n b).1 (nI n) g2 c2) hI.1 hb6) h32) (fun h32 => ?_)
  refine z_iconst (v := 1) dX8_groupCountsAgree_35 rfl (q := 36) rfl ?_
  refine z_goto (tgt := 40) dX8_groupCountsAgree_36 (by decide) ?_
  exact z_zret dX8_groupCountsAgree_40 rfl rfl ⟨zle rfl, zle rfl⟩ ⟨_, rfl, rfl, keep0_trans (keep0_xg X _ _ _ _) (keep0_xg _ _ _ _ _)⟩
set_option maxRecDepth 100000 in
set_option maxHeartbeats 4000000 in
theorem c_X8_isSound {n nw : Nat} (hI1 : inv X n nw) : ZM G mX8_isSound 13 1 6 [.ref 0] (zw X Y O) (fun r w2 => ∃ X2, r = .inl (some (.int 1)) ∧ w2 = zw X2 Y O ∧ keep0 X X2) := by
  refine ZM.go pX8 rfl rfl (zle rfl) (zl := [some (.ref 0)]) rfl ?_
  refine z_aload_n (i := 0) dX8_isSound_0 rfl rfl (q := 1) rfl ?_
  refine z_callVF (As := []) dX8_isSound_1 kX8_293 (c_X8_allShapesStandRight hI1) (wo_x _ _ _) rfl rfl (zle rfl) ⟨zle rfl, zle rfl⟩ ⟨zle rfl, zle rfl⟩ (q := 4) rfl ?_
  refine z_if_eq (tgt := 55) dX8_isSound_4 (by decide) (q := 7) rfl (fun h4 => absurd h4 (by decide)) (fun h4 => ?_)
  refine z_aload_n (i := 0) dX8_isSound_7 rfl rfl (q := 8) rfl ?_
  refine z_bipush (v := 120) dX8_isSound_8 rfl (q := 10) rfl ?_
  refine z_callV (As := [_]) dX8_isSound_10 kX8_297 (c_X8_bothWaysAgreeAlong_0 hI1) (wo_x _ _ _) rfl rfl (zle rfl) ⟨zle rfl, zle rfl⟩ ⟨zle rfl, zle rfl⟩ (q := 13) rfl (fun rv w2 hw2 => ?_) (fun E w2 h9 => by obtain ⟨_, h9, _⟩ := h9; cases h9)
  obtain ⟨X2, h9, rfl, hk2⟩ := hw2
  cases h9
  have hI2 := inv_keep hk2 hI1
  refine z_if_eq (tgt := 55) dX8_isSound_13 (by decide) (q := 16) rfl (fun h13 => absurd h13 (by decide)) (fun h13 => ?_)
  refine z_aload_n (i := 0) dX8_isSound_16 rfl rfl (q := 17) rfl ?_
  refine z_bipush (v := 121) dX8_isSound_17 rfl (q := 19) rfl ?_
  refine z_callV (As := [_]) dX8_isSound_19 kX8_297 (c_X8_bothWaysAgreeAlong_1 hI2) (wo_x _ _ _) rfl rfl (zle rfl) ⟨zle rfl, zle rfl⟩ ⟨zle rfl, zle rfl⟩ (q := 22) rfl (fun rv w2 hw2 => ?_) (fun E w2 h9 => by obtain ⟨_, h9, _⟩ := h9; cases h9)
  obtain ⟨X3, h9, rfl, hk3⟩ := hw2
  cases h9
  have hI3 := inv_keep hk3 hI2
  refine z_if_eq (tgt := 55) dX8_isSound_22 (by decide) (q := 25) rfl (fun h22 => absurd h22 (by decide)) (fun h22 => ?_)
  refine z_aload_n (i := 0) dX8_isSound_25 rfl rfl (q := 26) rfl ?_
  refine z_iconst (v := 0) dX8_isSound_26 rfl (q := 27) rfl ?_
  refine z_callV (As := [_]) dX8_isSound_27 kX8_301 (c_X8_groupCountsAgree hI3) (wo_x _ _ _) rfl rfl (zle rfl) ⟨zle rfl, zle rfl⟩ ⟨zle rfl, zle rfl⟩ (q := 30) rfl (fun rv w2 hw2 => ?_) (fun E w2 h9 => by obtain ⟨_, h9, _⟩ := h9; cases h9)
  obtain ⟨X4, h9, rfl, hk4⟩ := hw2
  cases h9
  have hI4 := inv_keep hk4 hI3
  refine z_if_eq (tgt := 55) dX8_isSound_30 (by decide) (q := 33) rfl (fun h30 => absurd h30 (by decide)) (fun h30 => ?_)
  refine z_aload_n (i := 0) dX8_isSound_33 rfl rfl (q := 34) rfl ?_
  refine z_bipush (v := 10) dX8_isSound_34 rfl (q := 36) rfl ?_
  refine z_callV (As := [_]) dX8_isSound_36 kX8_301 (c_X8_groupCountsAgree hI4) (wo_x _ _ _) rfl rfl (zle rfl) ⟨zle rfl, zle rfl⟩ ⟨zle rfl, zle rfl⟩ (q := 39) rfl (fun rv w2 hw2 => ?_) (fun E w2 h9 => by obtain ⟨_, h9, _⟩ := h9; cases h9)
  obtain ⟨X5, h9, rfl, hk5⟩ := hw2
  cases h9
  have hI5 := inv_keep hk5 hI4
  refine z_if_eq (tgt := 55) dX8_isSound_39 (by decide) (q := 42) rfl (fun h39 => absurd h39 (by decide)) (fun h39 => ?_)
  refine z_aload_n (i := 0) dX8_isSound_42 rfl rfl (q := 43) rfl ?_
  refine z_bipush (v := 50) dX8_isSound_43 rfl (q := 45) rfl ?_
  refine z_callV (As := [_]) dX8_isSound_45 kX8_301 (c_X8_groupCountsAgree hI5) (wo_x _ _ _) rfl rfl (zle rfl) ⟨zle rfl, zle rfl⟩ ⟨zle rfl, zle rfl⟩ (q := 48) rfl (fun rv w2 hw2 => ?_) (fun E w2 h9 => by obtain ⟨_, h9, _⟩ := h9; cases h9)
  obtain ⟨X6, h9, rfl, hk6⟩ := hw2
  cases h9
  have hI6 := inv_keep hk6 hI5
  refine z_if_eq (tgt := 55) dX8_isSound_48 (by decide) (q := 51) rfl (fun h48 => absurd h48 (by decide)) (fun h48 => ?_)
  refine z_iconst (v := 1) dX8_isSound_51 rfl (q := 52) rfl ?_
  refine z_goto (tgt := 56) dX8_isSound_52 (by decide) ?_
  exact z_zret dX8_isSound_56 rfl rfl ⟨zle rfl, zle rfl⟩ ⟨X6, rfl, rfl, keep0_trans hk2 (keep0_trans hk3 (keep0_trans hk4 (keep0_trans hk5 hk6)))⟩
end
