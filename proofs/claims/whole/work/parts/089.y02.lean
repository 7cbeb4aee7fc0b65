section
variable {G : zG} {X X1 : zX} {Y : zY} {O : zO}
set_option maxRecDepth 100000 in
set_option maxHeartbeats 4000000 in
abbrev yth (Y : zY) (e : Int32) : zY := yint (yint Y 0 0) 0 e
set_option maxRecDepth 100000 in
set_option maxHeartbeats 4000000 in
def mR (X1 : zX) (O : zO) (a : Int32) (Y2 : zY) : zRes → zWorld → Prop := zR (.inl (some (.int a))) (zw X1 Y2 O)
set_option maxRecDepth 100000 in
set_option maxHeartbeats 4000000 in
theorem c_X9_startOf {n nw k : Nat} (hR : rel X Y n nw) (hk : k < n) {t : Nat} (ht : t < 2) : ZM G mX9_startOf 2 0 0 [.ref 77, .int (nI k), .int (zch t)] (zw X1 Y O) (mR X1 O (X.2.1 (2 * t) k) (yint Y 0 0)) := by
  have h4 := rel_4 hR
  have hR0 : rel X (yint Y 0 0) n nw := rel_thr hR 0
  refine ZM.go pX9 rfl rfl (zle rfl) (zl := [some (.ref 77), some (.int (nI k)), some (.int (zch t))]) rfl ?_
  refine z_aload_n (i := 0) dX9_startOf_0 rfl rfl (q := 1) rfl ?_
  refine z_iconst (v := 0) dX9_startOf_1 rfl (q := 2) rfl ?_
  refine z_put dX9_startOf_2 fX9_60 (wm _ _ _) (zle rfl) (zfit_int _) (q := 5) rfl ?_
  refine Z.eqw (wmi_thrown _ _ _ _) ?_
  refine z_aload_n (i := 0) dX9_startOf_5 rfl rfl (q := 6) rfl ?_
  refine z_aload_n (i := 0) dX9_startOf_6 rfl rfl (q := 7) rfl ?_
  refine z_iload_n (i := 1) dX9_startOf_7 rfl rfl (q := 8) rfl ?_
  refine z_callVF (As := [_]) dX9_startOf_8 kX9_97 (c_X9_noShape_in hR0 hk) (wm _ _ _) rfl rfl (zle rfl) ⟨zle rfl, zle rfl⟩ ⟨zle rfl, zle rfl⟩ (q := 11) rfl ?_
  refine z_iconst (v := 1) dX9_startOf_11 rfl (q := 12) rfl ?_
  refine z_callVF (As := [_, _]) dX9_startOf_12 kX9_89 (c_X9_fails_f rfl) (wm _ _ _) rfl rfl (zle rfl) ⟨zle rfl, zle rfl⟩ ⟨zle rfl, zle rfl⟩ (q := 15) rfl ?_
  refine z_if_ne (tgt := 39) dX9_startOf_15 (by decide) (q := 18) rfl (fun h15 => absurd h15 (by decide)) (fun h15 => ?_)
  refine z_aload_n (i := 0) dX9_startOf_18 rfl rfl (q := 19) rfl ?_
  refine z_iload_n (i := 2) dX9_startOf_19 rfl rfl (q := 20) rfl ?_
  refine z_callSF (As := [_]) dX9_startOf_20 kX9_101 (c_X9_axisOf ht) rfl (zle rfl) ⟨zle rfl, zle rfl⟩ ⟨zle rfl, zle rfl⟩ (q := 23) rfl ?_
  refine z_iconst (v := (-1)) dX9_startOf_23 rfl (q := 24) rfl ?_
  refine z_icmp_ne (tgt := 31) dX9_startOf_24 (by decide) (q := 27) rfl (fun h24 => ?_) (fun h24 => absurd h24 (nI_m1 (by omega)))
  refine z_iconst (v := 0) dX9_startOf_31 rfl (q := 32) rfl ?_
  refine z_iconst (v := 2) dX9_startOf_32 rfl (q := 33) rfl ?_
  refine z_callVF (As := [_, _]) dX9_startOf_33 kX9_89 (c_X9_fails_f rfl) (wm _ _ _) rfl rfl (zle rfl) ⟨zle rfl, zle rfl⟩ ⟨zle rfl, zle rfl⟩ (q := 36) rfl ?_
  refine z_if_eq (tgt := 43) dX9_startOf_36 (by decide) (q := 39) rfl (fun h36 => ?_) (fun h36 => absurd h36 (by decide))
  refine z_aload_n (i := 0) dX9_startOf_43 rfl rfl (q := 44) rfl ?_
  refine z_iload_n (i := 1) dX9_startOf_44 rfl rfl (q := 45) rfl ?_
  refine z_iload_n (i := 2) dX9_startOf_45 rfl rfl (q := 46) rfl ?_
  refine z_callSF (As := [_]) dX9_startOf_46 kX9_101 (c_X9_axisOf ht) rfl (zle rfl) ⟨zle rfl, zle rfl⟩ ⟨zle rfl, zle rfl⟩ (q := 49) rfl ?_
  refine z_callVF (As := [_, _]) dX9_startOf_49 kX9_75 (c_X9_at hR0 (by omega) ht) (wm _ _ _) rfl rfl (zle rfl) ⟨zle rfl, zle rfl⟩ ⟨zle rfl, zle rfl⟩ (q := 52) rfl ?_
  exact z_iret dX9_startOf_52 rfl ⟨zle rfl, zle rfl⟩ ⟨rfl, rfl⟩
set_option maxRecDepth 100000 in
set_option maxHeartbeats 4000000 in
theorem c_X9_startOf_out {n nw : Nat} {s : Int32} (hR : rel X Y n nw) (h : s < 0 ∨ nI n ≤ s) {c : Int32} : ZM G mX9_startOf 2 0 0 [.ref 77, .int s, .int c] (zw X1 Y O) (mR X1 O (0) (yth Y 1)) := by
  have h4 := rel_4 hR
  have hR0 : rel X (yint Y 0 0) n nw := rel_thr hR 0
  refine ZM.go pX9 rfl rfl (zle rfl) (zl := [some (.ref 77), some (.int s), some (.int c)]) rfl ?_
  refine z_aload_n (i := 0) dX9_startOf_0 rfl rfl (q := 1) rfl ?_
  refine z_iconst (v := 0) dX9_startOf_1 rfl (q := 2) rfl ?_
  refine z_put dX9_startOf_2 fX9_60 (wm _ _ _) (zle rfl) (zfit_int _) (q := 5) rfl ?_
  refine Z.eqw (wmi_thrown _ _ _ _) ?_
  refine z_aload_n (i := 0) dX9_startOf_5 rfl rfl (q := 6) rfl ?_
  refine z_aload_n (i := 0) dX9_startOf_6 rfl rfl (q := 7) rfl ?_
  refine z_iload_n (i := 1) dX9_startOf_7 rfl rfl (q := 8) rfl ?_
  refine z_callVF (As := [_]) dX9_startOf_8 kX9_97 (c_X9_noShape_out hR0 h) (wm _ _ _) rfl rfl (zle rfl) ⟨zle rfl, zle rfl⟩ ⟨zle rfl, zle rfl⟩ (q := 11) rfl ?_
  refine z_iconst (v := 1) dX9_startOf_11 rfl (q := 12) rfl ?_
  refine z_callVF (As := [_, _]) dX9_startOf_12 kX9_89 (c_X9_fails_t rfl (by decide)) (wm _ _ _) rfl rfl (zle rfl) ⟨zle rfl, zle rfl⟩ ⟨zle rfl, zle rfl⟩ (q := 15) rfl ?_
  refine z_if_ne (tgt := 39) dX9_startOf_15 (by decide) (q := 18) rfl (fun h15 => ?_) (fun h15 => absurd h15 (by decide))
  refine z_iconst (v := 0) dX9_startOf_39 rfl (q := 40) rfl ?_
  refine z_goto (tgt := 52) dX9_startOf_40 (by decide) ?_
  exact z_iret dX9_startOf_52 rfl ⟨zle rfl, zle rfl⟩ ⟨rfl, rfl⟩
set_option maxRecDepth 100000 in
set_option maxHeartbeats 4000000 in
theorem c_X9_startOf_ax {n nw k : Nat} (hR : rel X Y n nw) (hk : k < n) {c : Int32} (h1 : ¬ c = 120) (h2 : ¬ c = 121) : ZM G mX9_startOf 2 0 0 [.ref 77, .int (nI k), .int c] (zw X1 Y O) (mR X1 O (0) (yth Y 2)) := by
  have h4 := rel_4 hR
  have hR0 : rel X (yint Y 0 0) n nw := rel_thr hR 0
  refine ZM.go pX9 rfl rfl (zle rfl) (zl := [some (.ref 77), some (.int (nI k)), some (.int c)]) rfl ?_
  refine z_aload_n (i := 0) dX9_startOf_0 rfl rfl (q := 1) rfl ?_
  refine z_iconst (v := 0) dX9_startOf_1 rfl (q := 2) rfl ?_
  refine z_put dX9_startOf_2 fX9_60 (wm _ _ _) (zle rfl) (zfit_int _) (q := 5) rfl ?_
  refine Z.eqw (wmi_thrown _ _ _ _) ?_
  refine z_aload_n (i := 0) dX9_startOf_5 rfl rfl (q := 6) rfl ?_
  refine z_aload_n (i := 0) dX9_startOf_6 rfl rfl (q := 7) rfl ?_
  refine z_iload_n (i := 1) dX9_startOf_7 rfl rfl (q := 8) rfl ?_
  refine z_callVF (As := [_]) dX9_startOf_8 kX9_97 (c_X9_noShape_in hR0 hk) (wm _ _ _) rfl rfl (zle rfl) ⟨zle rfl, zle rfl⟩ ⟨zle rfl, zle rfl⟩ (q := 11) rfl ?_
  refine z_iconst (v := 1) dX9_startOf_11 rfl (q := 12) rfl ?_
  refine z_callVF (As := [_, _]) dX9_startOf_12 kX9_89 (c_X9_fails_f rfl) (wm _ _ _) rfl rfl (zle rfl) ⟨zle rfl, zle rfl⟩ ⟨zle rfl, zle rfl⟩ (q := 15) rfl ?_
  refine z_if_ne (tgt := 39) dX9_startOf_15 (by decide) (q := 18) rfl (fun h15 => absurd h15 (by decide)) (fun h15 => ?_)
  refine z_aload_n (i := 0) dX9_startOf_18 rfl rfl (q := 19) rfl ?_
  refine z_iload_n (i := 2) dX9_startOf_19 rfl rfl (q := 20) rfl ?_
  refine z_callSF (As := [_]) dX9_startOf_20 kX9_101 (c_X9_axisOf_no h1 h2) rfl (zle rfl) ⟨zle rfl, zle rfl⟩ ⟨zle rfl, zle rfl⟩ (q := 23) rfl ?_
  refine z_iconst (v := (-1)) dX9_startOf_23 rfl (q := 24) rfl ?_
  refine z_icmp_ne (tgt := 31) dX9_startOf_24 (by decide) (q := 27) rfl (fun h24 => absurd h24 (by decide)) (fun h24 => ?_)
  refine z_iconst (v := 1) dX9_startOf_27 rfl (q := 28) rfl ?_
  refine z_goto (tgt := 32) dX9_startOf_28 (by decide) ?_
  refine z_iconst (v := 2) dX9_startOf_32 rfl (q := 33) rfl ?_
  refine z_callVF (As := [_, _]) dX9_startOf_33 kX9_89 (c_X9_fails_t rfl (by decide)) (wm _ _ _) rfl rfl (zle rfl) ⟨zle rfl, zle rfl⟩ ⟨zle rfl, zle rfl⟩ (q := 36) rfl ?_
  refine z_if_eq (tgt := 43) dX9_startOf_36 (by decide) (q := 39) rfl (fun h36 => absurd h36 (by decide)) (fun h36 => ?_)
  refine z_iconst (v := 0) dX9_startOf_39 rfl (q := 40) rfl ?_
  refine z_goto (tgt := 52) dX9_startOf_40 (by decide) ?_
  exact z_iret dX9_startOf_52 rfl ⟨zle rfl, zle rfl⟩ ⟨rfl, rfl⟩
set_option maxRecDepth 100000 in
set_option maxHeartbeats 4000000 in
theorem c_X9_sizeOf {n nw k : Nat} (hR : rel X Y n nw) (hk : k < n) {t : Nat} (ht : t < 2) : ZM G mX9_sizeOf 2 0 0 [.ref 77, .int (nI k), .int (zch t)] (zw X1 Y O) (mR X1 O (X.2.1 (2 * t + 1) k) (yint Y 0 0)) := by
  have h4 := rel_4 hR
  have hR0 : rel X (yint Y 0 0) n nw := rel_thr hR 0
  refine ZM.go pX9 rfl rfl (zle rfl) (zl := [some (.ref 77), some (.int (nI k)), some (.int (zch t))]) rfl ?_
  refine z_aload_n (i := 0) dX9_sizeOf_0 rfl rfl (q := 1) rfl ?_
  refine z_iconst (v := 0) dX9_sizeOf_1 rfl (q := 2) rfl ?_
  refine z_put dX9_sizeOf_2 fX9_60 (wm _ _ _) (zle rfl) (zfit_int _) (q := 5) rfl ?_
  refine Z.eqw (wmi_thrown _ _ _ _) ?_
  refine z_aload_n (i := 0) dX9_sizeOf_5 rfl rfl (q := 6) rfl ?_
  refine z_aload_n (i := 0) dX9_sizeOf_6 rfl rfl (q := 7) rfl ?_
  refine z_iload_n (i := 1) dX9_sizeOf_7 rfl rfl (q := 8) rfl ?_
  refine z_callVF (As := [_]) dX9_sizeOf_8 kX9_97 (c_X9_noShape_in hR0 hk) (wm _ _ _) rfl rfl (zle rfl) ⟨zle rfl, zle rfl⟩ ⟨zle rfl, zle rfl⟩ (q := 11) rfl ?_
  refine z_iconst (v := 1) dX9_sizeOf_11 rfl (q := 12) rfl ?_
  refine z_callVF (As := [_, _]) dX9_sizeOf_12 kX9_89 (c_X9_fails_f rfl) (wm _ _ _) rfl rfl (zle rfl) ⟨zle rfl, zle rfl⟩ ⟨zle rfl, zle rfl⟩ (q := 15) rfl ?_
  refine z_if_ne (tgt := 39) dX9_sizeOf_15 (by decide) (q := 18) rfl (fun h15 => absurd h15 (by decide)) (fun h15 => ?_)
  refine z_aload_n (i := 0) dX9_sizeOf_18 rfl rfl (q := 19) rfl ?_
  refine z_iload_n (i := 2) dX9_sizeOf_19 rfl rfl (q := 20) rfl ?_
  refine z_callSF (As := [_]) dX9_sizeOf_20 kX9_101 (c_X9_axisOf ht) rfl (zle rfl) ⟨zle rfl, zle rfl⟩ ⟨zle rfl, zle rfl⟩ (q := 23) rfl ?_
  refine z_iconst (v := (-1)) dX9_sizeOf_23 rfl (q := 24) rfl ?_
  refine z_icmp_ne (tgt := 31) dX9_sizeOf_24 (by decide) (q := 27) rfl (fun h24 => ?_) (fun h24 => absurd h24 (nI_m1 (by omega)))
  refine z_iconst (v := 0) dX9_sizeOf_31 rfl (q := 32) rfl ?_
  refine z_iconst (v := 2) dX9_sizeOf_32 rfl (q := 33) rfl ?_
  refine z_callVF (As := [_, _]) dX9_sizeOf_33 kX9_89 (c_X9_fails_f rfl) (wm _ _ _) rfl rfl (zle rfl) ⟨zle rfl, zle rfl⟩ ⟨zle rfl, zle rfl⟩ (q := 36) rfl ?_
  refine z_if_eq (tgt := 43) dX9_sizeOf_36 (by decide) (q := 39) rfl (fun h36 => ?_) (fun h36 => absurd h36 (by decide))
  refine z_aload_n (i := 0) dX9_sizeOf_43 rfl rfl (q := 44) rfl ?_
  refine z_iload_n (i := 1) dX9_sizeOf_44 rfl rfl (q := 45) rfl ?_
  refine z_iload_n (i := 2) dX9_sizeOf_45 rfl rfl (q := 46) rfl ?_
  refine z_callSF (As := [_]) dX9_sizeOf_46 kX9_101 (c_X9_axisOf ht) rfl (zle rfl) ⟨zle rfl, zle rfl⟩ ⟨zle rfl, zle rfl⟩ (q := 49) rfl ?_
  refine z_callVF (As := [_, _]) dX9_sizeOf_49 kX9_79 (c_X9_sizeAt hR0 (by omega) ht) (wm _ _ _) rfl rfl (zle rfl) ⟨zle rfl, zle rfl⟩ ⟨zle rfl, zle rfl⟩ (q := 52) rfl ?_
  exact z_iret dX9_sizeOf_52 rfl ⟨zle rfl, zle rfl⟩ ⟨rfl, rfl⟩
set_option maxRecDepth 100000 in
set_option maxHeartbeats 4000000 in
theorem c_X9_sizeOf_out {n nw : Nat} {s : Int32} (hR : rel X Y n nw) (h : s < 0 ∨ nI n ≤ s) {c : Int32} : ZM G mX9_sizeOf 2 0 0 [.ref 77, .int s, .int c] (zw X1 Y O) (mR X1 O (0) (yth Y 1)) := by
  have h4 := rel_4 hR
  have hR0 : rel X (yint Y 0 0) n nw := rel_thr hR 0
  refine ZM.go pX9 rfl rfl (zle rfl) (zl := [some (.ref 77), some (.int s), some (.int c)]) rfl ?_
  refine z_aload_n (i := 0) dX9_sizeOf_0 rfl rfl (q := 1) rfl ?_
  refine z_iconst (v := 0) dX9_sizeOf_1 rfl (q := 2) rfl ?_
  refine z_put dX9_sizeOf_2 fX9_60 (wm _ _ _) (zle rfl) (zfit_int _) (q := 5) rfl ?_
  refine Z.eqw (wmi_thrown _ _ _ _) ?_
  refine z_aload_n (i := 0) dX9_sizeOf_5 rfl rfl (q := 6) rfl ?_
  refine z_aload_n (i := 0) dX9_sizeOf_6 rfl rfl (q := 7) rfl ?_
  refine z_iload_n (i := 1) dX9_sizeOf_7 rfl rfl (q := 8) rfl ?_
  refine z_callVF (As := [_]) dX9_sizeOf_8 kX9_97 (c_X9_noShape_out hR0 h) (wm _ _ _) rfl rfl (zle rfl) ⟨zle rfl, zle rfl⟩ ⟨zle rfl, zle rfl⟩ (q := 11) rfl ?_
  refine z_iconst (v := 1) dX9_sizeOf_11 rfl (q := 12) rfl ?_
  refine z_callVF (As := [_, _]) dX9_sizeOf_12 kX9_89 (c_X9_fails_t rfl (by decide)) (wm _ _ _) rfl rfl (zle rfl) ⟨zle rfl, zle rfl⟩ ⟨zle rfl, zle rfl⟩ (q := 15) rfl ?_
  refine z_if_ne (tgt := 39) dX9_sizeOf_15 (by decide) (q := 18) rfl (fun h15 => ?_) (fun h15 => absurd h15 (by decide))
  refine z_iconst (v := 0) dX9_sizeOf_39 rfl (q := 40) rfl ?_
  refine z_goto (tgt := 52) dX9_sizeOf_40 (by decide) ?_
  exact z_iret dX9_sizeOf_52 rfl ⟨zle rfl, zle rfl⟩ ⟨rfl, rfl⟩
set_option maxRecDepth 100000 in
set_option maxHeartbeats 4000000 in
theorem c_X9_sizeOf_ax {n nw k : Nat} (hR : rel X Y n nw) (hk : k < n) {c : Int32} (h1 : ¬ c = 120) (h2 : ¬ c = 121) : ZM G mX9_sizeOf 2 0 0 [.ref 77, .int (nI k), .int c] (zw X1 Y O) (mR X1 O (0) (yth Y 2)) := by
  have h4 := rel_4 hR
  have hR0 : rel X (yint Y 0 0) n nw := rel_thr hR 0
  refine ZM.go pX9 rfl rfl (zle rfl) (zl := [some (.ref 77), some (.int (nI k)), some (.int c)]) rfl ?_
  refine z_aload_n (i := 0) dX9_sizeOf_0 rfl rfl (q := 1) rfl ?_
  refine z_iconst (v := 0) dX9_sizeOf_1 rfl (q := 2) rfl ?_
  refine z_put dX9_sizeOf_2 fX9_60 (wm _ _ _) (zle rfl) (zfit_int _) (q := 5) rfl ?_
  refine Z.eqw (wmi_thrown _ _ _ _) ?_
  refine z_aload_n (i := 0) dX9_sizeOf_5 rfl rfl (q := 6) rfl ?_
  refine z_aload_n (i := 0) dX9_sizeOf_6 rfl rfl (q := 7) rfl ?_
  refine z_iload_n (i := 1) dX9_sizeOf_7 rfl rfl (q := 8) rfl ?_
  refine z_callVF (As := [_]) dX9_sizeOf_8 kX9_97 (c_X9_noShape_in hR0 hk) (wm _ _ _) rfl rfl (zle rfl) ⟨zle rfl, zle rfl⟩ ⟨zle rfl, zle rfl⟩ (q := 11) rfl ?_
  refine z_iconst (v := 1) dX9_sizeOf_11 rfl (q := 12) rfl ?_
  refine z_callVF (As := [_, _]) dX9_sizeOf_12 kX9_89 (c_X9_fails_f rfl) (wm _ _ _) rfl rfl (zle rfl) ⟨zle rfl, zle rfl⟩ ⟨zle rfl, zle rfl⟩ (q := 15) rfl ?_
  refine z_if_ne (tgt := 39) dX9_sizeOf_15 (by decide) (q := 18) rfl (fun h15 => absurd h15 (by decide)) (fun h15 => ?_)
  refine z_aload_n (i := 0) dX9_sizeOf_18 rfl rfl (q := 19) rfl ?_
  refine z_iload_n (i := 2) dX9_sizeOf_19 rfl rfl (q := 20) rfl ?_
  refine z_callSF (As := [_]) dX9_sizeOf_20 kX9_101 (c_X9_axisOf_no h1 h2) rfl (zle rfl) ⟨zle rfl, zle rfl⟩ ⟨zle rfl, zle rfl⟩ (q := 23) rfl ?_
  refine z_iconst (v := (-1)) dX9_sizeOf_23 rfl (q := 24) rfl ?_
  refine z_icmp_ne (tgt := 31) dX9_sizeOf_24 (by decide) (q := 27) rfl (fun h24 => absurd h24 (by decide)) (fun h24 => ?_)
  refine z_iconst (v := 1) dX9_sizeOf_27 rfl (q := 28) rfl ?_
  refine z_goto (tgt := 32) dX9_sizeOf_28 (by decide) ?_
  refine z_iconst (v := 2) dX9_sizeOf_32 rfl (q := 33) rfl ?_
  refine z_callVF (As := [_, _]) dX9_sizeOf_33 kX9_89 (c_X9_fails_t rfl (by decide)) (wm _ _ _) rfl rfl (zle rfl) ⟨zle rfl, zle rfl⟩ ⟨zle rfl, zle rfl⟩ (q := 36) rfl ?_
  refine z_if_eq (tgt := 43) dX9_sizeOf_36 (by decide) (q := 39) rfl (fun h36 => absurd h36 (by decide)) (fun h36 => ?_)
  refine z_iconst (v := 0) dX9_sizeOf_39 rfl (q := 40) rfl ?_
  refine z_goto (tgt := 52) dX9_sizeOf_40 (by decide) ?_
  exact z_iret dX9_sizeOf_52 rfl ⟨zle rfl, zle rfl⟩ ⟨rfl, rfl⟩
set_option maxRecDepth 100000 in
set_option maxHeartbeats 4000000 in
theorem c_X9_moveReason {n nw k : Nat} (hR : rel X Y n nw) (hk : k < n) {l t : Int32} : ZM G mX9_moveReason 3 0 0 [.ref 77, .int (nI k), .int l, .int t] (zw X1 Y O) (mR X1 O (mvh X n k l t) (yint Y 0 0)) := by
  have h4 := rel_4 hR
  have hR0 : rel X (yint Y 0 0) n nw := rel_thr hR 0
  refine ZM.go pX9 rfl rfl (zle rfl) (zl := [some (.ref 77), some (.int (nI k)), some (.int l), some (.int t)]) rfl ?_
  refine z_aload_n (i := 0) dX9_moveReason_0 rfl rfl (q := 1) rfl ?_
  refine z_iconst (v := 0) dX9_moveReason_1 rfl (q := 2) rfl ?_
  refine z_put dX9_moveReason_2 fX9_60 (wm _ _ _) (zle rfl) (zfit_int _) (q := 5) rfl ?_
  refine Z.eqw (wmi_thrown _ _ _ _) ?_
  refine z_aload_n (i := 0) dX9_moveReason_5 rfl rfl (q := 6) rfl ?_
  refine z_aload_n (i := 0) dX9_moveReason_6 rfl rfl (q := 7) rfl ?_
  refine z_iload_n (i := 1) dX9_moveReason_7 rfl rfl (q := 8) rfl ?_
  refine z_callVF (As := [_]) dX9_moveReason_8 kX9_97 (c_X9_noShape_in hR0 hk) (wm _ _ _) rfl rfl (zle rfl) ⟨zle rfl, zle rfl⟩ ⟨zle rfl, zle rfl⟩ (q := 11) rfl ?_
  refine z_iconst (v := 1) dX9_moveReason_11 rfl (q := 12) rfl ?_
  refine z_callVF (As := [_, _]) dX9_moveReason_12 kX9_89 (c_X9_fails_f rfl) (wm _ _ _) rfl rfl (zle rfl) ⟨zle rfl, zle rfl⟩ ⟨zle rfl, zle rfl⟩ (q := 15) rfl ?_
  refine z_if_eq (tgt := 22) dX9_moveReason_15 (by decide) (q := 18) rfl (fun h15 => ?_) (fun h15 => absurd h15 (by decide))
  refine z_aload_n (i := 0) dX9_moveReason_22 rfl rfl (q := 23) rfl ?_
  refine z_iload_n (i := 1) dX9_moveReason_23 rfl rfl (q := 24) rfl ?_
  refine z_iload_n (i := 2) dX9_moveReason_24 rfl rfl (q := 25) rfl ?_
  refine z_iload_n (i := 3) dX9_moveReason_25 rfl rfl (q := 26) rfl ?_
  refine z_callVF (As := [_, _, _]) dX9_moveReason_26 kX9_105 (c_X9_moveNow hR0 hk) (wm _ _ _) rfl rfl (zle rfl) ⟨zle rfl, zle rfl⟩ ⟨zle rfl, zle rfl⟩ (q := 29) rfl ?_
  exact z_zret dX9_moveReason_29 rfl (by unfold mvh; repeat (first | rfl | split)) ⟨zle rfl, zle rfl⟩ ⟨rfl, rfl⟩
set_option maxRecDepth 100000 in
set_option maxHeartbeats 4000000 in
theorem c_X9_moveReason_out {n nw : Nat} {s : Int32} (hR : rel X Y n nw) (h : s < 0 ∨ nI n ≤ s) {l t : Int32} : ZM G mX9_moveReason 3 0 0 [.ref 77, .int s, .int l, .int t] (zw X1 Y O) (mR X1 O (0) (yth Y 1)) := by
  have h4 := rel_4 hR
  have hR0 : rel X (yint Y 0 0) n nw := rel_thr hR 0
  refine ZM.go pX9 rfl rfl (zle rfl) (zl := [some (.ref 77), some (.int s), some (.int l), some (.int t)]) rfl ?_
  refine z_aload_n (i := 0) dX9_moveReason_0 rfl rfl (q := 1) rfl ?_
  refine z_iconst (v := 0) dX9_moveReason_1 rfl (q := 2) rfl ?_
  refine z_put dX9_moveReason_2 fX9_60 (wm _ _ _) (zle rfl) (zfit_int _) (q := 5) rfl ?_
  refine Z.eqw (wmi_thrown _ _ _ _) ?_
  refine z_aload_n (i := 0) dX9_moveReason_5 rfl rfl (q := 6) rfl ?_
  refine z_aload_n (i := 0) dX9_moveReason_6 rfl rfl (q := 7) rfl ?_
  refine z_iload_n (i := 1) dX9_moveReason_7 rfl rfl (q := 8) rfl ?_
  refine z_callVF (As := [_]) dX9_moveReason_8 kX9_97 (c_X9_noShape_out hR0 h) (wm _ _ _) rfl rfl (zle rfl) ⟨zle rfl, zle rfl⟩ ⟨zle rfl, zle rfl⟩ (q := 11) rfl ?_
  refine z_iconst (v := 1) dX9_moveReason_11 rfl (q := 12) rfl ?_
  refine z_callVF (As := [_, _]) dX9_moveReason_12 kX9_89 (c_X9_fails_t rfl (by decide)) (wm _ _ _) rfl rfl (zle rfl) ⟨zle rfl, zle rfl⟩ ⟨zle rfl, zle rfl⟩ (q := 15) rfl ?_
  refine z_if_eq (tgt := 22) dX9_moveReason_15 (by decide) (q := 18) rfl (fun h15 => absurd h15 (by decide)) (fun h15 => ?_)
  refine z_iconst (v := 0) dX9_moveReason_18 rfl (q := 19) rfl ?_
  refine z_goto (tgt := 29) dX9_moveReason_19 (by decide) ?_
  exact z_zret dX9_moveReason_29 rfl (by first | rfl | assumption | decide) ⟨zle rfl, zle rfl⟩ ⟨rfl, rfl⟩
set_option maxRecDepth 100000 in
set_option maxHeartbeats 4000000 in
def B_moveTo (X : zX) (Y : zY) (n k : Nat) (l t : Int32) : Int32 × zY :=
  if mvh X n k l t = 108 then (0, yth Y 2) else if mvh X n k l t = 115 then (0, yth Y 3) else if mvh X n k l t = 111 then (0, yth Y 4)
  else (iabs (l - X.2.1 0 k) + iabs (t - X.2.1 2 k), ymv (yarr (yint Y 0 0) 0 (upd (upd (Y.1 0) (2 * k) l) (2 * k + 1) t)) (Y.2.2 + (iabs (l - X.2.1 0 k) + iabs (t - X.2.1 2 k)).toInt64))
set_option maxRecDepth 100000 in
set_option maxHeartbeats 4000000 in
theorem yarr_yarr (Y : zY) (j : Nat) (f g : Nat → Int32) : yarr (yarr Y j f) j g = yarr Y j g := by unfold yarr; rw [bx_uu]
set_option maxRecDepth 100000 in
set_option maxHeartbeats 4000000 in
theorem yarr_f (Y : zY) (j : Nat) (f : Nat → Int32) : (yarr Y j f).1 j = f := if_pos rfl
set_option maxRecDepth 100000 in
set_option maxHeartbeats 4000000 in
theorem ix1 (k : Nat) : (2 : Int32) * nI k = nI (2 * k) := by rw [show (2 : Int32) = nI 2 from rfl, nI_mul]
set_option maxRecDepth 100000 in
set_option maxHeartbeats 4000000 in
theorem ix21 (k : Nat) : (2 : Int32) * nI k + 1 = nI (2 * k + 1) := ix2 k 1
set_option maxRecDepth 100000 in
set_option maxHeartbeats 4000000 in
theorem c_X9_moveTo {n nw k : Nat} (hR : rel X Y n nw) (hk : k < n) {l t : Int32} : ZM G mX9_moveTo 3 0 0 [.ref 77, .int (nI k), .int l, .int t] (zw X1 Y O) (mR X1 O (B_moveTo X Y n k l t).1 (B_moveTo X Y n k l t).2) := by
  have h4 := rel_4 hR
  have hR0 : rel X (yint Y 0 0) n nw := rel_thr hR 0
  refine ZM.go pX9 rfl rfl (zle rfl) (zl := [some (.ref 77), some (.int (nI k)), some (.int l), some (.int t), none, none]) rfl ?_
  refine z_aload_n (i := 0) dX9_moveTo_0 rfl rfl (q := 1) rfl ?_
  refine z_iconst (v := 0) dX9_moveTo_1 rfl (q := 2) rfl ?_
  refine z_put dX9_moveTo_2 fX9_60 (wm _ _ _) (zle rfl) (zfit_int _) (q := 5) rfl ?_
  refine Z.eqw (wmi_thrown _ _ _ _) ?_
  refine z_aload_n (i := 0) dX9_moveTo_5 rfl rfl (q := 6) rfl ?_
  refine z_aload_n (i := 0) dX9_moveTo_6 rfl rfl (q := 7) rfl ?_
  refine z_iload_n (i := 1) dX9_moveTo_7 rfl rfl (q := 8) rfl ?_
  refine z_callVF (As := [_]) dX9_moveTo_8 kX9_97 (c_X9_noShape_in hR0 hk) (wm _ _ _) rfl rfl (zle rfl) ⟨zle rfl, zle rfl⟩ ⟨zle rfl, zle rfl⟩ (q := 11) rfl ?_
  refine z_iconst (v := 1) dX9_moveTo_11 rfl (q := 12) rfl ?_
  refine z_callVF (As := [_, _]) dX9_moveTo_12 kX9_89 (c_X9_fails_f rfl) (wm _ _ _) rfl rfl (zle rfl) ⟨zle rfl, zle rfl⟩ ⟨zle rfl, zle rfl⟩ (q := 15) rfl ?_
  refine z_if_eq (tgt := 20) dX9_moveTo_15 (by decide) (q := 18) rfl (fun h15 => ?_) (fun h15 => absurd h15 (by decide))
  refine z_aload_n (i := 0) dX9_moveTo_20 rfl rfl (q := 21) rfl ?_
  refine z_iload_n (i := 1) dX9_moveTo_21 rfl rfl (q := 22) rfl ?_
  refine z_iload_n (i := 2) dX9_moveTo_22 rfl rfl (q := 23) rfl ?_
  refine z_iload_n (i := 3) dX9_moveTo_23 rfl rfl (q := 24) rfl ?_
  refine z_callVF (As := [_, _, _]) dX9_moveTo_24 kX9_105 (c_X9_moveNow hR0 hk) (wm _ _ _) rfl rfl (zle rfl) ⟨zle rfl, zle rfl⟩ ⟨zle rfl, zle rfl⟩ (q := 27) rfl ?_
  refine z_istore dX9_moveTo_27 (zle rfl) rfl (q := 29) rfl ?_
  refine z_aload_n (i := 0) dX9_moveTo_29 rfl rfl (q := 30) rfl ?_
  refine z_iload dX9_moveTo_30 rfl (q := 32) rfl ?_
  refine z_bipush (v := 108) dX9_moveTo_32 rfl (q := 34) rfl ?_
  refine z_icmp_ne (tgt := 41) dX9_moveTo_34 (by decide) (q := 37) rfl (fun h34 => ?_) (fun h34 => ?_)
  · refine z_iconst (v := 0) dX9_moveTo_41 rfl (q := 42) rfl ?_
    refine z_iconst (v := 2) dX9_moveTo_42 rfl (q := 43) rfl ?_
    refine z_callVF (As := [_, _]) dX9_moveTo_43 kX9_89 (c_X9_fails_f rfl) (wm _ _ _) rfl rfl (zle rfl) ⟨zle rfl, zle rfl⟩ ⟨zle rfl, zle rfl⟩ (q := 46) rfl ?_
    refine z_if_ne (tgt := 89) dX9_moveTo_46 (by decide) (q := 49) rfl (fun h46 => absurd h46 (by decide)) (fun h46 => ?_)
    refine z_aload_n (i := 0) dX9_moveTo_49 rfl rfl (q := 50) rfl ?_
    refine z_iload dX9_moveTo_50 rfl (q := 52) rfl ?_
    refine z_bipush (v := 115) dX9_moveTo_52 rfl (q := 54) rfl ?_
    refine z_icmp_ne (tgt := 61) dX9_moveTo_54 (by decide) (q := 57) rfl (fun h54 => ?_) (fun h54 => ?_)
    · refine z_iconst (v := 0) dX9_moveTo_61 rfl (q := 62) rfl ?_
      refine z_iconst (v := 3) dX9_moveTo_62 rfl (q := 63) rfl ?_
      refine z_callVF (As := [_, _]) dX9_moveTo_63 kX9_89 (c_X9_fails_f rfl) (wm _ _ _) rfl rfl (zle rfl) ⟨zle rfl, zle rfl⟩ ⟨zle rfl, zle rfl⟩ (q := 66) rfl ?_
      refine z_if_ne (tgt := 89) dX9_moveTo_66 (by decide) (q := 69) rfl (fun h66 => absurd h66 (by decide)) (fun h66 => ?_)
      refine z_aload_n (i := 0) dX9_moveTo_69 rfl rfl (q := 70) rfl ?_
      refine z_iload dX9_moveTo_70 rfl (q := 72) rfl ?_
      refine z_bipush (v := 111) dX9_moveTo_72 rfl (q := 74) rfl ?_
      refine z_icmp_ne (tgt := 81) dX9_moveTo_74 (by decide) (q := 77) rfl (fun h74 => ?_) (fun h74 => ?_)
      · refine z_iconst (v := 0) dX9_moveTo_81 rfl (q := 82) rfl ?_
        refine z_iconst (v := 4) dX9_moveTo_82 rfl (q := 83) rfl ?_
        refine z_callVF (As := [_, _]) dX9_moveTo_83 kX9_89 (c_X9_fails_f rfl) (wm _ _ _) rfl rfl (zle rfl) ⟨zle rfl, zle rfl⟩ ⟨zle rfl, zle rfl⟩ (q := 86) rfl ?_
        refine z_if_eq (tgt := 91) dX9_moveTo_86 (by decide) (q := 89) rfl (fun h86 => ?_) (fun h86 => absurd h86 (by decide))
        refine z_iload_n (i := 2) dX9_moveTo_91 rfl rfl (q := 92) rfl ?_
        refine z_aload_n (i := 0) dX9_moveTo_92 rfl rfl (q := 93) rfl ?_
        refine z_iload_n (i := 1) dX9_moveTo_93 rfl rfl (q := 94) rfl ?_
        refine z_iconst (v := 0) dX9_moveTo_94 rfl (q := 95) rfl ?_
        refine z_callVF (As := [_, _]) dX9_moveTo_95 kX9_75 (c_X9_at0 hR0 (by omega)) (wm _ _ _) rfl rfl (zle rfl) ⟨zle rfl, zle rfl⟩ ⟨zle rfl, zle rfl⟩ (q := 98) rfl ?_
        refine z_isub dX9_moveTo_98 (q := 99) rfl ?_
        refine z_callSF (As := [_]) dX9_moveTo_99 kX9_109 (c_X9_without ) rfl (zle rfl) ⟨zle rfl, zle rfl⟩ ⟨zle rfl, zle rfl⟩ (q := 102) rfl ?_
        refine z_iload_n (i := 3) dX9_moveTo_102 rfl rfl (q := 103) rfl ?_
        refine z_aload_n (i := 0) dX9_moveTo_103 rfl rfl (q := 104) rfl ?_
        refine z_iload_n (i := 1) dX9_moveTo_104 rfl rfl (q := 105) rfl ?_
        refine z_iconst (v := 1) dX9_moveTo_105 rfl (q := 106) rfl ?_
        refine z_callVF (As := [_, _]) dX9_moveTo_106 kX9_75 (c_X9_at1 hR0 (by omega)) (wm _ _ _) rfl rfl (zle rfl) ⟨zle rfl, zle rfl⟩ ⟨zle rfl, zle rfl⟩ (q := 109) rfl ?_
        refine z_isub dX9_moveTo_109 (q := 110) rfl ?_
        refine z_callSF (As := [_]) dX9_moveTo_110 kX9_109 (c_X9_without ) rfl (zle rfl) ⟨zle rfl, zle rfl⟩ ⟨zle rfl, zle rfl⟩ (q := 113) rfl ?_
        refine z_iadd dX9_moveTo_113 (q := 114) rfl ?_
        refine z_istore dX9_moveTo_114 (zle rfl) rfl (q := 116) rfl ?_
        refine z_aload_n (i := 0) dX9_moveTo_116 rfl rfl (q := 117) rfl ?_
        refine z_get dX9_moveTo_117 fX9_7 (wm _ _ _) rfl (q := 120) rfl ?_
        refine z_iconst (v := 2) dX9_moveTo_120 rfl (q := 121) rfl ?_
        refine z_iload_n (i := 1) dX9_moveTo_121 rfl rfl (q := 122) rfl ?_
        refine z_imul dX9_moveTo_122 (q := 123) rfl ?_
        refine z_iload_n (i := 2) dX9_moveTo_123 rfl rfl (q := 124) rfl ?_
        rw [ix1]
        refine z_iast dX9_moveTo_124 (wma_start _ _ _) (zin (k := 2 * k) (by omega) (by decide)) (q := 125) rfl ?_
        refine Z.eqw (wms_start _ _ _ _) ?_
        refine z_aload_n (i := 0) dX9_moveTo_125 rfl rfl (q := 126) rfl ?_
        refine z_get dX9_moveTo_126 fX9_7 (wm _ _ _) rfl (q := 129) rfl ?_
        refine z_iconst (v := 2) dX9_moveTo_129 rfl (q := 130) rfl ?_
        refine z_iload_n (i := 1) dX9_moveTo_130 rfl rfl (q := 131) rfl ?_
        refine z_imul dX9_moveTo_131 (q := 132) rfl ?_
        refine z_iconst (v := 1) dX9_moveTo_132 rfl (q := 133) rfl ?_
        refine z_iadd dX9_moveTo_133 (q := 134) rfl ?_
        refine z_iload_n (i := 3) dX9_moveTo_134 rfl rfl (q := 135) rfl ?_
        rw [ix21]
        refine z_iast dX9_moveTo_135 (wma_start _ _ _) (zin (k := 2 * k + 1) (by omega) (by decide)) (q := 136) rfl ?_
        refine Z.eqw (wms_start _ _ _ _) ?_
        refine z_aload_n (i := 0) dX9_moveTo_136 rfl rfl (q := 137) rfl ?_
        refine z_dup dX9_moveTo_137 rfl (q := 138) rfl ?_
        refine z_get dX9_moveTo_138 fX9_112 (wm _ _ _) rfl (q := 141) rfl ?_
        refine z_iload dX9_moveTo_141 rfl (q := 143) rfl ?_
        refine z_i2l dX9_moveTo_143 (q := 144) rfl ?_
        refine z_ladd dX9_moveTo_144 (q := 145) rfl ?_
        refine z_put dX9_moveTo_145 fX9_112 (wm _ _ _) (zle rfl) (zfit_long _) (q := 148) rfl ?_
        refine Z.eqw (wmi_moved _ _ _ _) ?_
        refine z_iload dX9_moveTo_148 rfl (q := 150) rfl ?_
        exact z_iret dX9_moveTo_150 rfl ⟨zle rfl, zle rfl⟩ ⟨by simp_all [B_moveTo], by rw [yarr_f, yarr_yarr, nI_clamp (by omega), nI_clamp (by omega)]; simp_all [B_moveTo, yarr_f]; rfl⟩
      · refine z_iconst (v := 1) dX9_moveTo_77 rfl (q := 78) rfl ?_
        refine z_goto (tgt := 82) dX9_moveTo_78 (by decide) ?_
        refine z_iconst (v := 4) dX9_moveTo_82 rfl (q := 83) rfl ?_
        refine z_callVF (As := [_, _]) dX9_moveTo_83 kX9_89 (c_X9_fails_t rfl (by decide)) (wm _ _ _) rfl rfl (zle rfl) ⟨zle rfl, zle rfl⟩ ⟨zle rfl, zle rfl⟩ (q := 86) rfl ?_
        refine z_if_eq (tgt := 91) dX9_moveTo_86 (by decide) (q := 89) rfl (fun h86 => absurd h86 (by decide)) (fun h86 => ?_)
        refine z_iconst (v := 0) dX9_moveTo_89 rfl (q := 90) rfl ?_
        exact z_iret dX9_moveTo_90 rfl ⟨zle rfl, zle rfl⟩ (by constructor <;> simp_all [B_moveTo, -Int32.not_le, -Int32.not_lt])
    · refine z_iconst (v := 1) dX9_moveTo_57 rfl (q := 58) rfl ?_
      refine z_goto (tgt := 62) dX9_moveTo_58 (by decide) ?_
      refine z_iconst (v := 3) dX9_moveTo_62 rfl (q := 63) rfl ?_
      refine z_callVF (As := [_, _]) dX9_moveTo_63 kX9_89 (c_X9_fails_t rfl (by decide)) (wm _ _ _) rfl rfl (zle rfl) ⟨zle rfl, zle rfl⟩ ⟨zle rfl, zle rfl⟩ (q := 66) rfl ?_
      refine z_if_ne (tgt := 89) dX9_moveTo_66 (by decide) (q := 69) rfl (fun h66 => ?_) (fun h66 => absurd h66 (by decide))
      refine z_iconst (v := 0) dX9_moveTo_89 rfl (q := 90) rfl ?_
      exact z_iret dX9_moveTo_90 rfl ⟨zle rfl, zle rfl⟩ (by constructor <;> simp_all [B_moveTo, -Int32.not_le, -Int32.not_lt])
  · refine z_iconst (v := 1) dX9_moveTo_37 rfl (q := 38) rfl ?_
    refine z_goto (tgt := 42) dX9_moveTo_38 (by decide) ?_
    refine z_iconst (v := 2) dX9_moveTo_42 rfl (q := 43) rfl ?_
    refine z_callVF (As := [_, _]) dX9_moveTo_43 kX9_89 (c_X9_fails_t rfl (by decide)) (wm _ _ _) rfl rfl (zle rfl) ⟨zle rfl, zle rfl⟩ ⟨zle rfl, zle rfl⟩ (q := 46) rfl ?_
    refine z_if_ne (tgt := 89) dX9_moveTo_46 (by decide) (q := 49) rfl (fun h46 => ?_) (fun h46 => absurd h46 (by decide))
    refine z_iconst (v := 0) dX9_moveTo_89 rfl (q := 90) rfl ?_
    exact z_iret dX9_moveTo_90 rfl ⟨zle rfl, zle rfl⟩ (by constructor <;> simp_all [B_moveTo, -Int32.not_le, -Int32.not_lt])
set_option maxRecDepth 100000 in
set_option maxHeartbeats 4000000 in
theorem c_X9_moveTo_out {n nw : Nat} {s : Int32} (hR : rel X Y n nw) (h : s < 0 ∨ nI n ≤ s) {l t : Int32} : ZM G mX9_moveTo 3 0 0 [.ref 77, .int s, .int l, .int t] (zw X1 Y O) (mR X1 O (0) (yth Y 1)) := by
  have h4 := rel_4 hR
  have hR0 : rel X (yint Y 0 0) n nw := rel_thr hR 0
  refine ZM.go pX9 rfl rfl (zle rfl) (zl := [some (.ref 77), some (.int s), some (.int l), some (.int t), none, none]) rfl ?_
  refine z_aload_n (i := 0) dX9_moveTo_0 rfl rfl (q := 1) rfl ?_
  refine z_iconst (v := 0) dX9_moveTo_1 rfl (q := 2) rfl ?_
  refine z_put dX9_moveTo_2 fX9_60 (wm _ _ _) (zle rfl) (zfit_int _) (q := 5) rfl ?_
  refine Z.eqw (wmi_thrown _ _ _ _) ?_
  refine z_aload_n (i := 0) dX9_moveTo_5 rfl rfl (q := 6) rfl ?_
  refine z_aload_n (i := 0) dX9_moveTo_6 rfl rfl (q := 7) rfl ?_
  refine z_iload_n (i := 1) dX9_moveTo_7 rfl rfl (q := 8) rfl ?_
  refine z_callVF (As := [_]) dX9_moveTo_8 kX9_97 (c_X9_noShape_out hR0 h) (wm _ _ _) rfl rfl (zle rfl) ⟨zle rfl, zle rfl⟩ ⟨zle rfl, zle rfl⟩ (q := 11) rfl ?_
  refine z_iconst (v := 1) dX9_moveTo_11 rfl (q := 12) rfl ?_
  refine z_callVF (As := [_, _]) dX9_moveTo_12 kX9_89 (c_X9_fails_t rfl (by decide)) (wm _ _ _) rfl rfl (zle rfl) ⟨zle rfl, zle rfl⟩ ⟨zle rfl, zle rfl⟩ (q := 15) rfl ?_
  refine z_if_eq (tgt := 20) dX9_moveTo_15 (by decide) (q := 18) rfl (fun h15 => absurd h15 (by decide)) (fun h15 => ?_)
  refine z_iconst (v := 0) dX9_moveTo_18 rfl (q := 19) rfl ?_
  exact z_iret dX9_moveTo_19 rfl ⟨zle rfl, zle rfl⟩ ⟨rfl, rfl⟩
set_option maxRecDepth 100000 in
set_option maxHeartbeats 4000000 in
theorem zb_nar {p : Prop} [Decidable p] : vp_nar .boolean (zb p) = zb p := by
  unfold zb; split <;> decide
set_option maxRecDepth 100000 in
set_option maxHeartbeats 4000000 in
theorem c_X9_setLocked {n nw k : Nat} (hR : rel X Y n nw) (hk : k < n) {p : Prop} [Decidable p] (hl : X.2.1 4 k = 0 ∨ X.2.1 4 k = 1) : ZM G mX9_setLocked 2 0 0 [.ref 77, .int (nI k), .int (zb p)] (zw X1 Y O) (mR X1 O (X.2.1 4 k) (yarr (yint Y 0 0) 3 (upd (Y.1 3) k (zb p)))) := by
  have h4 := rel_4 hR
  have hR0 : rel X (yint Y 0 0) n nw := rel_thr hR 0
  refine ZM.go pX9 rfl rfl (zle rfl) (zl := [some (.ref 77), some (.int (nI k)), some (.int (zb p)), none]) rfl ?_
  refine z_aload_n (i := 0) dX9_setLocked_0 rfl rfl (q := 1) rfl ?_
  refine z_iconst (v := 0) dX9_setLocked_1 rfl (q := 2) rfl ?_
  refine z_put dX9_setLocked_2 fX9_60 (wm _ _ _) (zle rfl) (zfit_int _) (q := 5) rfl ?_
  refine Z.eqw (wmi_thrown _ _ _ _) ?_
  refine z_aload_n (i := 0) dX9_setLocked_5 rfl rfl (q := 6) rfl ?_
  refine z_aload_n (i := 0) dX9_setLocked_6 rfl rfl (q := 7) rfl ?_
  refine z_iload_n (i := 1) dX9_setLocked_7 rfl rfl (q := 8) rfl ?_
  refine z_callVF (As := [_]) dX9_setLocked_8 kX9_97 (c_X9_noShape_in hR0 hk) (wm _ _ _) rfl rfl (zle rfl) ⟨zle rfl, zle rfl⟩ ⟨zle rfl, zle rfl⟩ (q := 11) rfl ?_
  refine z_iconst (v := 1) dX9_setLocked_11 rfl (q := 12) rfl ?_
  refine z_callVF (As := [_, _]) dX9_setLocked_12 kX9_89 (c_X9_fails_f rfl) (wm _ _ _) rfl rfl (zle rfl) ⟨zle rfl, zle rfl⟩ ⟨zle rfl, zle rfl⟩ (q := 15) rfl ?_
  refine z_if_eq (tgt := 20) dX9_setLocked_15 (by decide) (q := 18) rfl (fun h15 => ?_) (fun h15 => absurd h15 (by decide))
  refine z_aload_n (i := 0) dX9_setLocked_20 rfl rfl (q := 21) rfl ?_
  refine z_get dX9_setLocked_21 fX9_19 (wm _ _ _) rfl (q := 24) rfl ?_
  refine z_iload_n (i := 1) dX9_setLocked_24 rfl rfl (q := 25) rfl ?_
  refine z_zald dX9_setLocked_25 (wma_isLocked _ _ _) (zin (by omega) (by decide)) (q := 26) rfl ?_
  rw [nI_clamp (by omega), (hR0.2.2.1 k hk).2.2.2.2.2]
  refine z_istore_n (i := 3) dX9_setLocked_26 rfl (zle rfl) rfl (q := 27) rfl ?_
  refine z_aload_n (i := 0) dX9_setLocked_27 rfl rfl (q := 28) rfl ?_
  refine z_get dX9_setLocked_28 fX9_19 (wm _ _ _) rfl (q := 31) rfl ?_
  refine z_iload_n (i := 1) dX9_setLocked_31 rfl rfl (q := 32) rfl ?_
  refine z_iload_n (i := 2) dX9_setLocked_32 rfl rfl (q := 33) rfl ?_
  refine z_zast dX9_setLocked_33 (wma_isLocked _ _ _) (zin (by omega) (by decide)) (q := 34) rfl ?_
  refine Z.eqw (wms_isLocked _ _ _ _) ?_
  rw [nI_clamp (by omega), zb_nar]
  refine z_iload_n (i := 3) dX9_setLocked_34 rfl rfl (q := 35) rfl ?_
  exact z_zret dX9_setLocked_35 rfl (by rcases hl with h9 | h9 <;> rw [h9] <;> rfl) ⟨zle rfl, zle rfl⟩ ⟨rfl, rfl⟩
set_option maxRecDepth 100000 in
set_option maxHeartbeats 4000000 in
theorem c_X9_setLocked_out {n nw : Nat} {s : Int32} (hR : rel X Y n nw) (h : s < 0 ∨ nI n ≤ s) {b : Int32} : ZM G mX9_setLocked 2 0 0 [.ref 77, .int s, .int b] (zw X1 Y O) (mR X1 O (0) (yth Y 1)) := by
  have h4 := rel_4 hR
  have hR0 : rel X (yint Y 0 0) n nw := rel_thr hR 0
  refine ZM.go pX9 rfl rfl (zle rfl) (zl := [some (.ref 77), some (.int s), some (.int b), none]) rfl ?_
  refine z_aload_n (i := 0) dX9_setLocked_0 rfl rfl (q := 1) rfl ?_
  refine z_iconst (v := 0) dX9_setLocked_1 rfl (q := 2) rfl ?_
  refine z_put dX9_setLocked_2 fX9_60 (wm _ _ _) (zle rfl) (zfit_int _) (q := 5) rfl ?_
  refine Z.eqw (wmi_thrown _ _ _ _) ?_
  refine z_aload_n (i := 0) dX9_setLocked_5 rfl rfl (q := 6) rfl ?_
  refine z_aload_n (i := 0) dX9_setLocked_6 rfl rfl (q := 7) rfl ?_
  refine z_iload_n (i := 1) dX9_setLocked_7 rfl rfl (q := 8) rfl ?_
  refine z_callVF (As := [_]) dX9_setLocked_8 kX9_97 (c_X9_noShape_out hR0 h) (wm _ _ _) rfl rfl (zle rfl) ⟨zle rfl, zle rfl⟩ ⟨zle rfl, zle rfl⟩ (q := 11) rfl ?_
  refine z_iconst (v := 1) dX9_setLocked_11 rfl (q := 12) rfl ?_
  refine z_callVF (As := [_, _]) dX9_setLocked_12 kX9_89 (c_X9_fails_t rfl (by decide)) (wm _ _ _) rfl rfl (zle rfl) ⟨zle rfl, zle rfl⟩ ⟨zle rfl, zle rfl⟩ (q := 15) rfl ?_
  refine z_if_eq (tgt := 20) dX9_setLocked_15 (by decide) (q := 18) rfl (fun h15 => absurd h15 (by decide)) (fun h15 => ?_)
  refine z_iconst (v := 0) dX9_setLocked_18 rfl (q := 19) rfl ?_
  exact z_zret dX9_setLocked_19 rfl (by first | rfl | assumption | decide) ⟨zle rfl, zle rfl⟩ ⟨rfl, rfl⟩
set_option maxRecDepth 100000 in
set_option maxHeartbeats 4000000 in
def B_setText (X : zX) (Y : zY) (k : Nat) (l : Int32) : Int32 × zY :=
  if ¬ (¬ l < 0 ∧ ¬ 400 < l) then (0, yth Y 2) else (zneed (X.2.1 1 k) l, yarr (yint Y 0 0) 2 (upd (Y.1 2) k l))
set_option maxRecDepth 100000 in
set_option maxHeartbeats 4000000 in
def B_grow (X : zX) (Y : zY) (n k : Nat) : Int32 × zY :=
  if grh X n k = 102 then (0, yth Y 2) else if grh X n k = 108 then (0, yth Y 3) else if ¬ grh X n k = 110 then (0, yth Y 4)
  else (zneed (X.2.1 1 k) (X.2.1 5 k), yarr (yint Y 0 0) 1 (upd (Y.1 1) (2 * k + 1) (zneed (X.2.1 1 k) (X.2.1 5 k))))
set_option maxRecDepth 100000 in
set_option maxHeartbeats 4000000 in
def B_inTheWay (X : zX) (Y : zY) (n k : Nat) : Int32 × zY :=
  if zneed (X.2.1 1 k) (X.2.1 5 k) ≤ X.2.1 3 k ∨ ¬ zon 120 (X.2.1 2 k) (zneed (X.2.1 1 k) (X.2.1 5 k)) then (0, yth Y 2)
  else if rfirst (pover X (nI k) (X.2.1 0 k) (X.2.1 2 k) (X.2.1 1 k) (zneed (X.2.1 1 k) (X.2.1 5 k))) 0 n = -1 then (0, yth Y 2)
  else (rfirst (pover X (nI k) (X.2.1 0 k) (X.2.1 2 k) (X.2.1 1 k) (zneed (X.2.1 1 k) (X.2.1 5 k))) 0 n, yint Y 0 0)
/- the slides behind setText, grow -/
set_option maxRecDepth 100000 in
set_option maxHeartbeats 4000000 in
theorem rel_text {n nw k : Nat} (hR : rel X Y n nw) (hk : k < n) (l c : Int32) : rel (xrow X 5 (upd (X.2.1 5) k l) c) (yarr (yint Y 0 0) 2 (upd (Y.1 2) k l)) n nw := by
  obtain ⟨h1, h2, h3, h4, h5, h6, h7, h8, h9⟩ := hR
  refine ⟨h1, h2, fun j hj => ?_, fun j hj hj4 => ?_, h5, h6, h7, h8, h9⟩
  · have h := h3 j hj
    refine ⟨h.1, h.2.1, h.2.2.1, h.2.2.2.1, ?_, h.2.2.2.2.2⟩
    show upd (Y.1 2) k l j = upd (X.2.1 5) k l j
    by_cases e : j = k
    · rw [e, pk_us, pk_us]
    · rw [pk_un e, pk_un e]; exact h.2.2.2.2.1
  · have h := h4 j hj hj4
    refine ⟨?_, h.2⟩
    show upd (Y.1 2) k l j = 0
    rw [pk_un (by omega)]; exact h.1
set_option maxRecDepth 100000 in
set_option maxHeartbeats 4000000 in
theorem rel_grow {n nw k : Nat} (hR : rel X Y n nw) (hk : k < n) (v c : Int32) : rel (xrow X 3 (upd (X.2.1 3) k v) c) (yarr (yint Y 0 0) 1 (upd (Y.1 1) (2 * k + 1) v)) n nw := by
  obtain ⟨h1, h2, h3, h4, h5, h6, h7, h8, h9⟩ := hR
  refine ⟨h1, h2, fun j hj => ?_, h4, h5, h6, h7, h8, h9⟩
  have h := h3 j hj
  refine ⟨h.1, h.2.1, ?_, ?_, h.2.2.2.2⟩
  · show upd (Y.1 1) (2 * k + 1) v (2 * j) = X.2.1 1 j
    rw [pk_un (by omega)]; exact h.2.2.1
  · show upd (Y.1 1) (2 * k + 1) v (2 * j + 1) = upd (X.2.1 3) k v j
    by_cases e : j = k
    · rw [e, pk_us, pk_us]
    · rw [pk_un (by omega), pk_un e]; exact h.2.2.2.1
set_option maxRecDepth 100000 in
set_option maxHeartbeats 4000000 in
theorem rel_lock {n nw k : Nat} (hR : rel X Y n nw) (hk : k < n) (v c : Int32) : rel (xrow X 4 (upd (X.2.1 4) k v) c) (yarr (yint Y 0 0) 3 (upd (Y.1 3) k v)) n nw := by
  obtain ⟨h1, h2, h3, h4, h5, h6, h7, h8, h9⟩ := hR
  refine ⟨h1, h2, fun j hj => ?_, fun j hj hj4 => ?_, h5, h6, h7, h8, h9⟩
  · have h := h3 j hj
    refine ⟨h.1, h.2.1, h.2.2.1, h.2.2.2.1, h.2.2.2.2.1, ?_⟩
    show upd (Y.1 3) k v j = upd (X.2.1 4) k v j
    by_cases e : j = k
    · rw [e, pk_us, pk_us]
    · rw [pk_un e, pk_un e]; exact h.2.2.2.2.2
  · have h := h4 j hj hj4
    refine ⟨h.1, ?_⟩
    show upd (Y.1 3) k v j = 0
    rw [pk_un (by omega)]; exact h.2
set_option maxRecDepth 100000 in
set_option maxHeartbeats 4000000 in
theorem rel_move {n nw k : Nat} (hR : rel X Y n nw) (hk : k < n) (l t c d : Int32) (e : Int64) : rel (xmv (xrow (xrow X 0 (upd (X.2.1 0) k l) c) 2 (upd (X.2.1 2) k t) d) e) (ymv (yarr (yint Y 0 0) 0 (upd (upd (Y.1 0) (2 * k) l) (2 * k + 1) t)) e) n nw := by
  obtain ⟨h1, h2, h3, h4, h5, h6, h7, h8, h9⟩ := hR
  refine ⟨h1, h2, fun j hj => ?_, h4, h5, h6, rfl, h8, h9⟩
  have h := h3 j hj
  refine ⟨?_, ?_, h.2.2⟩
  · show upd (upd (Y.1 0) (2 * k) l) (2 * k + 1) t (2 * j) = upd (X.2.1 0) k l j
    rw [pk_un (by omega)]
    by_cases e : j = k
    · rw [e, pk_us, pk_us]
    · rw [pk_un (by omega), pk_un e]; exact h.1
  · show upd (upd (Y.1 0) (2 * k) l) (2 * k + 1) t (2 * j + 1) = upd (X.2.1 2) k t j
    by_cases e : j = k
    · rw [e, pk_us, pk_us]
    · rw [pk_un (by omega), pk_un (by omega), pk_un e]; exact h.2.1
set_option maxRecDepth 100000 in
set_option maxHeartbeats 4000000 in
theorem c_X9_setText {n nw k : Nat} (hR : rel X Y n nw) (hk : k < n) (hw : 1 ≤ X.2.1 1 k / 2) {l : Int32} : ZM G mX9_setText 2 0 0 [.ref 77, .int (nI k), .int l] (zw X1 Y O) (mR X1 O (B_setText X Y k l).1 (B_setText X Y k l).2) := by
  have h4 := rel_4 hR
  have hR0 : rel X (yint Y 0 0) n nw := rel_thr hR 0
  refine ZM.go pX9 rfl rfl (zle rfl) (zl := [some (.ref 77), some (.int (nI k)), some (.int l)]) rfl ?_
  refine z_aload_n (i := 0) dX9_setText_0 rfl rfl (q := 1) rfl ?_
  refine z_iconst (v := 0) dX9_setText_1 rfl (q := 2) rfl ?_
  refine z_put dX9_setText_2 fX9_60 (wm _ _ _) (zle rfl) (zfit_int _) (q := 5) rfl ?_
  refine Z.eqw (wmi_thrown _ _ _ _) ?_
  refine z_aload_n (i := 0) dX9_setText_5 rfl rfl (q := 6) rfl ?_
  refine z_aload_n (i := 0) dX9_setText_6 rfl rfl (q := 7) rfl ?_
  refine z_iload_n (i := 1) dX9_setText_7 rfl rfl (q := 8) rfl ?_
  refine z_callVF (As := [_]) dX9_setText_8 kX9_97 (c_X9_noShape_in hR0 hk) (wm _ _ _) rfl rfl (zle rfl) ⟨zle rfl, zle rfl⟩ ⟨zle rfl, zle rfl⟩ (q := 11) rfl ?_
  refine z_iconst (v := 1) dX9_setText_11 rfl (q := 12) rfl ?_
  refine z_callVF (As := [_, _]) dX9_setText_12 kX9_89 (c_X9_fails_f rfl) (wm _ _ _) rfl rfl (zle rfl) ⟨zle rfl, zle rfl⟩ ⟨zle rfl, zle rfl⟩ (q := 15) rfl ?_
  refine z_if_ne (tgt := 42) dX9_setText_15 (by decide) (q := 18) rfl (fun h15 => absurd h15 (by decide)) (fun h15 => ?_)
  refine z_aload_n (i := 0) dX9_setText_18 rfl rfl (q := 19) rfl ?_
  refine z_iload_n (i := 2) dX9_setText_19 rfl rfl (q := 20) rfl ?_
  refine z_iconst (v := 0) dX9_setText_20 rfl (q := 21) rfl ?_
  refine z_sipush (v := 400) dX9_setText_21 rfl (q := 24) rfl ?_
  refine z_callSF (As := [_, _, _]) dX9_setText_24 kX9_67 (c_X9_in ) rfl (zle rfl) ⟨zle rfl, zle rfl⟩ ⟨zle rfl, zle rfl⟩ (q := 27) rfl ?_
  refine z_if_ne (tgt := 34) dX9_setText_27 (by decide) (q := 30) rfl (fun h27 => ?_) (fun h27 => ?_)
  · replace h27 := zb_1.mp h27
    refine z_iconst (v := 0) dX9_setText_34 rfl (q := 35) rfl ?_
    refine z_iconst (v := 2) dX9_setText_35 rfl (q := 36) rfl ?_
    refine z_callVF (As := [_, _]) dX9_setText_36 kX9_89 (c_X9_fails_f rfl) (wm _ _ _) rfl rfl (zle rfl) ⟨zle rfl, zle rfl⟩ ⟨zle rfl, zle rfl⟩ (q := 39) rfl ?_
    refine z_if_eq (tgt := 44) dX9_setText_39 (by decide) (q := 42) rfl (fun h39 => ?_) (fun h39 => absurd h39 (by decide))
    refine z_aload_n (i := 0) dX9_setText_44 rfl rfl (q := 45) rfl ?_
    refine z_get dX9_setText_45 fX9_16 (wm _ _ _) rfl (q := 48) rfl ?_
    refine z_iload_n (i := 1) dX9_setText_48 rfl rfl (q := 49) rfl ?_
    refine z_iload_n (i := 2) dX9_setText_49 rfl rfl (q := 50) rfl ?_
    refine z_iast dX9_setText_50 (wma_letters _ _ _) (zin (by omega) (by decide)) (q := 51) rfl ?_
    refine Z.eqw (wms_letters _ _ _ _) ?_
    rw [nI_clamp (by omega)]
    refine z_aload_n (i := 0) dX9_setText_51 rfl rfl (q := 52) rfl ?_
    refine z_iload_n (i := 1) dX9_setText_52 rfl rfl (q := 53) rfl ?_
    refine z_callVF (As := [_]) dX9_setText_53 kX9_116 (c_X9_needed (rel_text hR hk l 0) hk (show 1 ≤ X.2.1 1 k / 2 from hw)) (wm _ _ _) rfl rfl (zle rfl) ⟨zle rfl, zle rfl⟩ ⟨zle rfl, zle rfl⟩ (q := 56) rfl ?_
    exact z_iret dX9_setText_56 rfl ⟨zle rfl, zle rfl⟩ (by rw [xrow_f, pk_us]; unfold B_setText; rw [if_neg (fun h9 => h9 h27)]; exact ⟨rfl, rfl⟩)
  · replace h27 := zb_0.mp h27
    refine z_iconst (v := 1) dX9_setText_30 rfl (q := 31) rfl ?_
    refine z_goto (tgt := 35) dX9_setText_31 (by decide) ?_
    refine z_iconst (v := 2) dX9_setText_35 rfl (q := 36) rfl ?_
    refine z_callVF (As := [_, _]) dX9_setText_36 kX9_89 (c_X9_fails_t rfl (by decide)) (wm _ _ _) rfl rfl (zle rfl) ⟨zle rfl, zle rfl⟩ ⟨zle rfl, zle rfl⟩ (q := 39) rfl ?_
    refine z_if_eq (tgt := 44) dX9_setText_39 (by decide) (q := 42) rfl (fun h39 => absurd h39 (by decide)) (fun h39 => ?_)
    refine z_iconst (v := 0) dX9_setText_42 rfl (q := 43) rfl ?_
    exact z_iret dX9_setText_43 rfl ⟨zle rfl, zle rfl⟩ (by constructor <;> simp_all [B_setText, -Int32.not_le, -Int32.not_lt])
set_option maxRecDepth 100000 in
set_option maxHeartbeats 4000000 in
theorem c_X9_setText_out {n nw : Nat} {s : Int32} (hR : rel X Y n nw) (h : s < 0 ∨ nI n ≤ s) {l : Int32} : ZM G mX9_setText 2 0 0 [.ref 77, .int s, .int l] (zw X1 Y O) (mR X1 O (0) (yth Y 1)) := by
  have h4 := rel_4 hR
  have hR0 : rel X (yint Y 0 0) n nw := rel_thr hR 0
  refine ZM.go pX9 rfl rfl (zle rfl) (zl := [some (.ref 77), some (.int s), some (.int l)]) rfl ?_
  refine z_aload_n (i := 0) dX9_setText_0 rfl rfl (q := 1) rfl ?_
  refine z_iconst (v := 0) dX9_setText_1 rfl (q := 2) rfl ?_
  refine z_put dX9_setText_2 fX9_60 (wm _ _ _) (zle rfl) (zfit_int _) (q := 5) rfl ?_
  refine Z.eqw (wmi_thrown _ _ _ _) ?_
  refine z_aload_n (i := 0) dX9_setText_5 rfl rfl (q := 6) rfl ?_
  refine z_aload_n (i := 0) dX9_setText_6 rfl rfl (q := 7) rfl ?_
  refine z_iload_n (i := 1) dX9_setText_7 rfl rfl (q := 8) rfl ?_
  refine z_callVF (As := [_]) dX9_setText_8 kX9_97 (c_X9_noShape_out hR0 h) (wm _ _ _) rfl rfl (zle rfl) ⟨zle rfl, zle rfl⟩ ⟨zle rfl, zle rfl⟩ (q := 11) rfl ?_
  refine z_iconst (v := 1) dX9_setText_11 rfl (q := 12) rfl ?_
  refine z_callVF (As := [_, _]) dX9_setText_12 kX9_89 (c_X9_fails_t rfl (by decide)) (wm _ _ _) rfl rfl (zle rfl) ⟨zle rfl, zle rfl⟩ ⟨zle rfl, zle rfl⟩ (q := 15) rfl ?_
  refine z_if_ne (tgt := 42) dX9_setText_15 (by decide) (q := 18) rfl (fun h15 => ?_) (fun h15 => absurd h15 (by decide))
  refine z_iconst (v := 0) dX9_setText_42 rfl (q := 43) rfl ?_
  exact z_iret dX9_setText_43 rfl ⟨zle rfl, zle rfl⟩ ⟨rfl, rfl⟩
set_option maxRecDepth 100000 in
set_option maxHeartbeats 4000000 in
theorem c_X9_fits {n nw k : Nat} (hR : rel X Y n nw) (hk : k < n) (hw : 1 ≤ X.2.1 1 k / 2) : ZM G mX9_fits 3 0 0 [.ref 77, .int (nI k)] (zw X1 Y O) (mR X1 O (zb (zneed (X.2.1 1 k) (X.2.1 5 k) ≤ X.2.1 3 k)) (yint Y 0 0)) := by
  have h4 := rel_4 hR
  have hR0 : rel X (yint Y 0 0) n nw := rel_thr hR 0
  refine ZM.go pX9 rfl rfl (zle rfl) (zl := [some (.ref 77), some (.int (nI k))]) rfl ?_
  refine z_aload_n (i := 0) dX9_fits_0 rfl rfl (q := 1) rfl ?_
  refine z_iconst (v := 0) dX9_fits_1 rfl (q := 2) rfl ?_
  refine z_put dX9_fits_2 fX9_60 (wm _ _ _) (zle rfl) (zfit_int _) (q := 5) rfl ?_
  refine Z.eqw (wmi_thrown _ _ _ _) ?_
  refine z_aload_n (i := 0) dX9_fits_5 rfl rfl (q := 6) rfl ?_
  refine z_aload_n (i := 0) dX9_fits_6 rfl rfl (q := 7) rfl ?_
  refine z_iload_n (i := 1) dX9_fits_7 rfl rfl (q := 8) rfl ?_
  refine z_callVF (As := [_]) dX9_fits_8 kX9_97 (c_X9_noShape_in hR0 hk) (wm _ _ _) rfl rfl (zle rfl) ⟨zle rfl, zle rfl⟩ ⟨zle rfl, zle rfl⟩ (q := 11) rfl ?_
  refine z_iconst (v := 1) dX9_fits_11 rfl (q := 12) rfl ?_
  refine z_callVF (As := [_, _]) dX9_fits_12 kX9_89 (c_X9_fails_f rfl) (wm _ _ _) rfl rfl (zle rfl) ⟨zle rfl, zle rfl⟩ ⟨zle rfl, zle rfl⟩ (q := 15) rfl ?_
  refine z_if_ne (tgt := 30) dX9_fits_15 (by decide) (q := 18) rfl (fun h15 => absurd h15 (by decide)) (fun h15 => ?_)
  refine z_aload_n (i := 0) dX9_fits_18 rfl rfl (q := 19) rfl ?_
  refine z_iload_n (i := 1) dX9_fits_19 rfl rfl (q := 20) rfl ?_
  refine z_callVF (As := [_]) dX9_fits_20 kX9_119 (c_X9_fitsNow hR0 hk hw) (wm _ _ _) rfl rfl (zle rfl) ⟨zle rfl, zle rfl⟩ ⟨zle rfl, zle rfl⟩ (q := 23) rfl ?_
  refine z_if_eq (tgt := 30) dX9_fits_23 (by decide) (q := 26) rfl (fun h23 => ?_) (fun h23 => ?_)
  · replace h23 := zb_0.mp h23
    refine z_iconst (v := 0) dX9_fits_30 rfl (q := 31) rfl ?_
    exact z_zret dX9_fits_31 rfl rfl ⟨zle rfl, zle rfl⟩ (by first | exact ⟨by rw [← zb_t (by assumption)], rfl⟩ | exact ⟨by rw [← zb_f (by assumption)], rfl⟩)
  · replace h23 := zb_1.mp h23
    refine z_iconst (v := 1) dX9_fits_26 rfl (q := 27) rfl ?_
    refine z_goto (tgt := 31) dX9_fits_27 (by decide) ?_
    exact z_zret dX9_fits_31 rfl rfl ⟨zle rfl, zle rfl⟩ (by first | exact ⟨by rw [← zb_t (by assumption)], rfl⟩ | exact ⟨by rw [← zb_f (by assumption)], rfl⟩)
set_option maxRecDepth 100000 in
set_option maxHeartbeats 4000000 in
theorem c_X9_fits_out {n nw : Nat} {s : Int32} (hR : rel X Y n nw) (h : s < 0 ∨ nI n ≤ s) : ZM G mX9_fits 3 0 0 [.ref 77, .int s] (zw X1 Y O) (mR X1 O (0) (yth Y 1)) := by
  have h4 := rel_4 hR
  have hR0 : rel X (yint Y 0 0) n nw := rel_thr hR 0
  refine ZM.go pX9 rfl rfl (zle rfl) (zl := [some (.ref 77), some (.int s)]) rfl ?_
  refine z_aload_n (i := 0) dX9_fits_0 rfl rfl (q := 1) rfl ?_
  refine z_iconst (v := 0) dX9_fits_1 rfl (q := 2) rfl ?_
  refine z_put dX9_fits_2 fX9_60 (wm _ _ _) (zle rfl) (zfit_int _) (q := 5) rfl ?_
  refine Z.eqw (wmi_thrown _ _ _ _) ?_
  refine z_aload_n (i := 0) dX9_fits_5 rfl rfl (q := 6) rfl ?_
  refine z_aload_n (i := 0) dX9_fits_6 rfl rfl (q := 7) rfl ?_
  refine z_iload_n (i := 1) dX9_fits_7 rfl rfl (q := 8) rfl ?_
  refine z_callVF (As := [_]) dX9_fits_8 kX9_97 (c_X9_noShape_out hR0 h) (wm _ _ _) rfl rfl (zle rfl) ⟨zle rfl, zle rfl⟩ ⟨zle rfl, zle rfl⟩ (q := 11) rfl ?_
  refine z_iconst (v := 1) dX9_fits_11 rfl (q := 12) rfl ?_
  refine z_callVF (As := [_, _]) dX9_fits_12 kX9_89 (c_X9_fails_t rfl (by decide)) (wm _ _ _) rfl rfl (zle rfl) ⟨zle rfl, zle rfl⟩ ⟨zle rfl, zle rfl⟩ (q := 15) rfl ?_
  refine z_if_ne (tgt := 30) dX9_fits_15 (by decide) (q := 18) rfl (fun h15 => ?_) (fun h15 => absurd h15 (by decide))
  refine z_iconst (v := 0) dX9_fits_30 rfl (q := 31) rfl ?_
  exact z_zret dX9_fits_31 rfl (by first | rfl | assumption | decide) ⟨zle rfl, zle rfl⟩ ⟨rfl, rfl⟩
set_option maxRecDepth 100000 in
set_option maxHeartbeats 4000000 in
theorem c_X9_growReason {n nw k : Nat} (hR : rel X Y n nw) (hk : k < n) (hw : 1 ≤ X.2.1 1 k / 2) : ZM G mX9_growReason 4 0 0 [.ref 77, .int (nI k)] (zw X1 Y O) (mR X1 O (grh X n k) (yint Y 0 0)) := by
  have h4 := rel_4 hR
  have hR0 : rel X (yint Y 0 0) n nw := rel_thr hR 0
  refine ZM.go pX9 rfl rfl (zle rfl) (zl := [some (.ref 77), some (.int (nI k))]) rfl ?_
  refine z_aload_n (i := 0) dX9_growReason_0 rfl rfl (q := 1) rfl ?_
  refine z_iconst (v := 0) dX9_growReason_1 rfl (q := 2) rfl ?_
  refine z_put dX9_growReason_2 fX9_60 (wm _ _ _) (zle rfl) (zfit_int _) (q := 5) rfl ?_
  refine Z.eqw (wmi_thrown _ _ _ _) ?_
  refine z_aload_n (i := 0) dX9_growReason_5 rfl rfl (q := 6) rfl ?_
  refine z_aload_n (i := 0) dX9_growReason_6 rfl rfl (q := 7) rfl ?_
  refine z_iload_n (i := 1) dX9_growReason_7 rfl rfl (q := 8) rfl ?_
  refine z_callVF (As := [_]) dX9_growReason_8 kX9_97 (c_X9_noShape_in hR0 hk) (wm _ _ _) rfl rfl (zle rfl) ⟨zle rfl, zle rfl⟩ ⟨zle rfl, zle rfl⟩ (q := 11) rfl ?_
  refine z_iconst (v := 1) dX9_growReason_11 rfl (q := 12) rfl ?_
  refine z_callVF (As := [_, _]) dX9_growReason_12 kX9_89 (c_X9_fails_f rfl) (wm _ _ _) rfl rfl (zle rfl) ⟨zle rfl, zle rfl⟩ ⟨zle rfl, zle rfl⟩ (q := 15) rfl ?_
  refine z_if_eq (tgt := 22) dX9_growReason_15 (by decide) (q := 18) rfl (fun h15 => ?_) (fun h15 => absurd h15 (by decide))
  refine z_aload_n (i := 0) dX9_growReason_22 rfl rfl (q := 23) rfl ?_
  refine z_iload_n (i := 1) dX9_growReason_23 rfl rfl (q := 24) rfl ?_
  refine z_callVF (As := [_]) dX9_growReason_24 kX9_125 (c_X9_growNow hR0 hk hw) (wm _ _ _) rfl rfl (zle rfl) ⟨zle rfl, zle rfl⟩ ⟨zle rfl, zle rfl⟩ (q := 27) rfl ?_
  exact z_zret dX9_growReason_27 rfl (by unfold grh; repeat (first | rfl | split)) ⟨zle rfl, zle rfl⟩ ⟨rfl, rfl⟩
set_option maxRecDepth 100000 in
set_option maxHeartbeats 4000000 in
theorem c_X9_growReason_out {n nw : Nat} {s : Int32} (hR : rel X Y n nw) (h : s < 0 ∨ nI n ≤ s) : ZM G mX9_growReason 4 0 0 [.ref 77, .int s] (zw X1 Y O) (mR X1 O (0) (yth Y 1)) := by
  have h4 := rel_4 hR
  have hR0 : rel X (yint Y 0 0) n nw := rel_thr hR 0
  refine ZM.go pX9 rfl rfl (zle rfl) (zl := [some (.ref 77), some (.int s)]) rfl ?_
  refine z_aload_n (i := 0) dX9_growReason_0 rfl rfl (q := 1) rfl ?_
  refine z_iconst (v := 0) dX9_growReason_1 rfl (q := 2) rfl ?_
  refine z_put dX9_growReason_2 fX9_60 (wm _ _ _) (zle rfl) (zfit_int _) (q := 5) rfl ?_
  refine Z.eqw (wmi_thrown _ _ _ _) ?_
  refine z_aload_n (i := 0) dX9_growReason_5 rfl rfl (q := 6) rfl ?_
  refine z_aload_n (i := 0) dX9_growReason_6 rfl rfl (q := 7) rfl ?_
  refine z_iload_n (i := 1) dX9_growReason_7 rfl rfl (q := 8) rfl ?_
  refine z_callVF (As := [_]) dX9_growReason_8 kX9_97 (c_X9_noShape_out hR0 h) (wm _ _ _) rfl rfl (zle rfl) ⟨zle rfl, zle rfl⟩ ⟨zle rfl, zle rfl⟩ (q := 11) rfl ?_
  refine z_iconst (v := 1) dX9_growReason_11 rfl (q := 12) rfl ?_
  refine z_callVF (As := [_, _]) dX9_growReason_12 kX9_89 (c_X9_fails_t rfl (by decide)) (wm _ _ _) rfl rfl (zle rfl) ⟨zle rfl, zle rfl⟩ ⟨zle rfl, zle rfl⟩ (q := 15) rfl ?_
  refine z_if_eq (tgt := 22) dX9_growReason_15 (by decide) (q := 18) rfl (fun h15 => absurd h15 (by decide)) (fun h15 => ?_)
  refine z_iconst (v := 0) dX9_growReason_18 rfl (q := 19) rfl ?_
  refine z_goto (tgt := 27) dX9_growReason_19 (by decide) ?_
  exact z_zret dX9_growReason_27 rfl (by first | rfl | assumption | decide) ⟨zle rfl, zle rfl⟩ ⟨rfl, rfl⟩
set_option maxRecDepth 100000 in
set_option maxHeartbeats 4000000 in
theorem c_X9_grow {n nw k : Nat} (hR : rel X Y n nw) (hk : k < n) (hw : 1 ≤ X.2.1 1 k / 2) : ZM G mX9_grow 4 0 0 [.ref 77, .int (nI k)] (zw X1 Y O) (mR X1 O (B_grow X Y n k).1 (B_grow X Y n k).2) := by
  have h4 := rel_4 hR
  have hR0 : rel X (yint Y 0 0) n nw := rel_thr hR 0
  refine ZM.go pX9 rfl rfl (zle rfl) (zl := [some (.ref 77), some (.int (nI k)), none]) rfl ?_
  refine z_aload_n (i := 0) dX9_grow_0 rfl rfl (q := 1) rfl ?_
  refine z_iconst (v := 0) dX9_grow_1 rfl (q := 2) rfl ?_
  refine z_put dX9_grow_2 fX9_60 (wm _ _ _) (zle rfl) (zfit_int _) (q := 5) rfl ?_
  refine Z.eqw (wmi_thrown _ _ _ _) ?_
  refine z_aload_n (i := 0) dX9_grow_5 rfl rfl (q := 6) rfl ?_
  refine z_aload_n (i := 0) dX9_grow_6 rfl rfl (q := 7) rfl ?_
  refine z_iload_n (i := 1) dX9_grow_7 rfl rfl (q := 8) rfl ?_
  refine z_callVF (As := [_]) dX9_grow_8 kX9_97 (c_X9_noShape_in hR0 hk) (wm _ _ _) rfl rfl (zle rfl) ⟨zle rfl, zle rfl⟩ ⟨zle rfl, zle rfl⟩ (q := 11) rfl ?_
  refine z_iconst (v := 1) dX9_grow_11 rfl (q := 12) rfl ?_
  refine z_callVF (As := [_, _]) dX9_grow_12 kX9_89 (c_X9_fails_f rfl) (wm _ _ _) rfl rfl (zle rfl) ⟨zle rfl, zle rfl⟩ ⟨zle rfl, zle rfl⟩ (q := 15) rfl ?_
  refine z_if_eq (tgt := 20) dX9_grow_15 (by decide) (q := 18) rfl (fun h15 => ?_) (fun h15 => absurd h15 (by decide))
  refine z_aload_n (i := 0) dX9_grow_20 rfl rfl (q := 21) rfl ?_
  refine z_iload_n (i := 1) dX9_grow_21 rfl rfl (q := 22) rfl ?_
  refine z_callVF (As := [_]) dX9_grow_22 kX9_125 (c_X9_growNow hR0 hk hw) (wm _ _ _) rfl rfl (zle rfl) ⟨zle rfl, zle rfl⟩ ⟨zle rfl, zle rfl⟩ (q := 25) rfl ?_
  refine z_istore_n (i := 2) dX9_grow_25 rfl (zle rfl) rfl (q := 26) rfl ?_
  refine z_aload_n (i := 0) dX9_grow_26 rfl rfl (q := 27) rfl ?_
  refine z_iload_n (i := 2) dX9_grow_27 rfl rfl (q := 28) rfl ?_
  refine z_bipush (v := 102) dX9_grow_28 rfl (q := 30) rfl ?_
  refine z_icmp_ne (tgt := 37) dX9_grow_30 (by decide) (q := 33) rfl (fun h30 => ?_) (fun h30 => ?_)
  · refine z_iconst (v := 0) dX9_grow_37 rfl (q := 38) rfl ?_
    refine z_iconst (v := 2) dX9_grow_38 rfl (q := 39) rfl ?_
    refine z_callVF (As := [_, _]) dX9_grow_39 kX9_89 (c_X9_fails_f rfl) (wm _ _ _) rfl rfl (zle rfl) ⟨zle rfl, zle rfl⟩ ⟨zle rfl, zle rfl⟩ (q := 42) rfl ?_
    refine z_if_ne (tgt := 83) dX9_grow_42 (by decide) (q := 45) rfl (fun h42 => absurd h42 (by decide)) (fun h42 => ?_)
    refine z_aload_n (i := 0) dX9_grow_45 rfl rfl (q := 46) rfl ?_
    refine z_iload_n (i := 2) dX9_grow_46 rfl rfl (q := 47) rfl ?_
    refine z_bipush (v := 108) dX9_grow_47 rfl (q := 49) rfl ?_
    refine z_icmp_ne (tgt := 56) dX9_grow_49 (by decide) (q := 52) rfl (fun h49 => ?_) (fun h49 => ?_)
    · refine z_iconst (v := 0) dX9_grow_56 rfl (q := 57) rfl ?_
      refine z_iconst (v := 3) dX9_grow_57 rfl (q := 58) rfl ?_
      refine z_callVF (As := [_, _]) dX9_grow_58 kX9_89 (c_X9_fails_f rfl) (wm _ _ _) rfl rfl (zle rfl) ⟨zle rfl, zle rfl⟩ ⟨zle rfl, zle rfl⟩ (q := 61) rfl ?_
      refine z_if_ne (tgt := 83) dX9_grow_61 (by decide) (q := 64) rfl (fun h61 => absurd h61 (by decide)) (fun h61 => ?_)
      refine z_aload_n (i := 0) dX9_grow_64 rfl rfl (q := 65) rfl ?_
      refine z_iload_n (i := 2) dX9_grow_65 rfl rfl (q := 66) rfl ?_
      refine z_bipush (v := 110) dX9_grow_66 rfl (q := 68) rfl ?_
      refine z_icmp_eq (tgt := 75) dX9_grow_68 (by decide) (q := 71) rfl (fun h68 => ?_) (fun h68 => ?_)
      · refine z_iconst (v := 0) dX9_grow_75 rfl (q := 76) rfl ?_
        refine z_iconst (v := 4) dX9_grow_76 rfl (q := 77) rfl ?_
        refine z_callVF (As := [_, _]) dX9_grow_77 kX9_89 (c_X9_fails_f rfl) (wm _ _ _) rfl rfl (zle rfl) ⟨zle rfl, zle rfl⟩ ⟨zle rfl, zle rfl⟩ (q := 80) rfl ?_
        refine z_if_eq (tgt := 85) dX9_grow_80 (by decide) (q := 83) rfl (fun h80 => ?_) (fun h80 => absurd h80 (by decide))
        refine z_aload_n (i := 0) dX9_grow_85 rfl rfl (q := 86) rfl ?_
        refine z_get dX9_grow_86 fX9_13 (wm _ _ _) rfl (q := 89) rfl ?_
        refine z_iconst (v := 2) dX9_grow_89 rfl (q := 90) rfl ?_
        refine z_iload_n (i := 1) dX9_grow_90 rfl rfl (q := 91) rfl ?_
        refine z_imul dX9_grow_91 (q := 92) rfl ?_
        refine z_iconst (v := 1) dX9_grow_92 rfl (q := 93) rfl ?_
        refine z_iadd dX9_grow_93 (q := 94) rfl ?_
        refine z_aload_n (i := 0) dX9_grow_94 rfl rfl (q := 95) rfl ?_
        refine z_iload_n (i := 1) dX9_grow_95 rfl rfl (q := 96) rfl ?_
        refine z_callVF (As := [_]) dX9_grow_96 kX9_116 (c_X9_needed hR0 hk hw) (wm _ _ _) rfl rfl (zle rfl) ⟨zle rfl, zle rfl⟩ ⟨zle rfl, zle rfl⟩ (q := 99) rfl ?_
        rw [ix21]
        refine z_iast dX9_grow_99 (wma_size _ _ _) (zin (k := 2 * k + 1) (by omega) (by decide)) (q := 100) rfl ?_
        refine Z.eqw (wms_size _ _ _ _) ?_
        rw [nI_clamp (by omega)]
        refine z_aload_n (i := 0) dX9_grow_100 rfl rfl (q := 101) rfl ?_
        refine z_iload_n (i := 1) dX9_grow_101 rfl rfl (q := 102) rfl ?_
        refine z_callVF (As := [_]) dX9_grow_102 kX9_116 (c_X9_needed (X := xrow X 3 (upd (X.2.1 3) k (zneed (X.2.1 1 k) (X.2.1 5 k))) 0) (rel_grow hR hk (zneed (X.2.1 1 k) (X.2.1 5 k)) 0) hk (show 1 ≤ X.2.1 1 k / 2 from hw)) (wm _ _ _) rfl rfl (zle rfl) ⟨zle rfl, zle rfl⟩ ⟨zle rfl, zle rfl⟩ (q := 105) rfl ?_
        exact z_iret dX9_grow_105 rfl ⟨zle rfl, zle rfl⟩ (by unfold B_grow; rw [if_neg (by assumption), if_neg (by assumption), if_neg (fun h9 => h9 (by assumption))]; exact ⟨rfl, rfl⟩)
      · refine z_iconst (v := 1) dX9_grow_71 rfl (q := 72) rfl ?_
        refine z_goto (tgt := 76) dX9_grow_72 (by decide) ?_
        refine z_iconst (v := 4) dX9_grow_76 rfl (q := 77) rfl ?_
        refine z_callVF (As := [_, _]) dX9_grow_77 kX9_89 (c_X9_fails_t rfl (by decide)) (wm _ _ _) rfl rfl (zle rfl) ⟨zle rfl, zle rfl⟩ ⟨zle rfl, zle rfl⟩ (q := 80) rfl ?_
        refine z_if_eq (tgt := 85) dX9_grow_80 (by decide) (q := 83) rfl (fun h80 => absurd h80 (by decide)) (fun h80 => ?_)
        refine z_iconst (v := 0) dX9_grow_83 rfl (q := 84) rfl ?_
        exact z_iret dX9_grow_84 rfl ⟨zle rfl, zle rfl⟩ (by constructor <;> simp_all [B_grow, -Int32.not_le, -Int32.not_lt])
    · refine z_iconst (v := 1) dX9_grow_52 rfl (q := 53) rfl ?_
      refine z_goto (tgt := 57) dX9_grow_53 (by decide) ?_
      refine z_iconst (v := 3) dX9_grow_57 rfl (q := 58) rfl ?_
      refine z_callVF (As := [_, _]) dX9_grow_58 kX9_89 (c_X9_fails_t rfl (by decide)) (wm _ _ _) rfl rfl (zle rfl) ⟨zle rfl, zle rfl⟩ ⟨zle rfl, zle rfl⟩ (q := 61) rfl ?_
      refine z_if_ne (tgt := 83) dX9_grow_61 (by decide) (q := 64) rfl (fun h61 => ?_) (fun h61 => absurd h61 (by decide))
      refine z_iconst (v := 0) dX9_grow_83 rfl (q := 84) rfl ?_
      exact z_iret dX9_grow_84 rfl ⟨zle rfl, zle rfl⟩ (by constructor <;> simp_all [B_grow, -Int32.not_le, -Int32.not_lt])
  · refine z_iconst (v := 1) dX9_grow_33 rfl (q := 34) rfl ?_
    refine z_goto (tgt := 38) dX9_grow_34 (by decide) ?_
    refine z_iconst (v := 2) dX9_grow_38 rfl (q := 39) rfl ?_
    refine z_callVF (As := [_, _]) dX9_grow_39 kX9_89 (c_X9_fails_t rfl (by decide)) (wm _ _ _) rfl rfl (zle rfl) ⟨zle rfl, zle rfl⟩ ⟨zle rfl, zle rfl⟩ (q := 42) rfl ?_
    refine z_if_ne (tgt := 83) dX9_grow_42 (by decide) (q := 45) rfl (fun h42 => ?_) (fun h42 => absurd h42 (by decide))
    refine z_iconst (v := 0) dX9_grow_83 rfl (q := 84) rfl ?_
    exact z_iret dX9_grow_84 rfl ⟨zle rfl, zle rfl⟩ (by constructor <;> simp_all [B_grow, -Int32.not_le, -Int32.not_lt])
set_option maxRecDepth 100000 in
set_option maxHeartbeats 4000000 in
theorem c_X9_grow_out {n nw : Nat} {s : Int32} (hR : rel X Y n nw) (h : s < 0 ∨ nI n ≤ s) : ZM G mX9_grow 4 0 0 [.ref 77, .int s] (zw X1 Y O) (mR X1 O (0) (yth Y 1)) := by
  have h4 := rel_4 hR
  have hR0 : rel X (yint Y 0 0) n nw := rel_thr hR 0
  refine ZM.go pX9 rfl rfl (zle rfl) (zl := [some (.ref 77), some (.int s), none]) rfl ?_
  refine z_aload_n (i := 0) dX9_grow_0 rfl rfl (q := 1) rfl ?_
  refine z_iconst (v := 0) dX9_grow_1 rfl (q := 2) rfl ?_
  refine z_put dX9_grow_2 fX9_60 (wm _ _ _) (zle rfl) (zfit_int _) (q := 5) rfl ?_
  refine Z.eqw (wmi_thrown _ _ _ _) ?_
  refine z_aload_n (i := 0) dX9_grow_5 rfl rfl (q := 6) rfl ?_
  refine z_aload_n (i := 0) dX9_grow_6 rfl rfl (q := 7) rfl ?_
  refine z_iload_n (i := 1) dX9_grow_7 rfl rfl (q := 8) rfl ?_
  refine z_callVF (As := [_]) dX9_grow_8 kX9_97 (c_X9_noShape_out hR0 h) (wm _ _ _) rfl rfl (zle rfl) ⟨zle rfl, zle rfl⟩ ⟨zle rfl, zle rfl⟩ (q := 11) rfl ?_
  refine z_iconst (v := 1) dX9_grow_11 rfl (q := 12) rfl ?_
  refine z_callVF (As := [_, _]) dX9_grow_12 kX9_89 (c_X9_fails_t rfl (by decide)) (wm _ _ _) rfl rfl (zle rfl) ⟨zle rfl, zle rfl⟩ ⟨zle rfl, zle rfl⟩ (q := 15) rfl ?_
  refine z_if_eq (tgt := 20) dX9_grow_15 (by decide) (q := 18) rfl (fun h15 => absurd h15 (by decide)) (fun h15 => ?_)
  refine z_iconst (v := 0) dX9_grow_18 rfl (q := 19) rfl ?_
  exact z_iret dX9_grow_19 rfl ⟨zle rfl, zle rfl⟩ ⟨rfl, rfl⟩
set_option maxRecDepth 100000 in
set_option maxHeartbeats 4000000 in
theorem c_X9_inTheWay {n nw k : Nat} (hR : rel X Y n nw) (hk : k < n) (hw : 1 ≤ X.2.1 1 k / 2) : ZM G mX9_inTheWay 3 0 0 [.ref 77, .int (nI k)] (zw X1 Y O) (mR X1 O (B_inTheWay X Y n k).1 (B_inTheWay X Y n k).2) := by
  have h4 := rel_4 hR
  have hR0 : rel X (yint Y 0 0) n nw := rel_thr hR 0
  refine ZM.go pX9 rfl rfl (zle rfl) (zl := [some (.ref 77), some (.int (nI k))]) rfl ?_
  refine z_aload_n (i := 0) dX9_inTheWay_0 rfl rfl (q := 1) rfl ?_
  refine z_iconst (v := 0) dX9_inTheWay_1 rfl (q := 2) rfl ?_
  refine z_put dX9_inTheWay_2 fX9_60 (wm _ _ _) (zle rfl) (zfit_int _) (q := 5) rfl ?_
  refine Z.eqw (wmi_thrown _ _ _ _) ?_
  refine z_aload_n (i := 0) dX9_inTheWay_5 rfl rfl (q := 6) rfl ?_
  refine z_aload_n (i := 0) dX9_inTheWay_6 rfl rfl (q := 7) rfl ?_
  refine z_iload_n (i := 1) dX9_inTheWay_7 rfl rfl (q := 8) rfl ?_
  refine z_callVF (As := [_]) dX9_inTheWay_8 kX9_97 (c_X9_noShape_in hR0 hk) (wm _ _ _) rfl rfl (zle rfl) ⟨zle rfl, zle rfl⟩ ⟨zle rfl, zle rfl⟩ (q := 11) rfl ?_
  refine z_iconst (v := 1) dX9_inTheWay_11 rfl (q := 12) rfl ?_
  refine z_callVF (As := [_, _]) dX9_inTheWay_12 kX9_89 (c_X9_fails_f rfl) (wm _ _ _) rfl rfl (zle rfl) ⟨zle rfl, zle rfl⟩ ⟨zle rfl, zle rfl⟩ (q := 15) rfl ?_
  refine z_if_ne (tgt := 66) dX9_inTheWay_15 (by decide) (q := 18) rfl (fun h15 => absurd h15 (by decide)) (fun h15 => ?_)
  refine z_aload_n (i := 0) dX9_inTheWay_18 rfl rfl (q := 19) rfl ?_
  refine z_aload_n (i := 0) dX9_inTheWay_19 rfl rfl (q := 20) rfl ?_
  refine z_iload_n (i := 1) dX9_inTheWay_20 rfl rfl (q := 21) rfl ?_
  refine z_callVF (As := [_]) dX9_inTheWay_21 kX9_119 (c_X9_fitsNow hR0 hk hw) (wm _ _ _) rfl rfl (zle rfl) ⟨zle rfl, zle rfl⟩ ⟨zle rfl, zle rfl⟩ (q := 24) rfl ?_
  refine z_if_ne (tgt := 54) dX9_inTheWay_24 (by decide) (q := 27) rfl (fun h24 => ?_) (fun h24 => ?_)
  · replace h24 := zb_1.mp h24
    refine z_iconst (v := 1) dX9_inTheWay_54 rfl (q := 55) rfl ?_
    refine z_goto (tgt := 59) dX9_inTheWay_55 (by decide) ?_
    refine z_iconst (v := 2) dX9_inTheWay_59 rfl (q := 60) rfl ?_
    refine z_callVF (As := [_, _]) dX9_inTheWay_60 kX9_89 (c_X9_fails_t rfl (by decide)) (wm _ _ _) rfl rfl (zle rfl) ⟨zle rfl, zle rfl⟩ ⟨zle rfl, zle rfl⟩ (q := 63) rfl ?_
    refine z_if_eq (tgt := 68) dX9_inTheWay_63 (by decide) (q := 66) rfl (fun h63 => absurd h63 (by decide)) (fun h63 => ?_)
    refine z_iconst (v := 0) dX9_inTheWay_66 rfl (q := 67) rfl ?_
    exact z_iret dX9_inTheWay_67 rfl ⟨zle rfl, zle rfl⟩ (by constructor <;> simp_all [B_inTheWay, zon, -Int32.not_le, -Int32.not_lt])
  · replace h24 := zb_0.mp h24
    refine z_iconst (v := 1) dX9_inTheWay_27 rfl (q := 28) rfl ?_
    refine z_aload_n (i := 0) dX9_inTheWay_28 rfl rfl (q := 29) rfl ?_
    refine z_iload_n (i := 1) dX9_inTheWay_29 rfl rfl (q := 30) rfl ?_
    refine z_iconst (v := 1) dX9_inTheWay_30 rfl (q := 31) rfl ?_
    refine z_callVF (As := [_, _]) dX9_inTheWay_31 kX9_75 (c_X9_at1 hR0 (by omega)) (wm _ _ _) rfl rfl (zle rfl) ⟨zle rfl, zle rfl⟩ ⟨zle rfl, zle rfl⟩ (q := 34) rfl ?_
    refine z_aload_n (i := 0) dX9_inTheWay_34 rfl rfl (q := 35) rfl ?_
    refine z_iload_n (i := 1) dX9_inTheWay_35 rfl rfl (q := 36) rfl ?_
    refine z_callVF (As := [_]) dX9_inTheWay_36 kX9_116 (c_X9_needed hR0 hk hw) (wm _ _ _) rfl rfl (zle rfl) ⟨zle rfl, zle rfl⟩ ⟨zle rfl, zle rfl⟩ (q := 39) rfl ?_
    refine z_callSF (As := [_, _, _]) dX9_inTheWay_39 kX9_86 (c_X9_isOn1) rfl (zle rfl) ⟨zle rfl, zle rfl⟩ ⟨zle rfl, zle rfl⟩ (q := 42) rfl ?_
    refine z_if_eq (tgt := 54) dX9_inTheWay_42 (by decide) (q := 45) rfl (fun h42 => ?_) (fun h42 => ?_)
    · replace h42 := zb_0.mp h42
      refine z_iconst (v := 1) dX9_inTheWay_54 rfl (q := 55) rfl ?_
      refine z_goto (tgt := 59) dX9_inTheWay_55 (by decide) ?_
      refine z_iconst (v := 2) dX9_inTheWay_59 rfl (q := 60) rfl ?_
      refine z_callVF (As := [_, _]) dX9_inTheWay_60 kX9_89 (c_X9_fails_t rfl (by decide)) (wm _ _ _) rfl rfl (zle rfl) ⟨zle rfl, zle rfl⟩ ⟨zle rfl, zle rfl⟩ (q := 63) rfl ?_
      refine z_if_eq (tgt := 68) dX9_inTheWay_63 (by decide) (q := 66) rfl (fun h63 => absurd h63 (by decide)) (fun h63 => ?_)
      refine z_iconst (v := 0) dX9_inTheWay_66 rfl (q := 67) rfl ?_
      exact z_iret dX9_inTheWay_67 rfl ⟨zle rfl, zle rfl⟩ (by constructor <;> simp_all [B_inTheWay, zon, -Int32.not_le, -Int32.not_lt])
    · replace h42 := zb_1.mp h42
      refine z_aload_n (i := 0) dX9_inTheWay_45 rfl rfl (q := 46) rfl ?_
      refine z_iload_n (i := 1) dX9_inTheWay_46 rfl rfl (q := 47) rfl ?_
      refine z_callVF (As := [_]) dX9_inTheWay_47 kX9_122 (c_X9_way hR0 hk hw) (wm _ _ _) rfl rfl (zle rfl) ⟨zle rfl, zle rfl⟩ ⟨zle rfl, zle rfl⟩ (q := 50) rfl ?_
      refine z_iconst (v := (-1)) dX9_inTheWay_50 rfl (q := 51) rfl ?_
      refine z_icmp_ne (tgt := 58) dX9_inTheWay_51 (by decide) (q := 54) rfl (fun h51 => ?_) (fun h51 => ?_)
      · refine z_iconst (v := 0) dX9_inTheWay_58 rfl (q := 59) rfl ?_
        refine z_iconst (v := 2) dX9_inTheWay_59 rfl (q := 60) rfl ?_
        refine z_callVF (As := [_, _]) dX9_inTheWay_60 kX9_89 (c_X9_fails_f rfl) (wm _ _ _) rfl rfl (zle rfl) ⟨zle rfl, zle rfl⟩ ⟨zle rfl, zle rfl⟩ (q := 63) rfl ?_
        refine z_if_eq (tgt := 68) dX9_inTheWay_63 (by decide) (q := 66) rfl (fun h63 => ?_) (fun h63 => absurd h63 (by decide))
        refine z_aload_n (i := 0) dX9_inTheWay_68 rfl rfl (q := 69) rfl ?_
        refine z_iload_n (i := 1) dX9_inTheWay_69 rfl rfl (q := 70) rfl ?_
        refine z_callVF (As := [_]) dX9_inTheWay_70 kX9_122 (c_X9_way hR0 hk hw) (wm _ _ _) rfl rfl (zle rfl) ⟨zle rfl, zle rfl⟩ ⟨zle rfl, zle rfl⟩ (q := 73) rfl ?_
        exact z_iret dX9_inTheWay_73 rfl ⟨zle rfl, zle rfl⟩ (by constructor <;> simp_all [B_inTheWay, zon, -Int32.not_le, -Int32.not_lt])
      · refine z_iconst (v := 1) dX9_inTheWay_54 rfl (q := 55) rfl ?_
        refine z_goto (tgt := 59) dX9_inTheWay_55 (by decide) ?_
        refine z_iconst (v := 2) dX9_inTheWay_59 rfl (q := 60) rfl ?_
        refine z_callVF (As := [_, _]) dX9_inTheWay_60 kX9_89 (c_X9_fails_t rfl (by decide)) (wm _ _ _) rfl rfl (zle rfl) ⟨zle rfl, zle rfl⟩ ⟨zle rfl, zle rfl⟩ (q := 63) rfl ?_
        refine z_if_eq (tgt := 68) dX9_inTheWay_63 (by decide) (q := 66) rfl (fun h63 => absurd h63 (by decide)) (fun h63 => ?_)
        refine z_iconst (v := 0) dX9_inTheWay_66 rfl (q := 67) rfl ?_
        exact z_iret dX9_inTheWay_67 rfl ⟨zle rfl, zle rfl⟩ (by constructor <;> simp_all [B_inTheWay, zon, -Int32.not_le, -Int32.not_lt])
set_option maxRecDepth 100000 in
set_option maxHeartbeats 4000000 in
theorem c_X9_inTheWay_out {n nw : Nat} {s : Int32} (hR : rel X Y n nw) (h : s < 0 ∨ nI n ≤ s) : ZM G mX9_inTheWay 3 0 0 [.ref 77, .int s] (zw X1 Y O) (mR X1 O (0) (yth Y 1)) := by
  have h4 := rel_4 hR
  have hR0 : rel X (yint Y 0 0) n nw := rel_thr hR 0
  refine ZM.go pX9 rfl rfl (zle rfl) (zl := [some (.ref 77), some (.int s)]) rfl ?_
  refine z_aload_n (i := 0) dX9_inTheWay_0 rfl rfl (q := 1) rfl ?_
  refine z_iconst (v := 0) dX9_inTheWay_1 rfl (q := 2) rfl ?_
  refine z_put dX9_inTheWay_2 fX9_60 (wm _ _ _) (zle rfl) (zfit_int _) (q := 5) rfl ?_
  refine Z.eqw (wmi_thrown _ _ _ _) ?_
  refine z_aload_n (i := 0) dX9_inTheWay_5 rfl rfl (q := 6) rfl ?_
  refine z_aload_n (i := 0) dX9_inTheWay_6 rfl rfl (q := 7) rfl ?_
  refine z_iload_n (i := 1) dX9_inTheWay_7 rfl rfl (q := 8) rfl ?_
  refine z_callVF (As := [_]) dX9_inTheWay_8 kX9_97 (c_X9_noShape_out hR0 h) (wm _ _ _) rfl rfl (zle rfl) ⟨zle rfl, zle rfl⟩ ⟨zle rfl, zle rfl⟩ (q := 11) rfl ?_
  refine z_iconst (v := 1) dX9_inTheWay_11 rfl (q := 12) rfl ?_
  refine z_callVF (As := [_, _]) dX9_inTheWay_12 kX9_89 (c_X9_fails_t rfl (by decide)) (wm _ _ _) rfl rfl (zle rfl) ⟨zle rfl, zle rfl⟩ ⟨zle rfl, zle rfl⟩ (q := 15) rfl ?_
  refine z_if_ne (tgt := 66) dX9_inTheWay_15 (by decide) (q := 18) rfl (fun h15 => ?_) (fun h15 => absurd h15 (by decide))
  refine z_iconst (v := 0) dX9_inTheWay_66 rfl (q := 67) rfl ?_
  exact z_iret dX9_inTheWay_67 rfl ⟨zle rfl, zle rfl⟩ ⟨rfl, rfl⟩
end
