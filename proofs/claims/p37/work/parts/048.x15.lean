section
variable {G : zG} {X : zX} {Y : zY} {O : zO}
set_option maxRecDepth 100000 in
set_option maxHeartbeats 4000000 in
theorem gnv_O {S Z : Nat → Int32} : ∀ (m i : Nat) (a : rst), i + m ≤ 4 → gnv S Z a → gnv S Z (gdO S Z i m a)
  | 0, _, _, _, h => h
  | m + 1, i, a, hi, h => gnv_O m (i + 1) _ (by omega) (gnv_E (by omega) 3 0 a (by omega) h)
set_option maxRecDepth 100000 in
set_option maxHeartbeats 4000000 in
theorem gnv_All (f S Z : Nat → Int32) {n : Nat} (h4 : n ≤ 4) : gnv S Z (gdAll f S Z n) :=
  gnv_O n 0 (f, 0) (by omega) ⟨fun j k _ h => absurd h (Nat.not_lt_zero _), fun j h => absurd h (Nat.not_lt_zero _)⟩
set_option maxRecDepth 100000 in
set_option maxHeartbeats 4000000 in
abbrev grGo (X : zX) (n b : Nat) : (Nat → Int32) × Nat := gGo b n 0 n (gfill (fun _ => -1) 0 n (X.2.1 30)) 0
set_option maxRecDepth 100000 in
set_option maxHeartbeats 4000000 in
abbrev grJoin (X : zX) (n b : Nat) : (Nat → Int32) × Int32 := gJout b n 0 n (gfill nI 0 n (X.2.1 30), nI n)
set_option maxRecDepth 100000 in
set_option maxHeartbeats 4000000 in
theorem c_X8_snaps_0 {n k : Nat} (hn : X.1 0 = nI n) (h4 : n ≤ 4) (hk : k < n) (hn2 : X.1 0 = nI n) : ZM G mX8_snaps 4 1 6 [.ref 0, .int (nI k), .int (zch 0)] (zw X Y O) (zR (.inl (some (.int (nI (snAll (X.2.1 32) (X.2.1 0) (X.2.1 1) n k).2)))) (zw (xrow X 32 (snAll (X.2.1 32) (X.2.1 0) (X.2.1 1) n k).1 (nI (snAll (X.2.1 32) (X.2.1 0) (X.2.1 1) n k).2)) Y O)) := by
  refine ZM.go pX8 rfl rfl (zle rfl) (zl := [some (.ref 0), some (.int (nI k)), some (.int (zch 0))]) rfl ?_
  refine z_aload_n (i := 0) dX8_snaps_0 rfl rfl (q := 1) rfl ?_
  refine z_iload_n (i := 1) dX8_snaps_1 rfl rfl (q := 2) rfl ?_
  refine z_callVF (As := [_]) dX8_snaps_2 kX8_106 (c_X8_requireShape hn h4 hk) (wo_x _ _ _) rfl rfl (zle rfl) ⟨zle rfl, zle rfl⟩ ⟨zle rfl, zle rfl⟩ (q := 5) rfl ?_
  refine z_aload_n (i := 0) dX8_snaps_5 rfl rfl (q := 6) rfl ?_
  refine z_iload_n (i := 2) dX8_snaps_6 rfl rfl (q := 7) rfl ?_
  refine z_callVF (As := [_]) dX8_snaps_7 kX8_116 (c_X8_axisNamed (t := 0) (by decide)) (wo_x _ _ _) rfl rfl (zle rfl) ⟨zle rfl, zle rfl⟩ ⟨zle rfl, zle rfl⟩ (q := 10) rfl ?_
  refine z_iload_n (i := 1) dX8_snaps_10 rfl rfl (q := 11) rfl ?_
  refine z_aload_n (i := 0) dX8_snaps_11 rfl rfl (q := 12) rfl ?_
  refine z_get dX8_snaps_12 fX8_59 (wo_x _ _ _) rfl (q := 15) rfl ?_
  refine z_callVF (As := [_, _]) dX8_snaps_15 kX8_212 (c_X0_listSnaps_0_32 hn2 h4 hk) (wo_across _ _ _) rfl rfl (zle rfl) ⟨zle rfl, zle rfl⟩ ⟨zle rfl, zle rfl⟩ (q := 18) rfl ?_
  refine z_aload_n (i := 0) dX8_snaps_18 rfl rfl (q := 19) rfl ?_
  refine z_get dX8_snaps_19 fX8_59 (wo_x _ _ _) rfl (q := 22) rfl ?_
  refine z_callVF (As := []) dX8_snaps_22 kX8_216 (c_X4_length (wr_32 _ _ _)) (wr_32 _ _ _).1 rfl rfl (zle rfl) ⟨zle rfl, zle rfl⟩ ⟨zle rfl, zle rfl⟩ (q := 25) rfl ?_
  exact z_iret dX8_snaps_25 rfl ⟨zle rfl, zle rfl⟩ ⟨rfl, rfl⟩
set_option maxRecDepth 100000 in
set_option maxHeartbeats 4000000 in
theorem c_X8_guides_0 {n : Nat} (h4 : n ≤ 4) (hn2 : X.1 0 = nI n) : ZM G mX8_guides 4 1 6 [.ref 0, .int (zch 0)] (zw X Y O) (zR (.inl (some (.int (nI (gdAll (X.2.1 33) (X.2.1 0) (X.2.1 1) n).2)))) (zw (xrow X 33 (gdAll (X.2.1 33) (X.2.1 0) (X.2.1 1) n).1 (nI (gdAll (X.2.1 33) (X.2.1 0) (X.2.1 1) n).2)) Y O)) := by
  refine ZM.go pX8 rfl rfl (zle rfl) (zl := [some (.ref 0), some (.int (zch 0))]) rfl ?_
  refine z_aload_n (i := 0) dX8_guides_0 rfl rfl (q := 1) rfl ?_
  refine z_iload_n (i := 1) dX8_guides_1 rfl rfl (q := 2) rfl ?_
  refine z_callVF (As := [_]) dX8_guides_2 kX8_116 (c_X8_axisNamed (t := 0) (by decide)) (wo_x _ _ _) rfl rfl (zle rfl) ⟨zle rfl, zle rfl⟩ ⟨zle rfl, zle rfl⟩ (q := 5) rfl ?_
  refine z_aload_n (i := 0) dX8_guides_5 rfl rfl (q := 6) rfl ?_
  refine z_get dX8_guides_6 fX8_62 (wo_x _ _ _) rfl (q := 9) rfl ?_
  refine z_callVF (As := [_]) dX8_guides_9 kX8_259 (c_X0_listGuides_0 hn2 h4) (wo_across _ _ _) rfl rfl (zle rfl) ⟨zle rfl, zle rfl⟩ ⟨zle rfl, zle rfl⟩ (q := 12) rfl ?_
  refine z_aload_n (i := 0) dX8_guides_12 rfl rfl (q := 13) rfl ?_
  refine z_get dX8_guides_13 fX8_62 (wo_x _ _ _) rfl (q := 16) rfl ?_
  refine z_callVF (As := []) dX8_guides_16 kX8_216 (c_X4_length (wr_33 _ _ _)) (wr_33 _ _ _).1 rfl rfl (zle rfl) ⟨zle rfl, zle rfl⟩ ⟨zle rfl, zle rfl⟩ (q := 19) rfl ?_
  exact z_iret dX8_guides_19 rfl ⟨zle rfl, zle rfl⟩ ⟨rfl, rfl⟩
set_option maxRecDepth 100000 in
set_option maxHeartbeats 4000000 in
theorem c_X8_guideAt_0 {n j : Nat} (h4 : n ≤ 4) (hn2 : X.1 0 = nI n) (hj : j < (gdAll (X.2.1 33) (X.2.1 0) (X.2.1 1) n).2) : ZM G mX8_guideAt 4 1 6 [.ref 0, .int (zch 0), .int (nI j)] (zw X Y O) (zR (.inl (some (.int ((gdAll (X.2.1 33) (X.2.1 0) (X.2.1 1) n).1 j)))) (zw (xrow X 33 (gdAll (X.2.1 33) (X.2.1 0) (X.2.1 1) n).1 (nI (gdAll (X.2.1 33) (X.2.1 0) (X.2.1 1) n).2)) Y O)) := by
  have h6 : (gdAll (X.2.1 33) (X.2.1 0) (X.2.1 1) n).2 ≤ 6 := gnv_le (gnv_All (X.2.1 33) (X.2.1 0) (X.2.1 1) h4)
  refine ZM.go pX8 rfl rfl (zle rfl) (zl := [some (.ref 0), some (.int (zch 0)), some (.int (nI j))]) rfl ?_
  refine z_aload_n (i := 0) dX8_guideAt_0 rfl rfl (q := 1) rfl ?_
  refine z_iload_n (i := 1) dX8_guideAt_1 rfl rfl (q := 2) rfl ?_
  refine z_callVF (As := [_]) dX8_guideAt_2 kX8_116 (c_X8_axisNamed (t := 0) (by decide)) (wo_x _ _ _) rfl rfl (zle rfl) ⟨zle rfl, zle rfl⟩ ⟨zle rfl, zle rfl⟩ (q := 5) rfl ?_
  refine z_aload_n (i := 0) dX8_guideAt_5 rfl rfl (q := 6) rfl ?_
  refine z_get dX8_guideAt_6 fX8_62 (wo_x _ _ _) rfl (q := 9) rfl ?_
  refine z_callVF (As := [_]) dX8_guideAt_9 kX8_259 (c_X0_listGuides_0 hn2 h4) (wo_across _ _ _) rfl rfl (zle rfl) ⟨zle rfl, zle rfl⟩ ⟨zle rfl, zle rfl⟩ (q := 12) rfl ?_
  refine z_iload_n (i := 2) dX8_guideAt_12 rfl rfl (q := 13) rfl ?_
  refine z_if_lt (tgt := 27) dX8_guideAt_13 (by decide) (q := 16) rfl (fun h13 => absurd h13 (nI_pos (by omega))) (fun h13 => ?_)
  refine z_iload_n (i := 2) dX8_guideAt_16 rfl rfl (q := 17) rfl ?_
  refine z_aload_n (i := 0) dX8_guideAt_17 rfl rfl (q := 18) rfl ?_
  refine z_get dX8_guideAt_18 fX8_62 (wo_x _ _ _) rfl (q := 21) rfl ?_
  refine z_callVF (As := []) dX8_guideAt_21 kX8_216 (c_X4_length (wr_33 _ _ _)) (wr_33 _ _ _).1 rfl rfl (zle rfl) ⟨zle rfl, zle rfl⟩ ⟨zle rfl, zle rfl⟩ (q := 24) rfl ?_
  refine z_icmp_lt (tgt := 38) dX8_guideAt_24 (by decide) (q := 27) rfl (fun h24 => ?_) (fun h24 => absurd (nI_lt hj (by omega)) h24)
  refine z_aload_n (i := 0) dX8_guideAt_38 rfl rfl (q := 39) rfl ?_
  refine z_get dX8_guideAt_39 fX8_62 (wo_x _ _ _) rfl (q := 42) rfl ?_
  refine z_iload_n (i := 2) dX8_guideAt_42 rfl rfl (q := 43) rfl ?_
  refine z_callVF (As := [_]) dX8_guideAt_43 kX8_265 (c_X4_get  (wr_33 _ _ _) (by omega) (by decide)) (wr_33 _ _ _).1 rfl rfl (zle rfl) ⟨zle rfl, zle rfl⟩ ⟨zle rfl, zle rfl⟩ (q := 46) rfl ?_
  exact z_iret dX8_guideAt_46 rfl ⟨zle rfl, zle rfl⟩ ⟨rfl, rfl⟩
set_option maxRecDepth 100000 in
set_option maxHeartbeats 4000000 in
theorem c_X8_guideAt_out_0 {n : Nat} {s : Int32} (h4 : n ≤ 4) (hn2 : X.1 0 = nI n) (h : s < 0 ∨ nI (gdAll (X.2.1 33) (X.2.1 0) (X.2.1 1) n).2 ≤ s) : ZM G mX8_guideAt 4 1 6 [.ref 0, .int (zch 0), .int s] (zw X Y O) (zR (.inr eNSE) (zw (xrow X 33 (gdAll (X.2.1 33) (X.2.1 0) (X.2.1 1) n).1 (nI (gdAll (X.2.1 33) (X.2.1 0) (X.2.1 1) n).2)) Y O)) := by
  refine ZM.go pX8 rfl rfl (zle rfl) (zl := [some (.ref 0), some (.int (zch 0)), some (.int s)]) rfl ?_
  refine z_aload_n (i := 0) dX8_guideAt_0 rfl rfl (q := 1) rfl ?_
  refine z_iload_n (i := 1) dX8_guideAt_1 rfl rfl (q := 2) rfl ?_
  refine z_callVF (As := [_]) dX8_guideAt_2 kX8_116 (c_X8_axisNamed (t := 0) (by decide)) (wo_x _ _ _) rfl rfl (zle rfl) ⟨zle rfl, zle rfl⟩ ⟨zle rfl, zle rfl⟩ (q := 5) rfl ?_
  refine z_aload_n (i := 0) dX8_guideAt_5 rfl rfl (q := 6) rfl ?_
  refine z_get dX8_guideAt_6 fX8_62 (wo_x _ _ _) rfl (q := 9) rfl ?_
  refine z_callVF (As := [_]) dX8_guideAt_9 kX8_259 (c_X0_listGuides_0 hn2 h4) (wo_across _ _ _) rfl rfl (zle rfl) ⟨zle rfl, zle rfl⟩ ⟨zle rfl, zle rfl⟩ (q := 12) rfl ?_
  refine z_iload_n (i := 2) dX8_guideAt_12 rfl rfl (q := 13) rfl ?_
  refine z_if_lt (tgt := 27) dX8_guideAt_13 (by decide) (q := 16) rfl (fun h13 => ?_) (fun h13 => ?_)
  · exact z_throwNW dX8_guideAt_27 dX8_guideAt_30 dX8_guideAt_31 dX8_guideAt_34 dX8_guideAt_37 xX8_157_263 rfl ⟨zle rfl, zle rfl, zle rfl, zle rfl⟩ ⟨rfl, rfl⟩
  · refine z_iload_n (i := 2) dX8_guideAt_16 rfl rfl (q := 17) rfl ?_
    refine z_aload_n (i := 0) dX8_guideAt_17 rfl rfl (q := 18) rfl ?_
    refine z_get dX8_guideAt_18 fX8_62 (wo_x _ _ _) rfl (q := 21) rfl ?_
    refine z_callVF (As := []) dX8_guideAt_21 kX8_216 (c_X4_length (wr_33 _ _ _)) (wr_33 _ _ _).1 rfl rfl (zle rfl) ⟨zle rfl, zle rfl⟩ ⟨zle rfl, zle rfl⟩ (q := 24) rfl ?_
    refine z_icmp_lt (tgt := 38) dX8_guideAt_24 (by decide) (q := 27) rfl (fun h24 => absurd (h.resolve_left h13) (Int32.not_le.mpr h24)) (fun h24 => ?_)
    exact z_throwNW dX8_guideAt_27 dX8_guideAt_30 dX8_guideAt_31 dX8_guideAt_34 dX8_guideAt_37 xX8_157_263 rfl ⟨zle rfl, zle rfl, zle rfl, zle rfl⟩ ⟨rfl, rfl⟩
set_option maxRecDepth 100000 in
set_option maxHeartbeats 4000000 in
theorem c_X8_snaps_1 {n k : Nat} (hn : X.1 0 = nI n) (h4 : n ≤ 4) (hk : k < n) (hn2 : X.1 2 = nI n) : ZM G mX8_snaps 4 1 6 [.ref 0, .int (nI k), .int (zch 1)] (zw X Y O) (zR (.inl (some (.int (nI (snAll (X.2.1 32) (X.2.1 2) (X.2.1 3) n k).2)))) (zw (xrow X 32 (snAll (X.2.1 32) (X.2.1 2) (X.2.1 3) n k).1 (nI (snAll (X.2.1 32) (X.2.1 2) (X.2.1 3) n k).2)) Y O)) := by
  refine ZM.go pX8 rfl rfl (zle rfl) (zl := [some (.ref 0), some (.int (nI k)), some (.int (zch 1))]) rfl ?_
  refine z_aload_n (i := 0) dX8_snaps_0 rfl rfl (q := 1) rfl ?_
  refine z_iload_n (i := 1) dX8_snaps_1 rfl rfl (q := 2) rfl ?_
  refine z_callVF (As := [_]) dX8_snaps_2 kX8_106 (c_X8_requireShape hn h4 hk) (wo_x _ _ _) rfl rfl (zle rfl) ⟨zle rfl, zle rfl⟩ ⟨zle rfl, zle rfl⟩ (q := 5) rfl ?_
  refine z_aload_n (i := 0) dX8_snaps_5 rfl rfl (q := 6) rfl ?_
  refine z_iload_n (i := 2) dX8_snaps_6 rfl rfl (q := 7) rfl ?_
  refine z_callVF (As := [_]) dX8_snaps_7 kX8_116 (c_X8_axisNamed (t := 1) (by decide)) (wo_x _ _ _) rfl rfl (zle rfl) ⟨zle rfl, zle rfl⟩ ⟨zle rfl, zle rfl⟩ (q := 10) rfl ?_
  refine z_iload_n (i := 1) dX8_snaps_10 rfl rfl (q := 11) rfl ?_
  refine z_aload_n (i := 0) dX8_snaps_11 rfl rfl (q := 12) rfl ?_
  refine z_get dX8_snaps_12 fX8_59 (wo_x _ _ _) rfl (q := 15) rfl ?_
  refine z_callVF (As := [_, _]) dX8_snaps_15 kX8_212 (c_X0_listSnaps_1_32 hn2 h4 hk) (wo_down _ _ _) rfl rfl (zle rfl) ⟨zle rfl, zle rfl⟩ ⟨zle rfl, zle rfl⟩ (q := 18) rfl ?_
  refine z_aload_n (i := 0) dX8_snaps_18 rfl rfl (q := 19) rfl ?_
  refine z_get dX8_snaps_19 fX8_59 (wo_x _ _ _) rfl (q := 22) rfl ?_
  refine z_callVF (As := []) dX8_snaps_22 kX8_216 (c_X4_length (wr_32 _ _ _)) (wr_32 _ _ _).1 rfl rfl (zle rfl) ⟨zle rfl, zle rfl⟩ ⟨zle rfl, zle rfl⟩ (q := 25) rfl ?_
  exact z_iret dX8_snaps_25 rfl ⟨zle rfl, zle rfl⟩ ⟨rfl, rfl⟩
set_option maxRecDepth 100000 in
set_option maxHeartbeats 4000000 in
theorem c_X8_guides_1 {n : Nat} (h4 : n ≤ 4) (hn2 : X.1 2 = nI n) : ZM G mX8_guides 4 1 6 [.ref 0, .int (zch 1)] (zw X Y O) (zR (.inl (some (.int (nI (gdAll (X.2.1 33) (X.2.1 2) (X.2.1 3) n).2)))) (zw (xrow X 33 (gdAll (X.2.1 33) (X.2.1 2) (X.2.1 3) n).1 (nI (gdAll (X.2.1 33) (X.2.1 2) (X.2.1 3) n).2)) Y O)) := by
  refine ZM.go pX8 rfl rfl (zle rfl) (zl := [some (.ref 0), some (.int (zch 1))]) rfl ?_
  refine z_aload_n (i := 0) dX8_guides_0 rfl rfl (q := 1) rfl ?_
  refine z_iload_n (i := 1) dX8_guides_1 rfl rfl (q := 2) rfl ?_
  refine z_callVF (As := [_]) dX8_guides_2 kX8_116 (c_X8_axisNamed (t := 1) (by decide)) (wo_x _ _ _) rfl rfl (zle rfl) ⟨zle rfl, zle rfl⟩ ⟨zle rfl, zle rfl⟩ (q := 5) rfl ?_
  refine z_aload_n (i := 0) dX8_guides_5 rfl rfl (q := 6) rfl ?_
  refine z_get dX8_guides_6 fX8_62 (wo_x _ _ _) rfl (q := 9) rfl ?_
  refine z_callVF (As := [_]) dX8_guides_9 kX8_259 (c_X0_listGuides_1 hn2 h4) (wo_down _ _ _) rfl rfl (zle rfl) ⟨zle rfl, zle rfl⟩ ⟨zle rfl, zle rfl⟩ (q := 12) rfl ?_
  refine z_aload_n (i := 0) dX8_guides_12 rfl rfl (q := 13) rfl ?_
  refine z_get dX8_guides_13 fX8_62 (wo_x _ _ _) rfl (q := 16) rfl ?_
  refine z_callVF (As := []) dX8_guides_16 kX8_216 (c_X4_length (wr_33 _ _ _)) (wr_33 _ _ _).1 rfl rfl (zle rfl) ⟨zle rfl, zle rfl⟩ ⟨zle rfl, zle rfl⟩ (q := 19) rfl ?_
  exact z_iret dX8_guides_19 rfl ⟨zle rfl, zle rfl⟩ ⟨rfl, rfl⟩
set_option maxRecDepth 100000 in
set_option maxHeartbeats 4000000 in
theorem c_X8_guideAt_1 {n j : Nat} (h4 : n ≤ 4) (hn2 : X.1 2 = nI n) (hj : j < (gdAll (X.2.1 33) (X.2.1 2) (X.2.1 3) n).2) : ZM G mX8_guideAt 4 1 6 [.ref 0, .int (zch 1), .int (nI j)] (zw X Y O) (zR (.inl (some (.int ((gdAll (X.2.1 33) (X.2.1 2) (X.2.1 3) n).1 j)))) (zw (xrow X 33 (gdAll (X.2.1 33) (X.2.1 2) (X.2.1 3) n).1 (nI (gdAll (X.2.1 33) (X.2.1 2) (X.2.1 3) n).2)) Y O)) := by
  have h6 : (gdAll (X.2.1 33) (X.2.1 2) (X.2.1 3) n).2 ≤ 6 := gnv_le (gnv_All (X.2.1 33) (X.2.1 2) (X.2.1 3) h4)
  refine ZM.go pX8 rfl rfl (zle rfl) (zl := [some (.ref 0), some (.int (zch 1)), some (.int (nI j))]) rfl ?_
  refine z_aload_n (i := 0) dX8_guideAt_0 rfl rfl (q := 1) rfl ?_
  refine z_iload_n (i := 1) dX8_guideAt_1 rfl rfl (q := 2) rfl ?_
  refine z_callVF (As := [_]) dX8_guideAt_2 kX8_116 (c_X8_axisNamed (t := 1) (by decide)) (wo_x _ _ _) rfl rfl (zle rfl) ⟨zle rfl, zle rfl⟩ ⟨zle rfl, zle rfl⟩ (q := 5) rfl ?_
  refine z_aload_n (i := 0) dX8_guideAt_5 rfl rfl (q := 6) rfl ?_
  refine z_get dX8_guideAt_6 fX8_62 (wo_x _ _ _) rfl (q := 9) rfl ?_
  refine z_callVF (As := [_]) dX8_guideAt_9 kX8_259 (c_X0_listGuides_1 hn2 h4) (wo_down _ _ _) rfl rfl (zle rfl) ⟨zle rfl, zle rfl⟩ ⟨zle rfl, zle rfl⟩ (q := 12) rfl ?_
  refine z_iload_n (i := 2) dX8_guideAt_12 rfl rfl (q := 13) rfl ?_
  refine z_if_lt (tgt := 27) dX8_guideAt_13 (by decide) (q := 16) rfl (fun h13 => absurd h13 (nI_pos (by omega))) (fun h13 => ?_)
  refine z_iload_n (i := 2) dX8_guideAt_16 rfl rfl (q := 17) rfl ?_
  refine z_aload_n (i := 0) dX8_guideAt_17 rfl rfl (q := 18) rfl ?_
  refine z_get dX8_guideAt_18 fX8_62 (wo_x _ _ _) rfl (q := 21) rfl ?_
  refine z_callVF (As := []) dX8_guideAt_21 kX8_216 (c_X4_length (wr_33 _ _ _)) (wr_33 _ _ _).1 rfl rfl (zle rfl) ⟨zle rfl, zle rfl⟩ ⟨zle rfl, zle rfl⟩ (q := 24) rfl ?_
  refine z_icmp_lt (tgt := 38) dX8_guideAt_24 (by decide) (q := 27) rfl (fun h24 => ?_) (fun h24 => absurd (nI_lt hj (by omega)) h24)
  refine z_aload_n (i := 0) dX8_guideAt_38 rfl rfl (q := 39) rfl ?_
  refine z_get dX8_guideAt_39 fX8_62 (wo_x _ _ _) rfl (q := 42) rfl ?_
  refine z_iload_n (i := 2) dX8_guideAt_42 rfl rfl (q := 43) rfl ?_
  refine z_callVF (As := [_]) dX8_guideAt_43 kX8_265 (c_X4_get  (wr_33 _ _ _) (by omega) (by decide)) (wr_33 _ _ _).1 rfl rfl (zle rfl) ⟨zle rfl, zle rfl⟩ ⟨zle rfl, zle rfl⟩ (q := 46) rfl ?_
  exact z_iret dX8_guideAt_46 rfl ⟨zle rfl, zle rfl⟩ ⟨rfl, rfl⟩
set_option maxRecDepth 100000 in
set_option maxHeartbeats 4000000 in
theorem c_X8_guideAt_out_1 {n : Nat} {s : Int32} (h4 : n ≤ 4) (hn2 : X.1 2 = nI n) (h : s < 0 ∨ nI (gdAll (X.2.1 33) (X.2.1 2) (X.2.1 3) n).2 ≤ s) : ZM G mX8_guideAt 4 1 6 [.ref 0, .int (zch 1), .int s] (zw X Y O) (zR (.inr eNSE) (zw (xrow X 33 (gdAll (X.2.1 33) (X.2.1 2) (X.2.1 3) n).1 (nI (gdAll (X.2.1 33) (X.2.1 2) (X.2.1 3) n).2)) Y O)) := by
  refine ZM.go pX8 rfl rfl (zle rfl) (zl := [some (.ref 0), some (.int (zch 1)), some (.int s)]) rfl ?_
  refine z_aload_n (i := 0) dX8_guideAt_0 rfl rfl (q := 1) rfl ?_
  refine z_iload_n (i := 1) dX8_guideAt_1 rfl rfl (q := 2) rfl ?_
  refine z_callVF (As := [_]) dX8_guideAt_2 kX8_116 (c_X8_axisNamed (t := 1) (by decide)) (wo_x _ _ _) rfl rfl (zle rfl) ⟨zle rfl, zle rfl⟩ ⟨zle rfl, zle rfl⟩ (q := 5) rfl ?_
  refine z_aload_n (i := 0) dX8_guideAt_5 rfl rfl (q := 6) rfl ?_
  refine z_get dX8_guideAt_6 fX8_62 (wo_x _ _ _) rfl (q := 9) rfl ?_
  refine z_callVF (As := [_]) dX8_guideAt_9 kX8_259 (c_X0_listGuides_1 hn2 h4) (wo_down _ _ _) rfl rfl (zle rfl) ⟨zle rfl, zle rfl⟩ ⟨zle rfl, zle rfl⟩ (q := 12) rfl ?_
  refine z_iload_n (i := 2) dX8_guideAt_12 rfl rfl (q := 13) rfl ?_
  refine z_if_lt (tgt := 27) dX8_guideAt_13 (by decide) (q := 16) rfl (fun h13 => ?_) (fun h13 => ?_)
  · exact z_throwNW dX8_guideAt_27 dX8_guideAt_30 dX8_guideAt_31 dX8_guideAt_34 dX8_guideAt_37 xX8_157_263 rfl ⟨zle rfl, zle rfl, zle rfl, zle rfl⟩ ⟨rfl, rfl⟩
  · refine z_iload_n (i := 2) dX8_guideAt_16 rfl rfl (q := 17) rfl ?_
    refine z_aload_n (i := 0) dX8_guideAt_17 rfl rfl (q := 18) rfl ?_
    refine z_get dX8_guideAt_18 fX8_62 (wo_x _ _ _) rfl (q := 21) rfl ?_
    refine z_callVF (As := []) dX8_guideAt_21 kX8_216 (c_X4_length (wr_33 _ _ _)) (wr_33 _ _ _).1 rfl rfl (zle rfl) ⟨zle rfl, zle rfl⟩ ⟨zle rfl, zle rfl⟩ (q := 24) rfl ?_
    refine z_icmp_lt (tgt := 38) dX8_guideAt_24 (by decide) (q := 27) rfl (fun h24 => absurd (h.resolve_left h13) (Int32.not_le.mpr h24)) (fun h24 => ?_)
    exact z_throwNW dX8_guideAt_27 dX8_guideAt_30 dX8_guideAt_31 dX8_guideAt_34 dX8_guideAt_37 xX8_157_263 rfl ⟨zle rfl, zle rfl, zle rfl, zle rfl⟩ ⟨rfl, rfl⟩
set_option maxRecDepth 100000 in
set_option maxHeartbeats 4000000 in
theorem c_X8_snaps_out {n : Nat} {s : Int32} (hn : X.1 0 = nI n) (h : s < 0 ∨ nI n ≤ s) {c : Int32} : ZM G mX8_snaps 4 1 6 [.ref 0, .int s, .int c] (zw X Y O) (zTh eIOOBE (zw X Y O)) := by
  refine ZM.go pX8 rfl rfl (zle rfl) (zl := [some (.ref 0), some (.int s), some (.int c)]) rfl ?_
  refine z_aload_n (i := 0) dX8_snaps_0 rfl rfl (q := 1) rfl ?_
  refine z_iload_n (i := 1) dX8_snaps_1 rfl rfl (q := 2) rfl ?_
  exact z_callVT (As := [_]) dX8_snaps_2 kX8_106 (c_X8_requireShape_out hn h) (wo_x _ _ _) rfl rfl rfl (zle rfl) ⟨zle rfl, zle rfl⟩ ⟨zle rfl, zle rfl⟩ ⟨rfl, rfl⟩
set_option maxRecDepth 100000 in
set_option maxHeartbeats 4000000 in
theorem c_X8_snaps_ax {n k : Nat} (hn : X.1 0 = nI n) (h4 : n ≤ 4) (hk : k < n) {c : Int32} (h1 : ¬ c = 120) (h2 : ¬ c = 121) : ZM G mX8_snaps 4 1 6 [.ref 0, .int (nI k), .int c] (zw X Y O) (zTh eIAE (zw X Y O)) := by
  refine ZM.go pX8 rfl rfl (zle rfl) (zl := [some (.ref 0), some (.int (nI k)), some (.int c)]) rfl ?_
  refine z_aload_n (i := 0) dX8_snaps_0 rfl rfl (q := 1) rfl ?_
  refine z_iload_n (i := 1) dX8_snaps_1 rfl rfl (q := 2) rfl ?_
  refine z_callVF (As := [_]) dX8_snaps_2 kX8_106 (c_X8_requireShape hn h4 hk) (wo_x _ _ _) rfl rfl (zle rfl) ⟨zle rfl, zle rfl⟩ ⟨zle rfl, zle rfl⟩ (q := 5) rfl ?_
  refine z_aload_n (i := 0) dX8_snaps_5 rfl rfl (q := 6) rfl ?_
  refine z_iload_n (i := 2) dX8_snaps_6 rfl rfl (q := 7) rfl ?_
  exact z_callVT (As := [_]) dX8_snaps_7 kX8_116 (c_X8_axisNamed_out h1 h2) (wo_x _ _ _) rfl rfl rfl (zle rfl) ⟨zle rfl, zle rfl⟩ ⟨zle rfl, zle rfl⟩ ⟨rfl, rfl⟩
set_option maxRecDepth 100000 in
set_option maxHeartbeats 4000000 in
theorem c_X8_guides_ax {c : Int32} (h1 : ¬ c = 120) (h2 : ¬ c = 121) : ZM G mX8_guides 4 1 6 [.ref 0, .int c] (zw X Y O) (zTh eIAE (zw X Y O)) := by
  refine ZM.go pX8 rfl rfl (zle rfl) (zl := [some (.ref 0), some (.int c)]) rfl ?_
  refine z_aload_n (i := 0) dX8_guides_0 rfl rfl (q := 1) rfl ?_
  refine z_iload_n (i := 1) dX8_guides_1 rfl rfl (q := 2) rfl ?_
  exact z_callVT (As := [_]) dX8_guides_2 kX8_116 (c_X8_axisNamed_out h1 h2) (wo_x _ _ _) rfl rfl rfl (zle rfl) ⟨zle rfl, zle rfl⟩ ⟨zle rfl, zle rfl⟩ ⟨rfl, rfl⟩
set_option maxRecDepth 100000 in
set_option maxHeartbeats 4000000 in
theorem c_X8_guideAt_ax {c s : Int32} (h1 : ¬ c = 120) (h2 : ¬ c = 121) : ZM G mX8_guideAt 4 1 6 [.ref 0, .int c, .int s] (zw X Y O) (zTh eIAE (zw X Y O)) := by
  refine ZM.go pX8 rfl rfl (zle rfl) (zl := [some (.ref 0), some (.int c), some (.int s)]) rfl ?_
  refine z_aload_n (i := 0) dX8_guideAt_0 rfl rfl (q := 1) rfl ?_
  refine z_iload_n (i := 1) dX8_guideAt_1 rfl rfl (q := 2) rfl ?_
  exact z_callVT (As := [_]) dX8_guideAt_2 kX8_116 (c_X8_axisNamed_out h1 h2) (wo_x _ _ _) rfl rfl rfl (zle rfl) ⟨zle rfl, zle rfl⟩ ⟨zle rfl, zle rfl⟩ ⟨rfl, rfl⟩
set_option maxRecDepth 100000 in
set_option maxHeartbeats 4000000 in
theorem c_X8_groups {n b : Nat} {d : Int32} (hn : X.1 0 = nI n) (h4 : n ≤ 4) (hb : linked X n d b) (hd : ¬ d < 0 ∧ d ≤ 200) : ZM G mX8_groups 5 1 6 [.ref 0, .int d] (zw X Y O) (fun r w2 => r = .inl (some (.int (nI (grGo X n b).2))) ∧ ∃ (g : Nat → Int32) (c : Int32), w2 = zw (xg X (grGo X n b).1 (nI n) g c) Y O) := by
  refine ZM.go pX8 rfl rfl (zle rfl) (zl := [some (.ref 0), some (.int d)]) rfl ?_
  refine z_aload_n (i := 0) dX8_groups_0 rfl rfl (q := 1) rfl ?_
  refine z_iload_n (i := 1) dX8_groups_1 rfl rfl (q := 2) rfl ?_
  refine z_callVF (As := [_]) dX8_groups_2 kX8_274 (c_X8_requireDistance hd) (wo_x _ _ _) rfl rfl (zle rfl) ⟨zle rfl, zle rfl⟩ ⟨zle rfl, zle rfl⟩ (q := 5) rfl ?_
  refine z_aload_n (i := 0) dX8_groups_5 rfl rfl (q := 6) rfl ?_
  refine z_get dX8_groups_6 fX8_55 (wo_x _ _ _) rfl (q := 9) rfl ?_
  refine z_aload_n (i := 0) dX8_groups_9 rfl rfl (q := 10) rfl ?_
  refine z_get dX8_groups_10 fX8_14 (wo_x _ _ _) rfl (q := 13) rfl ?_
  refine z_aload_n (i := 0) dX8_groups_13 rfl rfl (q := 14) rfl ?_
  refine z_get dX8_groups_14 fX8_18 (wo_x _ _ _) rfl (q := 17) rfl ?_
  refine z_iload_n (i := 1) dX8_groups_17 rfl rfl (q := 18) rfl ?_
  refine z_callV (As := [_, _, _]) dX8_groups_18 kX8_277 (c_X3_countByGoing hn h4 hb) (wo_nearness _ _ _) rfl rfl (zle rfl) ⟨zle rfl, zle rfl⟩ ⟨zle rfl, zle rfl⟩ (q := 21) rfl (fun rv w2 hw2 => ?_) (fun E w2 h9 => by cases h9.1)
  obtain ⟨h9, g2, c2, rfl⟩ := hw2
  cases h9
  exact z_iret dX8_groups_21 rfl ⟨zle rfl, zle rfl⟩ ⟨rfl, g2, c2, rfl⟩
set_option maxRecDepth 100000 in
set_option maxHeartbeats 4000000 in
theorem c_X8_groups_out {d : Int32} (hd : ¬ (¬ d < 0 ∧ d ≤ 200)) : ZM G mX8_groups 5 1 6 [.ref 0, .int d] (zw X Y O) (zTh eIAE (zw X Y O)) := by
  refine ZM.go pX8 rfl rfl (zle rfl) (zl := [some (.ref 0), some (.int d)]) rfl ?_
  refine z_aload_n (i := 0) dX8_groups_0 rfl rfl (q := 1) rfl ?_
  refine z_iload_n (i := 1) dX8_groups_1 rfl rfl (q := 2) rfl ?_
  exact z_callVT (As := [_]) dX8_groups_2 kX8_274 (c_X8_requireDistance_out hd) (wo_x _ _ _) rfl rfl rfl (zle rfl) ⟨zle rfl, zle rfl⟩ ⟨zle rfl, zle rfl⟩ ⟨rfl, rfl⟩
set_option maxRecDepth 100000 in
set_option maxHeartbeats 4000000 in
theorem c_X8_groupsByLinks {n b : Nat} {d : Int32} (hn : X.1 0 = nI n) (h4 : n ≤ 4) (hb : linked X n d b) (hd : ¬ d < 0 ∧ d ≤ 200) : ZM G mX8_groupsByLinks 4 1 6 [.ref 0, .int d] (zw X Y O) (fun r w2 => r = .inl (some (.int ((grJoin X n b).2))) ∧ ∃ (g : Nat → Int32) (c : Int32), w2 = zw (xg X (grJoin X n b).1 (nI n) g c) Y O) := by
  refine ZM.go pX8 rfl rfl (zle rfl) (zl := [some (.ref 0), some (.int d)]) rfl ?_
  refine z_aload_n (i := 0) dX8_groupsByLinks_0 rfl rfl (q := 1) rfl ?_
  refine z_iload_n (i := 1) dX8_groupsByLinks_1 rfl rfl (q := 2) rfl ?_
  refine z_callVF (As := [_]) dX8_groupsByLinks_2 kX8_274 (c_X8_requireDistance hd) (wo_x _ _ _) rfl rfl (zle rfl) ⟨zle rfl, zle rfl⟩ ⟨zle rfl, zle rfl⟩ (q := 5) rfl ?_
  refine z_aload_n (i := 0) dX8_groupsByLinks_5 rfl rfl (q := 6) rfl ?_
  refine z_get dX8_groupsByLinks_6 fX8_55 (wo_x _ _ _) rfl (q := 9) rfl ?_
  refine z_aload_n (i := 0) dX8_groupsByLinks_9 rfl rfl (q := 10) rfl ?_
  refine z_get dX8_groupsByLinks_10 fX8_14 (wo_x _ _ _) rfl (q := 13) rfl ?_
  refine z_aload_n (i := 0) dX8_groupsByLinks_13 rfl rfl (q := 14) rfl ?_
  refine z_get dX8_groupsByLinks_14 fX8_18 (wo_x _ _ _) rfl (q := 17) rfl ?_
  refine z_iload_n (i := 1) dX8_groupsByLinks_17 rfl rfl (q := 18) rfl ?_
  refine z_callV (As := [_, _, _]) dX8_groupsByLinks_18 kX8_281 (c_X3_countByJoining hn h4 hb) (wo_nearness _ _ _) rfl rfl (zle rfl) ⟨zle rfl, zle rfl⟩ ⟨zle rfl, zle rfl⟩ (q := 21) rfl (fun rv w2 hw2 => ?_) (fun E w2 h9 => by cases h9.1)
  obtain ⟨h9, g2, c2, rfl⟩ := hw2
  cases h9
  exact z_iret dX8_groupsByLinks_21 rfl ⟨zle rfl, zle rfl⟩ ⟨rfl, g2, c2, rfl⟩
set_option maxRecDepth 100000 in
set_option maxHeartbeats 4000000 in
theorem c_X8_groupsByLinks_out {d : Int32} (hd : ¬ (¬ d < 0 ∧ d ≤ 200)) : ZM G mX8_groupsByLinks 4 1 6 [.ref 0, .int d] (zw X Y O) (zTh eIAE (zw X Y O)) := by
  refine ZM.go pX8 rfl rfl (zle rfl) (zl := [some (.ref 0), some (.int d)]) rfl ?_
  refine z_aload_n (i := 0) dX8_groupsByLinks_0 rfl rfl (q := 1) rfl ?_
  refine z_iload_n (i := 1) dX8_groupsByLinks_1 rfl rfl (q := 2) rfl ?_
  exact z_callVT (As := [_]) dX8_groupsByLinks_2 kX8_274 (c_X8_requireDistance_out hd) (wo_x _ _ _) rfl rfl rfl (zle rfl) ⟨zle rfl, zle rfl⟩ ⟨zle rfl, zle rfl⟩ ⟨rfl, rfl⟩
set_option maxRecDepth 100000 in
set_option maxHeartbeats 4000000 in
theorem c_X8_groupOf {n b k : Nat} {d : Int32} (hn : X.1 0 = nI n) (h4 : n ≤ 4) (hb : linked X n d b) (hd : ¬ d < 0 ∧ d ≤ 200) (hk : k < n) : ZM G mX8_groupOf 5 1 6 [.ref 0, .int (nI k), .int d] (zw X Y O) (fun r w2 => r = .inl (some (.int ((grGo X n b).1 k))) ∧ ∃ (g : Nat → Int32) (c : Int32), w2 = zw (xg X (grGo X n b).1 (nI n) g c) Y O) := by
  refine ZM.go pX8 rfl rfl (zle rfl) (zl := [some (.ref 0), some (.int (nI k)), some (.int d)]) rfl ?_
  refine z_aload_n (i := 0) dX8_groupOf_0 rfl rfl (q := 1) rfl ?_
  refine z_iload_n (i := 1) dX8_groupOf_1 rfl rfl (q := 2) rfl ?_
  refine z_callVF (As := [_]) dX8_groupOf_2 kX8_106 (c_X8_requireShape hn h4 hk) (wo_x _ _ _) rfl rfl (zle rfl) ⟨zle rfl, zle rfl⟩ ⟨zle rfl, zle rfl⟩ (q := 5) rfl ?_
  refine z_aload_n (i := 0) dX8_groupOf_5 rfl rfl (q := 6) rfl ?_
  refine z_iload_n (i := 2) dX8_groupOf_6 rfl rfl (q := 7) rfl ?_
  refine z_callVF (As := [_]) dX8_groupOf_7 kX8_274 (c_X8_requireDistance hd) (wo_x _ _ _) rfl rfl (zle rfl) ⟨zle rfl, zle rfl⟩ ⟨zle rfl, zle rfl⟩ (q := 10) rfl ?_
  refine z_aload_n (i := 0) dX8_groupOf_10 rfl rfl (q := 11) rfl ?_
  refine z_get dX8_groupOf_11 fX8_55 (wo_x _ _ _) rfl (q := 14) rfl ?_
  refine z_aload_n (i := 0) dX8_groupOf_14 rfl rfl (q := 15) rfl ?_
  refine z_get dX8_groupOf_15 fX8_14 (wo_x _ _ _) rfl (q := 18) rfl ?_
  refine z_aload_n (i := 0) dX8_groupOf_18 rfl rfl (q := 19) rfl ?_
  refine z_get dX8_groupOf_19 fX8_18 (wo_x _ _ _) rfl (q := 22) rfl ?_
  refine z_iload_n (i := 2) dX8_groupOf_22 rfl rfl (q := 23) rfl ?_
  refine z_callV (As := [_, _, _]) dX8_groupOf_23 kX8_277 (c_X3_countByGoing hn h4 hb) (wo_nearness _ _ _) rfl rfl (zle rfl) ⟨zle rfl, zle rfl⟩ ⟨zle rfl, zle rfl⟩ (q := 26) rfl (fun rv w2 hw2 => ?_) (fun E w2 h9 => by cases h9.1)
  obtain ⟨h9, g2, c2, rfl⟩ := hw2
  cases h9
  refine z_pop dX8_groupOf_26 rfl (q := 27) rfl ?_
  refine z_aload_n (i := 0) dX8_groupOf_27 rfl rfl (q := 28) rfl ?_
  refine z_get dX8_groupOf_28 fX8_55 (wo_x _ _ _) rfl (q := 31) rfl ?_
  refine z_iload_n (i := 1) dX8_groupOf_31 rfl rfl (q := 32) rfl ?_
  refine z_callVF (As := [_]) dX8_groupOf_32 kX8_284 (c_X3_lowestOfGroup (by omega)) (wo_nearness _ _ _) rfl rfl (zle rfl) ⟨zle rfl, zle rfl⟩ ⟨zle rfl, zle rfl⟩ (q := 35) rfl ?_
  exact z_iret dX8_groupOf_35 rfl ⟨zle rfl, zle rfl⟩ ⟨rfl, g2, c2, rfl⟩
set_option maxRecDepth 100000 in
set_option maxHeartbeats 4000000 in
theorem c_X8_groupOf_out {n : Nat} {s : Int32} (hn : X.1 0 = nI n) (h : s < 0 ∨ nI n ≤ s) {d : Int32} : ZM G mX8_groupOf 5 1 6 [.ref 0, .int s, .int d] (zw X Y O) (zTh eIOOBE (zw X Y O)) := by
  refine ZM.go pX8 rfl rfl (zle rfl) (zl := [some (.ref 0), some (.int s), some (.int d)]) rfl ?_
  refine z_aload_n (i := 0) dX8_groupOf_0 rfl rfl (q := 1) rfl ?_
  refine z_iload_n (i := 1) dX8_groupOf_1 rfl rfl (q := 2) rfl ?_
  exact z_callVT (As := [_]) dX8_groupOf_2 kX8_106 (c_X8_requireShape_out hn h) (wo_x _ _ _) rfl rfl rfl (zle rfl) ⟨zle rfl, zle rfl⟩ ⟨zle rfl, zle rfl⟩ ⟨rfl, rfl⟩
set_option maxRecDepth 100000 in
set_option maxHeartbeats 4000000 in
theorem c_X8_groupOf_d {n k : Nat} (hn : X.1 0 = nI n) (h4 : n ≤ 4) (hk : k < n) {d : Int32} (hd : ¬ (¬ d < 0 ∧ d ≤ 200)) : ZM G mX8_groupOf 5 1 6 [.ref 0, .int (nI k), .int d] (zw X Y O) (zTh eIAE (zw X Y O)) := by
  refine ZM.go pX8 rfl rfl (zle rfl) (zl := [some (.ref 0), some (.int (nI k)), some (.int d)]) rfl ?_
  refine z_aload_n (i := 0) dX8_groupOf_0 rfl rfl (q := 1) rfl ?_
  refine z_iload_n (i := 1) dX8_groupOf_1 rfl rfl (q := 2) rfl ?_
  refine z_callVF (As := [_]) dX8_groupOf_2 kX8_106 (c_X8_requireShape hn h4 hk) (wo_x _ _ _) rfl rfl (zle rfl) ⟨zle rfl, zle rfl⟩ ⟨zle rfl, zle rfl⟩ (q := 5) rfl ?_
  refine z_aload_n (i := 0) dX8_groupOf_5 rfl rfl (q := 6) rfl ?_
  refine z_iload_n (i := 2) dX8_groupOf_6 rfl rfl (q := 7) rfl ?_
  exact z_callVT (As := [_]) dX8_groupOf_7 kX8_274 (c_X8_requireDistance_out hd) (wo_x _ _ _) rfl rfl rfl (zle rfl) ⟨zle rfl, zle rfl⟩ ⟨zle rfl, zle rfl⟩ ⟨rfl, rfl⟩
end
