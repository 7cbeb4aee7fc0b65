section
variable {G : zG} {X : zX} {Y : zY} {O : zO}
set_option maxRecDepth 100000 in
set_option maxHeartbeats 4000000 in
def wishAt (X : zX) (c : Nat) (wf ws : Nat → Nat) : Prop := X.1 17 = nI c ∧ c ≤ 8 ∧ ∀ q, q < c → X.2.1 17 q = nI (wf q) ∧ X.2.1 18 q = nI (ws q) ∧ wf q < 4 ∧ ws q < 4
set_option maxRecDepth 100000 in
set_option maxHeartbeats 4000000 in
abbrev wishHit (X : zX) (r : Nat) (wf ws : Nat → Nat) (a b : Int32) (q : Nat) : Prop := ¬ nI (ws q) < a ∧ ¬ b < nI (ws q) ∧ 2 * X.2.1 r (wf q) + X.2.1 19 q * X.2.1 14 (wf q) = 2 * X.2.1 r (ws q) + X.2.1 19 q * X.2.1 14 (ws q)
set_option maxRecDepth 100000 in
set_option maxHeartbeats 4000000 in
theorem z_X5_strengthOf_6_21 {c : Nat} {wf ws : Nat → Nat} {a b : Int32} (hw : wishAt X c wf ws) : ∀ (m i : Nat) (s : Int32) (e6 e7 e8 : Option Value), i + m = c → Z G mX5_strengthOf (zrm 1 0 0) 0 0 6 [some (.ref 34), some (.ref 49), some (.int a), some (.int b), some (.int s), some (.int (nI i)), e6, e7, e8] [] (zw X Y O) (zEq (some (.int (rsumc (wishHit X 21 wf ws a b) (X.2.1 20) i m s))) (zw X Y O)) := by
  intro m
  induction m with
  | zero =>
    intro i s e6 e7 e8 hi
    refine z_iload dX5_strengthOf_6 rfl (q := 8) rfl ?_
    refine z_aload_n (i := 0) dX5_strengthOf_8 rfl rfl (q := 9) rfl ?_
    refine z_get dX5_strengthOf_9 fX5_26 (wo_rules _ _ _) rfl (q := 12) rfl ?_
    refine z_callVF (As := []) dX5_strengthOf_12 kX5_95 (c_X4_length (wr_17 _ _ _)) (wr_17 _ _ _).1 rfl rfl (zle rfl) ⟨zle rfl, zle rfl⟩ ⟨zle rfl, zle rfl⟩ (q := 15) rfl ?_
    rw [hw.1]
    refine z_icmp_ge (tgt := 128) dX5_strengthOf_15 (by decide) (q := 18) rfl (fun h15 => ?_) (fun h15 => absurd (zge_t (by omega)) h15)
    refine z_iload dX5_strengthOf_128 rfl (q := 130) rfl ?_
    exact z_iret dX5_strengthOf_130 rfl ⟨zle rfl, zle rfl⟩ ⟨rfl, rfl⟩
  | succ m ih =>
    intro i s e6 e7 e8 hi
    have hq := hw.2.2 i (by omega)
    have hc := hw.2.1
    refine z_iload dX5_strengthOf_6 rfl (q := 8) rfl ?_
    refine z_aload_n (i := 0) dX5_strengthOf_8 rfl rfl (q := 9) rfl ?_
    refine z_get dX5_strengthOf_9 fX5_26 (wo_rules _ _ _) rfl (q := 12) rfl ?_
    refine z_callVF (As := []) dX5_strengthOf_12 kX5_95 (c_X4_length (wr_17 _ _ _)) (wr_17 _ _ _).1 rfl rfl (zle rfl) ⟨zle rfl, zle rfl⟩ ⟨zle rfl, zle rfl⟩ (q := 15) rfl ?_
    rw [hw.1]
    refine z_icmp_ge (tgt := 128) dX5_strengthOf_15 (by decide) (q := 18) rfl (fun h15 => absurd h15 (zge_f (by omega) (by omega))) (fun h15 => ?_)
    refine z_aload_n (i := 0) dX5_strengthOf_18 rfl rfl (q := 19) rfl ?_
    refine z_get dX5_strengthOf_19 fX5_26 (wo_rules _ _ _) rfl (q := 22) rfl ?_
    refine z_iload dX5_strengthOf_22 rfl (q := 24) rfl ?_
    refine z_callVF (As := [_]) dX5_strengthOf_24 kX5_98 (c_X4_get  (wr_17 _ _ _) (by omega) (by decide)) (wr_17 _ _ _).1 rfl rfl (zle rfl) ⟨zle rfl, zle rfl⟩ ⟨zle rfl, zle rfl⟩ (q := 27) rfl ?_
    rw [hq.1]
    refine z_istore dX5_strengthOf_27 (zle rfl) rfl (q := 29) rfl ?_
    refine z_aload_n (i := 0) dX5_strengthOf_29 rfl rfl (q := 30) rfl ?_
    refine z_get dX5_strengthOf_30 fX5_29 (wo_rules _ _ _) rfl (q := 33) rfl ?_
    refine z_iload dX5_strengthOf_33 rfl (q := 35) rfl ?_
    refine z_callVF (As := [_]) dX5_strengthOf_35 kX5_98 (c_X4_get  (wr_18 _ _ _) (by omega) (by decide)) (wr_18 _ _ _).1 rfl rfl (zle rfl) ⟨zle rfl, zle rfl⟩ ⟨zle rfl, zle rfl⟩ (q := 38) rfl ?_
    rw [hq.2.1]
    refine z_istore dX5_strengthOf_38 (zle rfl) rfl (q := 40) rfl ?_
    refine z_aload_n (i := 0) dX5_strengthOf_40 rfl rfl (q := 41) rfl ?_
    refine z_get dX5_strengthOf_41 fX5_32 (wo_rules _ _ _) rfl (q := 44) rfl ?_
    refine z_iload dX5_strengthOf_44 rfl (q := 46) rfl ?_
    refine z_callVF (As := [_]) dX5_strengthOf_46 kX5_98 (c_X4_get  (wr_19 _ _ _) (by omega) (by decide)) (wr_19 _ _ _).1 rfl rfl (zle rfl) ⟨zle rfl, zle rfl⟩ ⟨zle rfl, zle rfl⟩ (q := 49) rfl ?_
    refine z_istore dX5_strengthOf_49 (zle rfl) rfl (q := 51) rfl ?_
    refine z_iload dX5_strengthOf_51 rfl (q := 53) rfl ?_
    refine z_iload_n (i := 2) dX5_strengthOf_53 rfl rfl (q := 54) rfl ?_
    refine z_icmp_lt (tgt := 122) dX5_strengthOf_54 (by decide) (q := 57) rfl (fun h54 => ?_) (fun h54 => ?_)
    · refine z_iinc dX5_strengthOf_122 rfl rfl (zle rfl) rfl (q := 125) rfl ?_
      refine z_goto (tgt := 6) dX5_strengthOf_125 (by decide) ?_
      refine Z.eql (zl2 := [some (.ref 34), some (.ref 49), some (.int a), some (.int b), some (.int s), some (.int (nI (i + 1))), some (.int (nI (wf i))), some (.int (nI (ws i))), some (.int (X.2.1 19 i))]) (by first | (rw [← nI_1 i]; done) | (rw [← nI_1 i]; rfl)) ?_
      rw [rsumc_f (fun h9 => h9.1 h54)]
      exact ih (i + 1) s _ _ _ (by omega)
    · refine z_iload dX5_strengthOf_57 rfl (q := 59) rfl ?_
      refine z_iload_n (i := 3) dX5_strengthOf_59 rfl rfl (q := 60) rfl ?_
      refine z_icmp_gt (tgt := 122) dX5_strengthOf_60 (by decide) (q := 63) rfl (fun h60 => ?_) (fun h60 => ?_)
      · refine z_iinc dX5_strengthOf_122 rfl rfl (zle rfl) rfl (q := 125) rfl ?_
        refine z_goto (tgt := 6) dX5_strengthOf_125 (by decide) ?_
        refine Z.eql (zl2 := [some (.ref 34), some (.ref 49), some (.int a), some (.int b), some (.int s), some (.int (nI (i + 1))), some (.int (nI (wf i))), some (.int (nI (ws i))), some (.int (X.2.1 19 i))]) (by first | (rw [← nI_1 i]; done) | (rw [← nI_1 i]; rfl)) ?_
        rw [rsumc_f (fun h9 => h9.2.1 h60)]
        exact ih (i + 1) s _ _ _ (by omega)
      · refine z_iconst (v := 2) dX5_strengthOf_63 rfl (q := 64) rfl ?_
        refine z_aload_n (i := 1) dX5_strengthOf_64 rfl rfl (q := 65) rfl ?_
        refine z_iload dX5_strengthOf_65 rfl (q := 67) rfl ?_
        refine z_callVF (As := [_]) dX5_strengthOf_67 kX5_98 (c_X4_get  (wr_21 _ _ _) (by omega) (by decide)) (wr_21 _ _ _).1 rfl rfl (zle rfl) ⟨zle rfl, zle rfl⟩ ⟨zle rfl, zle rfl⟩ (q := 70) rfl ?_
        refine z_imul dX5_strengthOf_70 (q := 71) rfl ?_
        refine z_iload dX5_strengthOf_71 rfl (q := 73) rfl ?_
        refine z_aload_n (i := 0) dX5_strengthOf_73 rfl rfl (q := 74) rfl ?_
        refine z_get dX5_strengthOf_74 fX5_14 (wo_rules _ _ _) rfl (q := 77) rfl ?_
        refine z_iload dX5_strengthOf_77 rfl (q := 79) rfl ?_
        refine z_callVF (As := [_]) dX5_strengthOf_79 kX5_98 (c_X4_get  (wr_14 _ _ _) (by omega) (by decide)) (wr_14 _ _ _).1 rfl rfl (zle rfl) ⟨zle rfl, zle rfl⟩ ⟨zle rfl, zle rfl⟩ (q := 82) rfl ?_
        refine z_imul dX5_strengthOf_82 (q := 83) rfl ?_
        refine z_iadd dX5_strengthOf_83 (q := 84) rfl ?_
        refine z_iconst (v := 2) dX5_strengthOf_84 rfl (q := 85) rfl ?_
        refine z_aload_n (i := 1) dX5_strengthOf_85 rfl rfl (q := 86) rfl ?_
        refine z_iload dX5_strengthOf_86 rfl (q := 88) rfl ?_
        refine z_callVF (As := [_]) dX5_strengthOf_88 kX5_98 (c_X4_get  (wr_21 _ _ _) (by omega) (by decide)) (wr_21 _ _ _).1 rfl rfl (zle rfl) ⟨zle rfl, zle rfl⟩ ⟨zle rfl, zle rfl⟩ (q := 91) rfl ?_
        refine z_imul dX5_strengthOf_91 (q := 92) rfl ?_
        refine z_iload dX5_strengthOf_92 rfl (q := 94) rfl ?_
        refine z_aload_n (i := 0) dX5_strengthOf_94 rfl rfl (q := 95) rfl ?_
        refine z_get dX5_strengthOf_95 fX5_14 (wo_rules _ _ _) rfl (q := 98) rfl ?_
        refine z_iload dX5_strengthOf_98 rfl (q := 100) rfl ?_
        refine z_callVF (As := [_]) dX5_strengthOf_100 kX5_98 (c_X4_get  (wr_14 _ _ _) (by omega) (by decide)) (wr_14 _ _ _).1 rfl rfl (zle rfl) ⟨zle rfl, zle rfl⟩ ⟨zle rfl, zle rfl⟩ (q := 103) rfl ?_
        refine z_imul dX5_strengthOf_103 (q := 104) rfl ?_
        refine z_iadd dX5_strengthOf_104 (q := 105) rfl ?_
        refine z_icmp_ne (tgt := 122) dX5_strengthOf_105 (by decide) (q := 108) rfl (fun h105 => ?_) (fun h105 => ?_)
        · refine z_iinc dX5_strengthOf_122 rfl rfl (zle rfl) rfl (q := 125) rfl ?_
          refine z_goto (tgt := 6) dX5_strengthOf_125 (by decide) ?_
          refine Z.eql (zl2 := [some (.ref 34), some (.ref 49), some (.int a), some (.int b), some (.int s), some (.int (nI (i + 1))), some (.int (nI (wf i))), some (.int (nI (ws i))), some (.int (X.2.1 19 i))]) (by first | (rw [← nI_1 i]; done) | (rw [← nI_1 i]; rfl)) ?_
          rw [rsumc_f (fun h9 => h105 h9.2.2)]
          exact ih (i + 1) s _ _ _ (by omega)
        · refine z_iload dX5_strengthOf_108 rfl (q := 110) rfl ?_
          refine z_aload_n (i := 0) dX5_strengthOf_110 rfl rfl (q := 111) rfl ?_
          refine z_get dX5_strengthOf_111 fX5_35 (wo_rules _ _ _) rfl (q := 114) rfl ?_
          refine z_iload dX5_strengthOf_114 rfl (q := 116) rfl ?_
          refine z_callVF (As := [_]) dX5_strengthOf_116 kX5_98 (c_X4_get  (wr_20 _ _ _) (by omega) (by decide)) (wr_20 _ _ _).1 rfl rfl (zle rfl) ⟨zle rfl, zle rfl⟩ ⟨zle rfl, zle rfl⟩ (q := 119) rfl ?_
          refine z_iadd dX5_strengthOf_119 (q := 120) rfl ?_
          refine z_istore dX5_strengthOf_120 (zle rfl) rfl (q := 122) rfl ?_
          refine z_iinc dX5_strengthOf_122 rfl rfl (zle rfl) rfl (q := 125) rfl ?_
          refine z_goto (tgt := 6) dX5_strengthOf_125 (by decide) ?_
          refine Z.eql (zl2 := [some (.ref 34), some (.ref 49), some (.int a), some (.int b), some (.int (s + X.2.1 20 i)), some (.int (nI (i + 1))), some (.int (nI (wf i))), some (.int (nI (ws i))), some (.int (X.2.1 19 i))]) (by first | (rw [← nI_1 i]; done) | (rw [← nI_1 i]; rfl)) ?_
          rw [rsumc_t ⟨h54, h60, h105⟩]
          exact ih (i + 1) (s + X.2.1 20 i) _ _ _ (by omega)
set_option maxRecDepth 100000 in
set_option maxHeartbeats 4000000 in
theorem c_X5_strengthOf_21 {c : Nat} {wf ws : Nat → Nat} {a b : Int32} (hw : wishAt X c wf ws) : ZM G mX5_strengthOf 1 0 0 [.ref 34, .ref 49, .int a, .int b] (zw X Y O) (zEq (some (.int (rsumc (wishHit X 21 wf ws a b) (X.2.1 20) 0 c 0))) (zw X Y O)) := by
  refine ZM.go pX5 rfl rfl (zle rfl) (zl := [some (.ref 34), some (.ref 49), some (.int a), some (.int b), none, none, none, none, none]) rfl ?_
  refine z_iconst (v := 0) dX5_strengthOf_0 rfl (q := 1) rfl ?_
  refine z_istore dX5_strengthOf_1 (zle rfl) rfl (q := 3) rfl ?_
  refine z_iconst (v := 0) dX5_strengthOf_3 rfl (q := 4) rfl ?_
  refine z_istore dX5_strengthOf_4 (zle rfl) rfl (q := 6) rfl ?_
  exact z_X5_strengthOf_6_21 hw c 0 0 _ _ _ (by omega)
set_option maxRecDepth 100000 in
set_option maxHeartbeats 4000000 in
theorem z_X5_strengthOf_6_22 {c : Nat} {wf ws : Nat → Nat} {a b : Int32} (hw : wishAt X c wf ws) : ∀ (m i : Nat) (s : Int32) (e6 e7 e8 : Option Value), i + m = c → Z G mX5_strengthOf (zrm 1 0 0) 0 0 6 [some (.ref 34), some (.ref 51), some (.int a), some (.int b), some (.int s), some (.int (nI i)), e6, e7, e8] [] (zw X Y O) (zEq (some (.int (rsumc (wishHit X 22 wf ws a b) (X.2.1 20) i m s))) (zw X Y O)) := by
  intro m
  induction m with
  | zero =>
    intro i s e6 e7 e8 hi
    refine z_iload dX5_strengthOf_6 rfl (q := 8) rfl ?_
    refine z_aload_n (i := 0) dX5_strengthOf_8 rfl rfl (q := 9) rfl ?_
    refine z_get dX5_strengthOf_9 fX5_26 (wo_rules _ _ _) rfl (q := 12) rfl ?_
    refine z_callVF (As := []) dX5_strengthOf_12 kX5_95 (c_X4_length (wr_17 _ _ _)) (wr_17 _ _ _).1 rfl rfl (zle rfl) ⟨zle rfl, zle rfl⟩ ⟨zle rfl, zle rfl⟩ (q := 15) rfl ?_
    rw [hw.1]
    refine z_icmp_ge (tgt := 128) dX5_strengthOf_15 (by decide) (q := 18) rfl (fun h15 => ?_) (fun h15 => absurd (zge_t (by omega)) h15)
    refine z_iload dX5_strengthOf_128 rfl (q := 130) rfl ?_
    exact z_iret dX5_strengthOf_130 rfl ⟨zle rfl, zle rfl⟩ ⟨rfl, rfl⟩
  | succ m ih =>
    intro i s e6 e7 e8 hi
    have hq := hw.2.2 i (by omega)
    have hc := hw.2.1
    refine z_iload dX5_strengthOf_6 rfl (q := 8) rfl ?_
    refine z_aload_n (i := 0) dX5_strengthOf_8 rfl rfl (q := 9) rfl ?_
    refine z_get dX5_strengthOf_9 fX5_26 (wo_rules _ _ _) rfl (q := 12) rfl ?_
    refine z_callVF (As := []) dX5_strengthOf_12 kX5_95 (c_X4_length (wr_17 _ _ _)) (wr_17 _ _ _).1 rfl rfl (zle rfl) ⟨zle rfl, zle rfl⟩ ⟨zle rfl, zle rfl⟩ (q := 15) rfl ?_
    rw [hw.1]
    refine z_icmp_ge (tgt := 128) dX5_strengthOf_15 (by decide) (q := 18) rfl (fun h15 => absurd h15 (zge_f (by omega) (by omega))) (fun h15 => ?_)
    refine z_aload_n (i := 0) dX5_strengthOf_18 rfl rfl (q := 19) rfl ?_
    refine z_get dX5_strengthOf_19 fX5_26 (wo_rules _ _ _) rfl (q := 22) rfl ?_
    refine z_iload dX5_strengthOf_22 rfl (q := 24) rfl ?_
    refine z_callVF (As := [_]) dX5_strengthOf_24 kX5_98 (c_X4_get  (wr_17 _ _ _) (by omega) (by decide)) (wr_17 _ _ _).1 rfl rfl (zle rfl) ⟨zle rfl, zle rfl⟩ ⟨zle rfl, zle rfl⟩ (q := 27) rfl ?_
    rw [hq.1]
    refine z_istore dX5_strengthOf_27 (zle rfl) rfl (q := 29) rfl ?_
    refine z_aload_n (i := 0) dX5_strengthOf_29 rfl rfl (q := 30) rfl ?_
    refine z_get dX5_strengthOf_30 fX5_29 (wo_rules _ _ _) rfl (q := 33) rfl ?_
    refine z_iload dX5_strengthOf_33 rfl (q := 35) rfl ?_
    refine z_callVF (As := [_]) dX5_strengthOf_35 kX5_98 (c_X4_get  (wr_18 _ _ _) (by omega) (by decide)) (wr_18 _ _ _).1 rfl rfl (zle rfl) ⟨zle rfl, zle rfl⟩ ⟨zle rfl, zle rfl⟩ (q := 38) rfl ?_
    rw [hq.2.1]
    refine z_istore dX5_strengthOf_38 (zle rfl) rfl (q := 40) rfl ?_
    refine z_aload_n (i := 0) dX5_strengthOf_40 rfl rfl (q := 41) rfl ?_
    refine z_get dX5_strengthOf_41 fX5_32 (wo_rules _ _ _) rfl (q := 44) rfl ?_
    refine z_iload dX5_strengthOf_44 rfl (q := 46) rfl ?_
    refine z_callVF (As := [_]) dX5_strengthOf_46 kX5_98 (c_X4_get  (wr_19 _ _ _) (by omega) (by decide)) (wr_19 _ _ _).1 rfl rfl (zle rfl) ⟨zle rfl, zle rfl⟩ ⟨zle rfl, zle rfl⟩ (q := 49) rfl ?_
    refine z_istore dX5_strengthOf_49 (zle rfl) rfl (q := 51) rfl ?_
    refine z_iload dX5_strengthOf_51 rfl (q := 53) rfl ?_
    refine z_iload_n (i := 2) dX5_strengthOf_53 rfl rfl (q := 54) rfl ?_
    refine z_icmp_lt (tgt := 122) dX5_strengthOf_54 (by decide) (q := 57) rfl (fun h54 => ?_) (fun h54 => ?_)
    · refine z_iinc dX5_strengthOf_122 rfl rfl (zle rfl) rfl (q := 125) rfl ?_
      refine z_goto (tgt := 6) dX5_strengthOf_125 (by decide) ?_
      refine Z.eql (zl2 := [some (.ref 34), some (.ref 51), some (.int a), some (.int b), some (.int s), some (.int (nI (i + 1))), some (.int (nI (wf i))), some (.int (nI (ws i))), some (.int (X.2.1 19 i))]) (by first | (rw [← nI_1 i]; done) | (rw [← nI_1 i]; rfl)) ?_
      rw [rsumc_f (fun h9 => h9.1 h54)]
      exact ih (i + 1) s _ _ _ (by omega)
    · refine z_iload dX5_strengthOf_57 rfl (q := 59) rfl ?_
      refine z_iload_n (i := 3) dX5_strengthOf_59 rfl rfl (q := 60) rfl ?_
      refine z_icmp_gt (tgt := 122) dX5_strengthOf_60 (by decide) (q := 63) rfl (fun h60 => ?_) (fun h60 => ?_)
      · refine z_iinc dX5_strengthOf_122 rfl rfl (zle rfl) rfl (q := 125) rfl ?_
        refine z_goto (tgt := 6) dX5_strengthOf_125 (by decide) ?_
        refine Z.eql (zl2 := [some (.ref 34), some (.ref 51), some (.int a), some (.int b), some (.int s), some (.int (nI (i + 1))), some (.int (nI (wf i))), some (.int (nI (ws i))), some (.int (X.2.1 19 i))]) (by first | (rw [← nI_1 i]; done) | (rw [← nI_1 i]; rfl)) ?_
        rw [rsumc_f (fun h9 => h9.2.1 h60)]
        exact ih (i + 1) s _ _ _ (by omega)
      · refine z_iconst (v := 2) dX5_strengthOf_63 rfl (q := 64) rfl ?_
        refine z_aload_n (i := 1) dX5_strengthOf_64 rfl rfl (q := 65) rfl ?_
        refine z_iload dX5_strengthOf_65 rfl (q := 67) rfl ?_
        refine z_callVF (As := [_]) dX5_strengthOf_67 kX5_98 (c_X4_get  (wr_22 _ _ _) (by omega) (by decide)) (wr_22 _ _ _).1 rfl rfl (zle rfl) ⟨zle rfl, zle rfl⟩ ⟨zle rfl, zle rfl⟩ (q := 70) rfl ?_
        refine z_imul dX5_strengthOf_70 (q := 71) rfl ?_
        refine z_iload dX5_strengthOf_71 rfl (q := 73) rfl ?_
        refine z_aload_n (i := 0) dX5_strengthOf_73 rfl rfl (q := 74) rfl ?_
        refine z_get dX5_strengthOf_74 fX5_14 (wo_rules _ _ _) rfl (q := 77) rfl ?_
        refine z_iload dX5_strengthOf_77 rfl (q := 79) rfl ?_
        refine z_callVF (As := [_]) dX5_strengthOf_79 kX5_98 (c_X4_get  (wr_14 _ _ _) (by omega) (by decide)) (wr_14 _ _ _).1 rfl rfl (zle rfl) ⟨zle rfl, zle rfl⟩ ⟨zle rfl, zle rfl⟩ (q := 82) rfl ?_
        refine z_imul dX5_strengthOf_82 (q := 83) rfl ?_
        refine z_iadd dX5_strengthOf_83 (q := 84) rfl ?_
        refine z_iconst (v := 2) dX5_strengthOf_84 rfl (q := 85) rfl ?_
        refine z_aload_n (i := 1) dX5_strengthOf_85 rfl rfl (q := 86) rfl ?_
        refine z_iload dX5_strengthOf_86 rfl (q := 88) rfl ?_
        refine z_callVF (As := [_]) dX5_strengthOf_88 kX5_98 (c_X4_get  (wr_22 _ _ _) (by omega) (by decide)) (wr_22 _ _ _).1 rfl rfl (zle rfl) ⟨zle rfl, zle rfl⟩ ⟨zle rfl, zle rfl⟩ (q := 91) rfl ?_
        refine z_imul dX5_strengthOf_91 (q := 92) rfl ?_
        refine z_iload dX5_strengthOf_92 rfl (q := 94) rfl ?_
        refine z_aload_n (i := 0) dX5_strengthOf_94 rfl rfl (q := 95) rfl ?_
        refine z_get dX5_strengthOf_95 fX5_14 (wo_rules _ _ _) rfl (q := 98) rfl ?_
        refine z_iload dX5_strengthOf_98 rfl (q := 100) rfl ?_
        refine z_callVF (As := [_]) dX5_strengthOf_100 kX5_98 (c_X4_get  (wr_14 _ _ _) (by omega) (by decide)) (wr_14 _ _ _).1 rfl rfl (zle rfl) ⟨zle rfl, zle rfl⟩ ⟨zle rfl, zle rfl⟩ (q := 103) rfl ?_
        refine z_imul dX5_strengthOf_103 (q := 104) rfl ?_
        refine z_iadd dX5_strengthOf_104 (q := 105) rfl ?_
        refine z_icmp_ne (tgt := 122) dX5_strengthOf_105 (by decide) (q := 108) rfl (fun h105 => ?_) (fun h105 => ?_)
        · refine z_iinc dX5_strengthOf_122 rfl rfl (zle rfl) rfl (q := 125) rfl ?_
          refine z_goto (tgt := 6) dX5_strengthOf_125 (by decide) ?_
          refine Z.eql (zl2 := [some (.ref 34), some (.ref 51), some (.int a), some (.int b), some (.int s), some (.int (nI (i + 1))), some (.int (nI (wf i))), some (.int (nI (ws i))), some (.int (X.2.1 19 i))]) (by first | (rw [← nI_1 i]; done) | (rw [← nI_1 i]; rfl)) ?_
          rw [rsumc_f (fun h9 => h105 h9.2.2)]
          exact ih (i + 1) s _ _ _ (by omega)
        · refine z_iload dX5_strengthOf_108 rfl (q := 110) rfl ?_
          refine z_aload_n (i := 0) dX5_strengthOf_110 rfl rfl (q := 111) rfl ?_
          refine z_get dX5_strengthOf_111 fX5_35 (wo_rules _ _ _) rfl (q := 114) rfl ?_
          refine z_iload dX5_strengthOf_114 rfl (q := 116) rfl ?_
          refine z_callVF (As := [_]) dX5_strengthOf_116 kX5_98 (c_X4_get  (wr_20 _ _ _) (by omega) (by decide)) (wr_20 _ _ _).1 rfl rfl (zle rfl) ⟨zle rfl, zle rfl⟩ ⟨zle rfl, zle rfl⟩ (q := 119) rfl ?_
          refine z_iadd dX5_strengthOf_119 (q := 120) rfl ?_
          refine z_istore dX5_strengthOf_120 (zle rfl) rfl (q := 122) rfl ?_
          refine z_iinc dX5_strengthOf_122 rfl rfl (zle rfl) rfl (q := 125) rfl ?_
          refine z_goto (tgt := 6) dX5_strengthOf_125 (by decide) ?_
          refine Z.eql (zl2 := [some (.ref 34), some (.ref 51), some (.int a), some (.int b), some (.int (s + X.2.1 20 i)), some (.int (nI (i + 1))), some (.int (nI (wf i))), some (.int (nI (ws i))), some (.int (X.2.1 19 i))]) (by first | (rw [← nI_1 i]; done) | (rw [← nI_1 i]; rfl)) ?_
          rw [rsumc_t ⟨h54, h60, h105⟩]
          exact ih (i + 1) (s + X.2.1 20 i) _ _ _ (by omega)
set_option maxRecDepth 100000 in
set_option maxHeartbeats 4000000 in
theorem c_X5_strengthOf_22 {c : Nat} {wf ws : Nat → Nat} {a b : Int32} (hw : wishAt X c wf ws) : ZM G mX5_strengthOf 1 0 0 [.ref 34, .ref 51, .int a, .int b] (zw X Y O) (zEq (some (.int (rsumc (wishHit X 22 wf ws a b) (X.2.1 20) 0 c 0))) (zw X Y O)) := by
  refine ZM.go pX5 rfl rfl (zle rfl) (zl := [some (.ref 34), some (.ref 51), some (.int a), some (.int b), none, none, none, none, none]) rfl ?_
  refine z_iconst (v := 0) dX5_strengthOf_0 rfl (q := 1) rfl ?_
  refine z_istore dX5_strengthOf_1 (zle rfl) rfl (q := 3) rfl ?_
  refine z_iconst (v := 0) dX5_strengthOf_3 rfl (q := 4) rfl ?_
  refine z_istore dX5_strengthOf_4 (zle rfl) rfl (q := 6) rfl ?_
  exact z_X5_strengthOf_6_22 hw c 0 0 _ _ _ (by omega)
set_option maxRecDepth 100000 in
set_option maxHeartbeats 4000000 in
theorem z_X5_strengthAtMost_4 {c : Nat} {wf ws : Nat → Nat} {k : Int32} (hw : wishAt X c wf ws) : ∀ (m i : Nat) (s : Int32), i + m = c → Z G mX5_strengthAtMost (zrm 1 0 0) 0 0 4 [some (.ref 34), some (.int k), some (.int s), some (.int (nI i))] [] (zw X Y O) (zEq (some (.int (rsumc (fun q => ¬ nI (ws q) < k) (X.2.1 20) i m s))) (zw X Y O)) := by
  intro m
  induction m with
  | zero =>
    intro i s hi
    refine z_iload_n (i := 3) dX5_strengthAtMost_4 rfl rfl (q := 5) rfl ?_
    refine z_aload_n (i := 0) dX5_strengthAtMost_5 rfl rfl (q := 6) rfl ?_
    refine z_get dX5_strengthAtMost_6 fX5_26 (wo_rules _ _ _) rfl (q := 9) rfl ?_
    refine z_callVF (As := []) dX5_strengthAtMost_9 kX5_95 (c_X4_length (wr_17 _ _ _)) (wr_17 _ _ _).1 rfl rfl (zle rfl) ⟨zle rfl, zle rfl⟩ ⟨zle rfl, zle rfl⟩ (q := 12) rfl ?_
    rw [hw.1]
    refine z_icmp_ge (tgt := 44) dX5_strengthAtMost_12 (by decide) (q := 15) rfl (fun h12 => ?_) (fun h12 => absurd (zge_t (by omega)) h12)
    refine z_iload_n (i := 2) dX5_strengthAtMost_44 rfl rfl (q := 45) rfl ?_
    exact z_iret dX5_strengthAtMost_45 rfl ⟨zle rfl, zle rfl⟩ ⟨rfl, rfl⟩
  | succ m ih =>
    intro i s hi
    have hq := hw.2.2 i (by omega)
    have hc := hw.2.1
    refine z_iload_n (i := 3) dX5_strengthAtMost_4 rfl rfl (q := 5) rfl ?_
    refine z_aload_n (i := 0) dX5_strengthAtMost_5 rfl rfl (q := 6) rfl ?_
    refine z_get dX5_strengthAtMost_6 fX5_26 (wo_rules _ _ _) rfl (q := 9) rfl ?_
    refine z_callVF (As := []) dX5_strengthAtMost_9 kX5_95 (c_X4_length (wr_17 _ _ _)) (wr_17 _ _ _).1 rfl rfl (zle rfl) ⟨zle rfl, zle rfl⟩ ⟨zle rfl, zle rfl⟩ (q := 12) rfl ?_
    rw [hw.1]
    refine z_icmp_ge (tgt := 44) dX5_strengthAtMost_12 (by decide) (q := 15) rfl (fun h12 => absurd h12 (zge_f (by omega) (by omega))) (fun h12 => ?_)
    refine z_aload_n (i := 0) dX5_strengthAtMost_15 rfl rfl (q := 16) rfl ?_
    refine z_get dX5_strengthAtMost_16 fX5_29 (wo_rules _ _ _) rfl (q := 19) rfl ?_
    refine z_iload_n (i := 3) dX5_strengthAtMost_19 rfl rfl (q := 20) rfl ?_
    refine z_callVF (As := [_]) dX5_strengthAtMost_20 kX5_98 (c_X4_get  (wr_18 _ _ _) (by omega) (by decide)) (wr_18 _ _ _).1 rfl rfl (zle rfl) ⟨zle rfl, zle rfl⟩ ⟨zle rfl, zle rfl⟩ (q := 23) rfl ?_
    rw [hq.2.1]
    refine z_iload_n (i := 1) dX5_strengthAtMost_23 rfl rfl (q := 24) rfl ?_
    refine z_icmp_lt (tgt := 38) dX5_strengthAtMost_24 (by decide) (q := 27) rfl (fun h24 => ?_) (fun h24 => ?_)
    · refine z_iinc dX5_strengthAtMost_38 rfl rfl (zle rfl) rfl (q := 41) rfl ?_
      refine z_goto (tgt := 4) dX5_strengthAtMost_41 (by decide) ?_
      refine Z.eql (zl2 := [some (.ref 34), some (.int k), some (.int s), some (.int (nI (i + 1)))]) (by first | (rw [← nI_1 i]; done) | (rw [← nI_1 i]; rfl)) ?_
      rw [rsumc_f (fun h9 => h9 h24)]
      exact ih (i + 1) s (by omega)
    · refine z_iload_n (i := 2) dX5_strengthAtMost_27 rfl rfl (q := 28) rfl ?_
      refine z_aload_n (i := 0) dX5_strengthAtMost_28 rfl rfl (q := 29) rfl ?_
      refine z_get dX5_strengthAtMost_29 fX5_35 (wo_rules _ _ _) rfl (q := 32) rfl ?_
      refine z_iload_n (i := 3) dX5_strengthAtMost_32 rfl rfl (q := 33) rfl ?_
      refine z_callVF (As := [_]) dX5_strengthAtMost_33 kX5_98 (c_X4_get  (wr_20 _ _ _) (by omega) (by decide)) (wr_20 _ _ _).1 rfl rfl (zle rfl) ⟨zle rfl, zle rfl⟩ ⟨zle rfl, zle rfl⟩ (q := 36) rfl ?_
      refine z_iadd dX5_strengthAtMost_36 (q := 37) rfl ?_
      refine z_istore_n (i := 2) dX5_strengthAtMost_37 rfl (zle rfl) rfl (q := 38) rfl ?_
      refine z_iinc dX5_strengthAtMost_38 rfl rfl (zle rfl) rfl (q := 41) rfl ?_
      refine z_goto (tgt := 4) dX5_strengthAtMost_41 (by decide) ?_
      refine Z.eql (zl2 := [some (.ref 34), some (.int k), some (.int (s + X.2.1 20 i)), some (.int (nI (i + 1)))]) (by first | (rw [← nI_1 i]; done) | (rw [← nI_1 i]; rfl)) ?_
      rw [rsumc_t h24]
      exact ih (i + 1) (s + X.2.1 20 i) (by omega)
set_option maxRecDepth 100000 in
set_option maxHeartbeats 4000000 in
theorem c_X5_strengthAtMost {c : Nat} {wf ws : Nat → Nat} {k : Int32} (hw : wishAt X c wf ws) : ZM G mX5_strengthAtMost 1 0 0 [.ref 34, .int k] (zw X Y O) (zEq (some (.int (rsumc (fun q => ¬ nI (ws q) < k) (X.2.1 20) 0 c 0))) (zw X Y O)) := by
  refine ZM.go pX5 rfl rfl (zle rfl) (zl := [some (.ref 34), some (.int k), none, none]) rfl ?_
  refine z_iconst (v := 0) dX5_strengthAtMost_0 rfl (q := 1) rfl ?_
  refine z_istore_n (i := 2) dX5_strengthAtMost_1 rfl (zle rfl) rfl (q := 2) rfl ?_
  refine z_iconst (v := 0) dX5_strengthAtMost_2 rfl (q := 3) rfl ?_
  refine z_istore_n (i := 3) dX5_strengthAtMost_3 rfl (zle rfl) rfl (q := 4) rfl ?_
  exact z_X5_strengthAtMost_4 hw c 0 0 (by omega)
/- a wish that is there and speaks of the axis t -/
set_option maxRecDepth 100000 in
set_option maxHeartbeats 4000000 in
abbrev wsel (X : zX) (t w : Nat) : Prop := X.2.1 10 w = 0 ∧ (if zkx (X.2.1 6 w) then (120 : Int32) else 121) = zch t
/- the wishes as loaded: of the first i those of the axis, c of them -/
set_option maxRecDepth 100000 in
set_option maxHeartbeats 4000000 in
def wI (X : zX) (t : Nat) (wa wb : Nat → Nat) (i c : Nat) (wi : Nat → Nat) (X1 : zX) : Prop := X1.1 17 = nI c ∧ X1.1 18 = nI c ∧ X1.1 19 = nI c ∧ X1.1 20 = nI c ∧ c ≤ i ∧ (∀ q, q < c → X1.2.1 17 q = nI (min (wa (wi q)) (wb (wi q))) ∧ X1.2.1 18 q = nI (max (wa (wi q)) (wb (wi q))) ∧ X1.2.1 19 q = zedge (X.2.1 6 (wi q)) ∧ X1.2.1 20 q = X.2.1 9 (wi q) ∧ wi q < i ∧ wsel X t (wi q)) ∧ (∀ q s, q < s → s < c → wi q < wi s) ∧ ∀ w, w < i → wsel X t w → ∃ q, q < c ∧ wi q = w
set_option maxRecDepth 100000 in
set_option maxHeartbeats 4000000 in
theorem wI_skip {X : zX} {t : Nat} {wa wb : Nat → Nat} {i c : Nat} {wi : Nat → Nat} {X1 : zX} (h : wI X t wa wb i c wi X1) (hn : ¬ wsel X t i) : wI X t wa wb (i + 1) c wi X1 := by
  obtain ⟨h1, h2, h3, h4, h5, h6, h7, h8⟩ := h
  refine ⟨h1, h2, h3, h4, by omega, fun q hq => ?_, h7, fun w hw hs => ?_⟩
  · obtain ⟨g1, g2, g3, g4, g5, g6⟩ := h6 q hq
    exact ⟨g1, g2, g3, g4, by omega, g6⟩
  · rcases Decidable.em (w = i) with h9 | h9
    · exact absurd (by rw [← h9]; exact hs) hn
    · exact h8 w (by omega) hs
set_option maxRecDepth 100000 in
set_option maxHeartbeats 4000000 in
theorem wI_add {X : zX} {t : Nat} {wa wb : Nat → Nat} {i c : Nat} {wi : Nat → Nat} {X1 : zX} (h : wI X t wa wb i c wi X1) (hn : wsel X t i) : wI X t wa wb (i + 1) (c + 1) (va_up wi c i) (xrow (xrow (xrow (xrow X1 17 (upd (X1.2.1 17) c (nI (min (wa i) (wb i)))) (nI (c + 1))) 18 (upd (X1.2.1 18) c (nI (max (wa i) (wb i)))) (nI (c + 1))) 19 (upd (X1.2.1 19) c (zedge (X.2.1 6 i))) (nI (c + 1))) 20 (upd (X1.2.1 20) c (X.2.1 9 i)) (nI (c + 1))) := by
  obtain ⟨h1, h2, h3, h4, h5, h6, h7, h8⟩ := h
  have hold : ∀ q, q < c → va_up wi c i q = wi q := fun q hq => if_neg (by omega)
  have hnew : va_up wi c i c = i := if_pos rfl
  refine ⟨rfl, rfl, rfl, rfl, by omega, fun q hq => ?_, fun q s hqs hs => ?_, fun w hw hs => ?_⟩
  · show upd (X1.2.1 17) c (nI (min (wa i) (wb i))) q = nI (min (wa (va_up wi c i q)) (wb (va_up wi c i q))) ∧ upd (X1.2.1 18) c (nI (max (wa i) (wb i))) q = nI (max (wa (va_up wi c i q)) (wb (va_up wi c i q))) ∧ upd (X1.2.1 19) c (zedge (X.2.1 6 i)) q = zedge (X.2.1 6 (va_up wi c i q)) ∧ upd (X1.2.1 20) c (X.2.1 9 i) q = X.2.1 9 (va_up wi c i q) ∧ va_up wi c i q < i + 1 ∧ wsel X t (va_up wi c i q)
    rcases Nat.lt_or_ge q c with h9 | h9
    · obtain ⟨g1, g2, g3, g4, g5, g6⟩ := h6 q h9
      rw [hold q h9]
      exact ⟨(if_neg (by omega)).trans g1, (if_neg (by omega)).trans g2, (if_neg (by omega)).trans g3, (if_neg (by omega)).trans g4, by omega, g6⟩
    · rw [show q = c by omega, hnew]
      exact ⟨if_pos rfl, if_pos rfl, if_pos rfl, if_pos rfl, by omega, hn⟩
  · rcases Nat.lt_or_ge s c with h9 | h9
    · rw [hold q (by omega), hold s h9]; exact h7 q s hqs h9
    · rw [show s = c by omega, hnew, hold q (by omega)]; exact (h6 q (by omega)).2.2.2.2.1
  · rcases Decidable.em (w = i) with h9 | h9
    · exact ⟨c, by omega, by rw [h9]; exact hnew⟩
    · obtain ⟨q, g1, g2⟩ := h8 w (by omega) hs
      exact ⟨q, by omega, (hold q g1).trans g2⟩
set_option maxRecDepth 100000 in
set_option maxHeartbeats 4000000 in
theorem z_X5_loadWishes_30 {t nw : Nat} {wa wb : Nat → Nat} (h6 : X.1 6 = nI nw) (h8 : nw ≤ 8) (hs : wshapes X nw wa wb) : ∀ (m i c : Nat) (wi : Nat → Nat) (X1 : zX), i + m = nw → kp 17 20 X X1 → wI X t wa wb i c wi X1 → Z G mX5_loadWishes (zrm 2 0 0) 0 0 30 [some (.ref 34), some (.ref 15), some (.int (zch t)), some (.int (nI i))] [] (zw X1 Y O) (fun r w2 => r = .inl none ∧ ∃ (X2 : zX) (c : Nat) (wi : Nat → Nat), w2 = zw X2 Y O ∧ kp 17 20 X X2 ∧ wI X t wa wb nw c wi X2) := by
  intro m
  induction m with
  | zero =>
    intro i c wi X1 hi hk hw
    have hin : i = nw := by omega
    refine z_iload_n (i := 3) dX5_loadWishes_30 rfl rfl (q := 31) rfl ?_
    refine z_aload_n (i := 1) dX5_loadWishes_31 rfl rfl (q := 32) rfl ?_
    refine z_callVF (As := []) dX5_loadWishes_32 kX5_61 (c_X7_addedCount ) (wo_wishes _ _ _) rfl rfl (zle rfl) ⟨zle rfl, zle rfl⟩ ⟨zle rfl, zle rfl⟩ (q := 35) rfl ?_
    rw [show X1.1 6 = nI nw from (hk.1 _ (by decide)).1.trans h6]
    refine z_icmp_ge (tgt := 125) dX5_loadWishes_35 (by decide) (q := 38) rfl (fun h35 => ?_) (fun h35 => absurd (zge_t (by omega)) h35)
    exact z_vret dX5_loadWishes_125 rfl ⟨zle rfl, zle rfl⟩ ⟨rfl, X1, c, wi, rfl, hk, by rw [← hin]; exact hw⟩
  | succ m ih =>
    intro i c wi X1 hi hk hw
    have hq := hs i (by omega)
    have hc := hw.2.2.2.2.1
    refine z_iload_n (i := 3) dX5_loadWishes_30 rfl rfl (q := 31) rfl ?_
    refine z_aload_n (i := 1) dX5_loadWishes_31 rfl rfl (q := 32) rfl ?_
    refine z_callVF (As := []) dX5_loadWishes_32 kX5_61 (c_X7_addedCount ) (wo_wishes _ _ _) rfl rfl (zle rfl) ⟨zle rfl, zle rfl⟩ ⟨zle rfl, zle rfl⟩ (q := 35) rfl ?_
    rw [show X1.1 6 = nI nw from (hk.1 _ (by decide)).1.trans h6]
    refine z_icmp_ge (tgt := 125) dX5_loadWishes_35 (by decide) (q := 38) rfl (fun h35 => absurd h35 (zge_f (by omega) (by omega))) (fun h35 => ?_)
    refine z_aload_n (i := 1) dX5_loadWishes_38 rfl rfl (q := 39) rfl ?_
    refine z_iload_n (i := 3) dX5_loadWishes_39 rfl rfl (q := 40) rfl ?_
    refine z_callVF (As := [_]) dX5_loadWishes_40 kX5_66 (c_X7_isThere (X := X1) ((hk.1 _ (by decide)).1.trans h6) (by omega) h8) (wo_wishes _ _ _) rfl rfl (zle rfl) ⟨zle rfl, zle rfl⟩ ⟨zle rfl, zle rfl⟩ (q := 43) rfl ?_
    refine z_if_eq (tgt := 119) dX5_loadWishes_43 (by decide) (q := 46) rfl (fun h43 => ?_) (fun h43 => ?_)
    · replace h43 := zb_0.mp h43
      refine z_iinc dX5_loadWishes_119 rfl rfl (zle rfl) rfl (q := 122) rfl ?_
      refine z_goto (tgt := 30) dX5_loadWishes_122 (by decide) ?_
      refine Z.eql (zl2 := [some (.ref 34), some (.ref 15), some (.int (zch t)), some (.int (nI (i + 1)))]) (by first | (rw [← nI_1 i]; done) | (rw [← nI_1 i]; rfl)) ?_
      rw [show X1.2.1 10 i = X.2.1 10 i from kp_f hk (by decide) i] at h43
      exact ih (i + 1) c wi X1 (by omega) hk (wI_skip hw (fun h9 => h43 h9.1))
    · replace h43 := zb_1.mp h43
      refine z_aload_n (i := 1) dX5_loadWishes_46 rfl rfl (q := 47) rfl ?_
      refine z_iload_n (i := 3) dX5_loadWishes_47 rfl rfl (q := 48) rfl ?_
      refine z_callVF (As := [_]) dX5_loadWishes_48 kX5_70 (c_X7_axisAt (by omega)) (wo_wishes _ _ _) rfl rfl (zle rfl) ⟨zle rfl, zle rfl⟩ ⟨zle rfl, zle rfl⟩ (q := 51) rfl ?_
      refine z_iload_n (i := 2) dX5_loadWishes_51 rfl rfl (q := 52) rfl ?_
      refine z_icmp_ne (tgt := 119) dX5_loadWishes_52 (by decide) (q := 55) rfl (fun h52 => ?_) (fun h52 => ?_)
      · refine z_iinc dX5_loadWishes_119 rfl rfl (zle rfl) rfl (q := 122) rfl ?_
        refine z_goto (tgt := 30) dX5_loadWishes_122 (by decide) ?_
        refine Z.eql (zl2 := [some (.ref 34), some (.ref 15), some (.int (zch t)), some (.int (nI (i + 1)))]) (by first | (rw [← nI_1 i]; done) | (rw [← nI_1 i]; rfl)) ?_
        rw [show X1.2.1 6 i = X.2.1 6 i from kp_f hk (by decide) i] at h52
        exact ih (i + 1) c wi X1 (by omega) hk (wI_skip hw (fun h9 => h52 h9.2))
      · refine z_aload_n (i := 0) dX5_loadWishes_55 rfl rfl (q := 56) rfl ?_
        refine z_get dX5_loadWishes_56 fX5_26 (wo_rules _ _ _) rfl (q := 59) rfl ?_
        refine z_aload_n (i := 1) dX5_loadWishes_59 rfl rfl (q := 60) rfl ?_
        refine z_iload_n (i := 3) dX5_loadWishes_60 rfl rfl (q := 61) rfl ?_
        refine z_callVF (As := [_]) dX5_loadWishes_61 kX5_74 (c_X7_shapeAt (by omega)) (wo_wishes _ _ _) rfl rfl (zle rfl) ⟨zle rfl, zle rfl⟩ ⟨zle rfl, zle rfl⟩ (q := 64) rfl ?_
        rw [show X1.2.1 7 i = nI (wa i) from (kp_f hk (by decide) i).trans hq.1]
        refine z_aload_n (i := 1) dX5_loadWishes_64 rfl rfl (q := 65) rfl ?_
        refine z_iload_n (i := 3) dX5_loadWishes_65 rfl rfl (q := 66) rfl ?_
        refine z_callVF (As := [_]) dX5_loadWishes_66 kX5_77 (c_X7_otherAt (by omega)) (wo_wishes _ _ _) rfl rfl (zle rfl) ⟨zle rfl, zle rfl⟩ ⟨zle rfl, zle rfl⟩ (q := 69) rfl ?_
        rw [show X1.2.1 8 i = nI (wb i) from (kp_f hk (by decide) i).trans hq.2.1]
        refine z_min dX5_loadWishes_69 kX5_80 (zle rfl) ⟨zle rfl, zle rfl, zle rfl, zle rfl⟩ (q := 72) rfl ?_
        rw [nI_min (by omega) (by omega)]
        refine z_callVF (As := [_]) dX5_loadWishes_72 kX5_51 (c_X4_append' (k := c) (wr_17 _ _ _) hw.1 (by omega) (by decide)) (wr_17 _ _ _).1 rfl rfl (zle rfl) ⟨zle rfl, zle rfl⟩ ⟨zle rfl, zle rfl⟩ (q := 75) rfl ?_
        refine Z.eqw (wp_17 _ _ _ _ _) ?_
        refine z_aload_n (i := 0) dX5_loadWishes_75 rfl rfl (q := 76) rfl ?_
        refine z_get dX5_loadWishes_76 fX5_29 (wo_rules _ _ _) rfl (q := 79) rfl ?_
        refine z_aload_n (i := 1) dX5_loadWishes_79 rfl rfl (q := 80) rfl ?_
        refine z_iload_n (i := 3) dX5_loadWishes_80 rfl rfl (q := 81) rfl ?_
        refine z_callVF (As := [_]) dX5_loadWishes_81 kX5_74 (c_X7_shapeAt (by omega)) (wo_wishes _ _ _) rfl rfl (zle rfl) ⟨zle rfl, zle rfl⟩ ⟨zle rfl, zle rfl⟩ (q := 84) rfl ?_
        rw [show (xrow X1 17 (upd (X1.2.1 17) c (nI (min (wa i) (wb i)))) (nI (c + 1))).2.1 7 i = nI (wa i) from (kp_f hk (by decide) i).trans hq.1]
        refine z_aload_n (i := 1) dX5_loadWishes_84 rfl rfl (q := 85) rfl ?_
        refine z_iload_n (i := 3) dX5_loadWishes_85 rfl rfl (q := 86) rfl ?_
        refine z_callVF (As := [_]) dX5_loadWishes_86 kX5_77 (c_X7_otherAt (by omega)) (wo_wishes _ _ _) rfl rfl (zle rfl) ⟨zle rfl, zle rfl⟩ ⟨zle rfl, zle rfl⟩ (q := 89) rfl ?_
        rw [show (xrow X1 17 (upd (X1.2.1 17) c (nI (min (wa i) (wb i)))) (nI (c + 1))).2.1 8 i = nI (wb i) from (kp_f hk (by decide) i).trans hq.2.1]
        refine z_max dX5_loadWishes_89 kX5_86 (zle rfl) ⟨zle rfl, zle rfl, zle rfl, zle rfl⟩ (q := 92) rfl ?_
        rw [nI_max (by omega) (by omega)]
        refine z_callVF (As := [_]) dX5_loadWishes_92 kX5_51 (c_X4_append' (k := c) (wr_18 _ _ _) hw.2.1 (by omega) (by decide)) (wr_18 _ _ _).1 rfl rfl (zle rfl) ⟨zle rfl, zle rfl⟩ ⟨zle rfl, zle rfl⟩ (q := 95) rfl ?_
        refine Z.eqw (wp_18 _ _ _ _ _) ?_
        refine z_aload_n (i := 0) dX5_loadWishes_95 rfl rfl (q := 96) rfl ?_
        refine z_get dX5_loadWishes_96 fX5_32 (wo_rules _ _ _) rfl (q := 99) rfl ?_
        refine z_aload_n (i := 1) dX5_loadWishes_99 rfl rfl (q := 100) rfl ?_
        refine z_iload_n (i := 3) dX5_loadWishes_100 rfl rfl (q := 101) rfl ?_
        refine z_callVF (As := [_]) dX5_loadWishes_101 kX5_89 (c_X7_edgeAt (by omega)) (wo_wishes _ _ _) rfl rfl (zle rfl) ⟨zle rfl, zle rfl⟩ ⟨zle rfl, zle rfl⟩ (q := 104) rfl ?_
        refine Z.eqst (st2 := [.int (zedge (X.2.1 6 i)), .ref 45]) (congrArg (fun v => [Value.int (zedge v), .ref 45]) (kp_f hk (by decide) i)) ?_
        refine z_callVF (As := [_]) dX5_loadWishes_104 kX5_51 (c_X4_append' (k := c) (wr_19 _ _ _) hw.2.2.1 (by omega) (by decide)) (wr_19 _ _ _).1 rfl rfl (zle rfl) ⟨zle rfl, zle rfl⟩ ⟨zle rfl, zle rfl⟩ (q := 107) rfl ?_
        refine Z.eqw (wp_19 _ _ _ _ _) ?_
        refine z_aload_n (i := 0) dX5_loadWishes_107 rfl rfl (q := 108) rfl ?_
        refine z_get dX5_loadWishes_108 fX5_35 (wo_rules _ _ _) rfl (q := 111) rfl ?_
        refine z_aload_n (i := 1) dX5_loadWishes_111 rfl rfl (q := 112) rfl ?_
        refine z_iload_n (i := 3) dX5_loadWishes_112 rfl rfl (q := 113) rfl ?_
        refine z_callVF (As := [_]) dX5_loadWishes_113 kX5_92 (c_X7_strengthAt (by omega)) (wo_wishes _ _ _) rfl rfl (zle rfl) ⟨zle rfl, zle rfl⟩ ⟨zle rfl, zle rfl⟩ (q := 116) rfl ?_
        refine Z.eqst (st2 := [.int (X.2.1 9 i), .ref 47]) (congrArg (fun v => [Value.int v, .ref 47]) (kp_f hk (by decide) i)) ?_
        refine z_callVF (As := [_]) dX5_loadWishes_116 kX5_51 (c_X4_append' (k := c) (wr_20 _ _ _) hw.2.2.2.1 (by omega) (by decide)) (wr_20 _ _ _).1 rfl rfl (zle rfl) ⟨zle rfl, zle rfl⟩ ⟨zle rfl, zle rfl⟩ (q := 119) rfl ?_
        refine Z.eqw (wp_20 _ _ _ _ _) ?_
        refine z_iinc dX5_loadWishes_119 rfl rfl (zle rfl) rfl (q := 122) rfl ?_
        refine z_goto (tgt := 30) dX5_loadWishes_122 (by decide) ?_
        refine Z.eql (zl2 := [some (.ref 34), some (.ref 15), some (.int (zch t)), some (.int (nI (i + 1)))]) (by first | (rw [← nI_1 i]; done) | (rw [← nI_1 i]; rfl)) ?_
        rw [show X1.2.1 10 i = X.2.1 10 i from kp_f hk (by decide) i] at h43
        rw [show X1.2.1 6 i = X.2.1 6 i from kp_f hk (by decide) i] at h52
        exact ih (i + 1) (c + 1) _ _ (by omega) (kp_row (kp_row (kp_row (kp_row hk (r := 17) (by omega) _ _) (r := 18) (by omega) _ _) (r := 19) (by omega) _ _) (r := 20) (by omega) _ _) (wI_add hw ⟨h43, h52⟩)
set_option maxRecDepth 100000 in
set_option maxHeartbeats 4000000 in
theorem c_X5_loadWishes {t nw : Nat} {wa wb : Nat → Nat} (h6 : X.1 6 = nI nw) (h8 : nw ≤ 8) (hs : wshapes X nw wa wb) : ZM G mX5_loadWishes 2 0 0 [.ref 34, .ref 15, .int (zch t)] (zw X Y O) (fun r w2 => r = .inl none ∧ ∃ (X2 : zX) (c : Nat) (wi : Nat → Nat), w2 = zw X2 Y O ∧ kp 17 20 X X2 ∧ wI X t wa wb nw c wi X2) := by
  refine ZM.go pX5 rfl rfl (zle rfl) (zl := [some (.ref 34), some (.ref 15), some (.int (zch t)), none]) rfl ?_
  refine z_aload_n (i := 0) dX5_loadWishes_0 rfl rfl (q := 1) rfl ?_
  refine z_get dX5_loadWishes_1 fX5_26 (wo_rules _ _ _) rfl (q := 4) rfl ?_
  refine z_callVF (As := []) dX5_loadWishes_4 kX5_38 (c_X4_clear (wr_17 _ _ _)) (wr_17 _ _ _).1 rfl rfl (zle rfl) ⟨zle rfl, zle rfl⟩ ⟨zle rfl, zle rfl⟩ (q := 7) rfl ?_
  refine Z.eqw (wp_17 _ _ _ _ _) ?_
  refine z_aload_n (i := 0) dX5_loadWishes_7 rfl rfl (q := 8) rfl ?_
  refine z_get dX5_loadWishes_8 fX5_29 (wo_rules _ _ _) rfl (q := 11) rfl ?_
  refine z_callVF (As := []) dX5_loadWishes_11 kX5_38 (c_X4_clear (wr_18 _ _ _)) (wr_18 _ _ _).1 rfl rfl (zle rfl) ⟨zle rfl, zle rfl⟩ ⟨zle rfl, zle rfl⟩ (q := 14) rfl ?_
  refine Z.eqw (wp_18 _ _ _ _ _) ?_
  refine z_aload_n (i := 0) dX5_loadWishes_14 rfl rfl (q := 15) rfl ?_
  refine z_get dX5_loadWishes_15 fX5_32 (wo_rules _ _ _) rfl (q := 18) rfl ?_
  refine z_callVF (As := []) dX5_loadWishes_18 kX5_38 (c_X4_clear (wr_19 _ _ _)) (wr_19 _ _ _).1 rfl rfl (zle rfl) ⟨zle rfl, zle rfl⟩ ⟨zle rfl, zle rfl⟩ (q := 21) rfl ?_
  refine Z.eqw (wp_19 _ _ _ _ _) ?_
  refine z_aload_n (i := 0) dX5_loadWishes_21 rfl rfl (q := 22) rfl ?_
  refine z_get dX5_loadWishes_22 fX5_35 (wo_rules _ _ _) rfl (q := 25) rfl ?_
  refine z_callVF (As := []) dX5_loadWishes_25 kX5_38 (c_X4_clear (wr_20 _ _ _)) (wr_20 _ _ _).1 rfl rfl (zle rfl) ⟨zle rfl, zle rfl⟩ ⟨zle rfl, zle rfl⟩ (q := 28) rfl ?_
  refine Z.eqw (wp_20 _ _ _ _ _) ?_
  refine z_iconst (v := 0) dX5_loadWishes_28 rfl (q := 29) rfl ?_
  refine z_istore_n (i := 3) dX5_loadWishes_29 rfl (zle rfl) rfl (q := 30) rfl ?_
  exact z_X5_loadWishes_30 h6 h8 hs nw 0 0 (fun _ => 0) _ (by omega) (kp_row (kp_row (kp_row (kp_row (kp_refl 17 20 X) (r := 17) (by omega) _ _) (r := 18) (by omega) _ _) (r := 19) (by omega) _ _) (r := 20) (by omega) _ _) ⟨rfl, rfl, rfl, rfl, Nat.zero_le _, fun q h => absurd h (Nat.not_lt_zero _), fun q s _ h => absurd h (Nat.not_lt_zero _), fun w h => absurd h (Nat.not_lt_zero _)⟩
end
