section
variable {G : zG} {X X1 X2 X3 : zX} {Y : zY} {O : zO}
set_option maxRecDepth 100000 in
set_option maxHeartbeats 4000000 in
def layP (O : zO) : zRes → zWorld → Prop := fun r w => ∃ (n : Nat) (X3 : zX), r = .inl (some (.int (nI n))) ∧ w = zw X3 [] O ∧ inv X3 n 0 ∧ nolk X3 n
set_option maxRecDepth 100000 in
set_option maxHeartbeats 4000000 in
theorem layP_int : ∀ r w, layP O r w → ∃ v : Int32, r = .inl (some (.int v)) := fun r w h => by
  obtain ⟨n, X3, h, -⟩ := h
  exact ⟨_, h⟩
set_option maxRecDepth 100000 in
set_option maxHeartbeats 4000000 in
theorem lay_5 (hL : G.L ≤ 260) : ∀ (m k : Nat), k + m = 9 → ∀ (X : zX) (n : Nat) (e5 e6 : Option Value), inv X n 0 → nolk X n → Z G mL_lay (zrm 16 20 120) k (6 * k) 5 [some (.ref 0), some (.ref zSI), some (.int 10), some (.int (nI n)), some (.int (nI k)), e5, e6] [] (zw X [] O) (layP O) := by
  intro m
  induction m with
  | zero =>
    intro k hk0 X n e5 e6 hI hl
    have h4 := hI.1
    refine z_iload dL_lay_5 rfl (q := 7) rfl ?_
    refine z_bipush (v := 9) dL_lay_7 rfl (q := 9) rfl ?_
    refine z_icmp_ge (tgt := 131) dL_lay_9 (by decide) (q := 12) rfl (fun h9 => ?_) (fun h9 => absurd (nI_le (a := 9) (b := k) (by omega) (by omega)) h9)
    refine z_iload_n (i := 3) dL_lay_131 rfl rfl (q := 132) rfl ?_
    exact z_iret dL_lay_132 rfl (zroom (by omega) (by omega)) ⟨n, X, rfl, rfl, hI, hl⟩
  | succ m ih =>
    intro k hk0 X n e5 e6 hI hl
    have h4 := hI.1
    refine z_iload dL_lay_5 rfl (q := 7) rfl ?_
    refine z_bipush (v := 9) dL_lay_7 rfl (q := 9) rfl ?_
    refine z_icmp_ge (tgt := 131) dL_lay_9 (by decide) (q := 12) rfl (fun h9 => absurd h9 (nI_ge (a := k) (b := 9) (by omega) (by omega))) (fun h9 => ?_)
    refine z_iload_n (i := 3) dL_lay_12 rfl rfl (q := 13) rfl ?_
    refine z_iconst (v := 4) dL_lay_13 rfl (q := 14) rfl ?_
    refine z_icmp_ge (tgt := 131) dL_lay_14 (by decide) (q := 17) rfl (fun h14 => ?_) (fun h14 => ?_)
    · refine z_iload_n (i := 3) dL_lay_131 rfl rfl (q := 132) rfl ?_
      exact z_iret dL_lay_132 rfl (zroom (by omega) (by omega)) ⟨n, X, rfl, rfl, hI, hl⟩
    · have hn : n < 4 := by
        have h9 : ¬ nI 4 ≤ nI n := h14
        rw [nI_leI (by omega) (by omega)] at h9
        omega
      refine z_iconst (v := 2) dL_lay_17 rfl (q := 18) rfl ?_
      refine z_aload_n (i := 1) dL_lay_18 rfl rfl (q := 19) rfl ?_
      refine z_iload_n (i := 2) dL_lay_19 rfl rfl (q := 20) rfl ?_
      refine z_iconst (v := 4) dL_lay_20 rfl (q := 21) rfl ?_
      refine z_iload dL_lay_21 rfl (q := 23) rfl ?_
      refine z_imul dL_lay_23 (q := 24) rfl ?_
      rw [show (4 : Int32) * nI (k) = nI (4 * k) from nI_mul (4) (k)]
      refine z_iadd dL_lay_24 (q := 25) rfl ?_
      rw [show (10 : Int32) + nI ((4 * k)) = nI (10 + (4 * k)) from nI_add (10) ((4 * k))]
      refine z_aload_n (i := 1) dL_lay_25 rfl rfl (q := 26) rfl ?_
      refine z_iload_n (i := 2) dL_lay_26 rfl rfl (q := 27) rfl ?_
      refine z_iconst (v := 4) dL_lay_27 rfl (q := 28) rfl ?_
      refine z_iload dL_lay_28 rfl (q := 30) rfl ?_
      refine z_imul dL_lay_30 (q := 31) rfl ?_
      rw [show (4 : Int32) * nI (k) = nI (4 * k) from nI_mul (4) (k)]
      refine z_iadd dL_lay_31 (q := 32) rfl ?_
      rw [show (10 : Int32) + nI ((4 * k)) = nI (10 + (4 * k)) from nI_add (10) ((4 * k))]
      refine z_iconst (v := 3) dL_lay_32 rfl (q := 33) rfl ?_
      refine z_callSP (i := (10 + (4 * k))) (m := 3) dL_lay_33 kL_141 rfl hL (by omega) (by omega) (by omega) rfl (zle rfl) ⟨zle rfl, zle rfl⟩ (zroom (by omega) (by omega)) (q := 36) rfl (fun v33 hv33 => ?_)
      refine z_if_ne (tgt := 44) dL_lay_36 (by decide) (q := 39) rfl (fun h36 => ?_) (fun h36 => ?_)
      · refine z_bipush (v := 30) dL_lay_44 rfl (q := 46) rfl ?_
        refine z_callSP (i := (10 + (4 * k))) (m := 30) dL_lay_46 kL_141 rfl hL (by omega) (by omega) (by omega) rfl (zle rfl) ⟨zle rfl, zle rfl⟩ (zroom (by omega) (by omega)) (q := 49) rfl (fun v46 hv46 => ?_)
        refine z_iadd dL_lay_49 (q := 50) rfl ?_
        rw [show (2 : Int32) + nI (v46) = nI (2 + v46) from nI_add (2) (v46)]
        refine z_istore dL_lay_50 (zle rfl) rfl (q := 52) rfl ?_
        refine z_iconst (v := 1) dL_lay_52 rfl (q := 53) rfl ?_
        refine z_aload_n (i := 1) dL_lay_53 rfl rfl (q := 54) rfl ?_
        refine z_iload_n (i := 2) dL_lay_54 rfl rfl (q := 55) rfl ?_
        refine z_iconst (v := 1) dL_lay_55 rfl (q := 56) rfl ?_
        refine z_iadd dL_lay_56 (q := 57) rfl ?_
        refine Z.eqst (st2 := .int 11 :: _) (congrArg (fun z : Int32 => Value.int z :: _) (by decide)) ?_
        refine z_iconst (v := 4) dL_lay_57 rfl (q := 58) rfl ?_
        refine z_iload dL_lay_58 rfl (q := 60) rfl ?_
        refine z_imul dL_lay_60 (q := 61) rfl ?_
        rw [show (4 : Int32) * nI (k) = nI (4 * k) from nI_mul (4) (k)]
        refine z_iadd dL_lay_61 (q := 62) rfl ?_
        rw [show (11 : Int32) + nI ((4 * k)) = nI (11 + (4 * k)) from nI_add (11) ((4 * k))]
        refine z_bipush (v := 30) dL_lay_62 rfl (q := 64) rfl ?_
        refine z_callSP (i := (11 + (4 * k))) (m := 30) dL_lay_64 kL_141 rfl hL (by omega) (by omega) (by omega) rfl (zle rfl) ⟨zle rfl, zle rfl⟩ (zroom (by omega) (by omega)) (q := 67) rfl (fun v64 hv64 => ?_)
        refine z_iadd dL_lay_67 (q := 68) rfl ?_
        rw [show (1 : Int32) + nI (v64) = nI (1 + v64) from nI_add (1) (v64)]
        refine z_istore dL_lay_68 (zle rfl) rfl (q := 70) rfl ?_
        refine z_iload_n (i := 3) dL_lay_70 rfl rfl (q := 71) rfl ?_
        refine z_aload_n (i := 0) dL_lay_71 rfl rfl (q := 72) rfl ?_
        refine z_iconst (v := 0) dL_lay_72 rfl (q := 73) rfl ?_
        refine z_aload_n (i := 1) dL_lay_73 rfl rfl (q := 74) rfl ?_
        refine z_iload_n (i := 2) dL_lay_74 rfl rfl (q := 75) rfl ?_
        refine z_iconst (v := 2) dL_lay_75 rfl (q := 76) rfl ?_
        refine z_iadd dL_lay_76 (q := 77) rfl ?_
        refine Z.eqst (st2 := .int 12 :: _) (congrArg (fun z : Int32 => Value.int z :: _) (by decide)) ?_
        refine z_iconst (v := 4) dL_lay_77 rfl (q := 78) rfl ?_
        refine z_iload dL_lay_78 rfl (q := 80) rfl ?_
        refine z_imul dL_lay_80 (q := 81) rfl ?_
        rw [show (4 : Int32) * nI (k) = nI (4 * k) from nI_mul (4) (k)]
        refine z_iadd dL_lay_81 (q := 82) rfl ?_
        rw [show (12 : Int32) + nI ((4 * k)) = nI (12 + (4 * k)) from nI_add (12) ((4 * k))]
        refine z_sipush (v := 201) dL_lay_82 rfl (q := 85) rfl ?_
        refine z_iload dL_lay_85 rfl (q := 87) rfl ?_
        refine z_isub dL_lay_87 (q := 88) rfl ?_
        rw [show (201 : Int32) - nI ((2 + v46)) = nI (201 - (2 + v46)) from nI_sub (a := 201) (b := (2 + v46)) (by omega)]
        refine z_callSP (i := (12 + (4 * k))) (m := (201 - (2 + v46))) dL_lay_88 kL_141 rfl hL (by omega) (by omega) (by omega) rfl (zle rfl) ⟨zle rfl, zle rfl⟩ (zroom (by omega) (by omega)) (q := 91) rfl (fun v88 hv88 => ?_)
        refine z_aload_n (i := 1) dL_lay_91 rfl rfl (q := 92) rfl ?_
        refine z_iload_n (i := 2) dL_lay_92 rfl rfl (q := 93) rfl ?_
        refine z_iconst (v := 3) dL_lay_93 rfl (q := 94) rfl ?_
        refine z_iadd dL_lay_94 (q := 95) rfl ?_
        refine Z.eqst (st2 := .int 13 :: _) (congrArg (fun z : Int32 => Value.int z :: _) (by decide)) ?_
        refine z_iconst (v := 4) dL_lay_95 rfl (q := 96) rfl ?_
        refine z_iload dL_lay_96 rfl (q := 98) rfl ?_
        refine z_imul dL_lay_98 (q := 99) rfl ?_
        rw [show (4 : Int32) * nI (k) = nI (4 * k) from nI_mul (4) (k)]
        refine z_iadd dL_lay_99 (q := 100) rfl ?_
        rw [show (13 : Int32) + nI ((4 * k)) = nI (13 + (4 * k)) from nI_add (13) ((4 * k))]
        refine z_bipush (v := 121) dL_lay_100 rfl (q := 102) rfl ?_
        refine z_iload dL_lay_102 rfl (q := 104) rfl ?_
        refine z_isub dL_lay_104 (q := 105) rfl ?_
        rw [show (121 : Int32) - nI ((1 + v64)) = nI (121 - (1 + v64)) from nI_sub (a := 121) (b := (1 + v64)) (by omega)]
        refine z_callSP (i := (13 + (4 * k))) (m := (121 - (1 + v64))) dL_lay_105 kL_141 rfl hL (by omega) (by omega) (by omega) rfl (zle rfl) ⟨zle rfl, zle rfl⟩ (zroom (by omega) (by omega)) (q := 108) rfl (fun v105 hv105 => ?_)
        refine z_iload dL_lay_108 rfl (q := 110) rfl ?_
        refine z_iload dL_lay_110 rfl (q := 112) rfl ?_
        refine z_callSWI (As := [_, _, _, _, _, _]) dL_lay_112 kL_145 (d_add hI hl) addP_int rfl (zle rfl) ⟨zle rfl, zle rfl⟩ (zroom (by omega) (by omega)) (q := 115) rfl (fun v112 w112 hw112 => ?_)
        rcases hw112 with ⟨v, h9, hv, rfl⟩ | ⟨h9, X3, rfl, hI3, hn4, hl3⟩
        · cases h9
          refine z_if_lt (tgt := 122) dL_lay_115 (by decide) (q := 118) rfl (fun h115 => ?_) (fun h115 => absurd hv h115)
          refine z_iconst (v := 0) dL_lay_122 rfl (q := 123) rfl ?_
          refine z_iadd dL_lay_123 (q := 124) rfl ?_
          rw [show nI (n) + (0 : Int32) = nI (n + 0) from nI_add (n) (0)]
          refine z_istore_n (i := 3) dL_lay_124 rfl (zle rfl) rfl (q := 125) rfl ?_
          refine z_iinc (v := nI (k + 1)) dL_lay_125 rfl (nI_add _ _) (zle rfl) rfl (q := 128) rfl ?_
          refine z_goto (tgt := 5) dL_lay_128 (by decide) ?_
          exact Z.widen (by omega) (by omega) (ih (k + 1) (by omega) _ _ _ _ hI hl)
        · cases h9
          refine z_if_lt (tgt := 122) dL_lay_115 (by decide) (q := 118) rfl (fun h115 => absurd h115 (nI_pos (by omega))) (fun h115 => ?_)
          refine z_iconst (v := 1) dL_lay_118 rfl (q := 119) rfl ?_
          refine z_goto (tgt := 123) dL_lay_119 (by decide) ?_
          refine z_iadd dL_lay_123 (q := 124) rfl ?_
          rw [show nI (n) + (1 : Int32) = nI (n + 1) from nI_add (n) (1)]
          refine z_istore_n (i := 3) dL_lay_124 rfl (zle rfl) rfl (q := 125) rfl ?_
          refine z_iinc (v := nI (k + 1)) dL_lay_125 rfl (nI_add _ _) (zle rfl) rfl (q := 128) rfl ?_
          refine z_goto (tgt := 5) dL_lay_128 (by decide) ?_
          exact Z.widen (by omega) (by omega) (ih (k + 1) (by omega) _ _ _ _ hI3 hl3)
      · refine z_bipush (v := 90) dL_lay_39 rfl (q := 41) rfl ?_
        refine z_goto (tgt := 46) dL_lay_41 (by decide) ?_
        refine z_callSP (i := (10 + (4 * k))) (m := 90) dL_lay_46 kL_141 rfl hL (by omega) (by omega) (by omega) rfl (zle rfl) ⟨zle rfl, zle rfl⟩ (zroom (by omega) (by omega)) (q := 49) rfl (fun v46 hv46 => ?_)
        refine z_iadd dL_lay_49 (q := 50) rfl ?_
        rw [show (2 : Int32) + nI (v46) = nI (2 + v46) from nI_add (2) (v46)]
        refine z_istore dL_lay_50 (zle rfl) rfl (q := 52) rfl ?_
        refine z_iconst (v := 1) dL_lay_52 rfl (q := 53) rfl ?_
        refine z_aload_n (i := 1) dL_lay_53 rfl rfl (q := 54) rfl ?_
        refine z_iload_n (i := 2) dL_lay_54 rfl rfl (q := 55) rfl ?_
        refine z_iconst (v := 1) dL_lay_55 rfl (q := 56) rfl ?_
        refine z_iadd dL_lay_56 (q := 57) rfl ?_
        refine Z.eqst (st2 := .int 11 :: _) (congrArg (fun z : Int32 => Value.int z :: _) (by decide)) ?_
        refine z_iconst (v := 4) dL_lay_57 rfl (q := 58) rfl ?_
        refine z_iload dL_lay_58 rfl (q := 60) rfl ?_
        refine z_imul dL_lay_60 (q := 61) rfl ?_
        rw [show (4 : Int32) * nI (k) = nI (4 * k) from nI_mul (4) (k)]
        refine z_iadd dL_lay_61 (q := 62) rfl ?_
        rw [show (11 : Int32) + nI ((4 * k)) = nI (11 + (4 * k)) from nI_add (11) ((4 * k))]
        refine z_bipush (v := 30) dL_lay_62 rfl (q := 64) rfl ?_
        refine z_callSP (i := (11 + (4 * k))) (m := 30) dL_lay_64 kL_141 rfl hL (by omega) (by omega) (by omega) rfl (zle rfl) ⟨zle rfl, zle rfl⟩ (zroom (by omega) (by omega)) (q := 67) rfl (fun v64 hv64 => ?_)
        refine z_iadd dL_lay_67 (q := 68) rfl ?_
        rw [show (1 : Int32) + nI (v64) = nI (1 + v64) from nI_add (1) (v64)]
        refine z_istore dL_lay_68 (zle rfl) rfl (q := 70) rfl ?_
        refine z_iload_n (i := 3) dL_lay_70 rfl rfl (q := 71) rfl ?_
        refine z_aload_n (i := 0) dL_lay_71 rfl rfl (q := 72) rfl ?_
        refine z_iconst (v := 0) dL_lay_72 rfl (q := 73) rfl ?_
        refine z_aload_n (i := 1) dL_lay_73 rfl rfl (q := 74) rfl ?_
        refine z_iload_n (i := 2) dL_lay_74 rfl rfl (q := 75) rfl ?_
        refine z_iconst (v := 2) dL_lay_75 rfl (q := 76) rfl ?_
        refine z_iadd dL_lay_76 (q := 77) rfl ?_
        refine Z.eqst (st2 := .int 12 :: _) (congrArg (fun z : Int32 => Value.int z :: _) (by decide)) ?_
        refine z_iconst (v := 4) dL_lay_77 rfl (q := 78) rfl ?_
        refine z_iload dL_lay_78 rfl (q := 80) rfl ?_
        refine z_imul dL_lay_80 (q := 81) rfl ?_
        rw [show (4 : Int32) * nI (k) = nI (4 * k) from nI_mul (4) (k)]
        refine z_iadd dL_lay_81 (q := 82) rfl ?_
        rw [show (12 : Int32) + nI ((4 * k)) = nI (12 + (4 * k)) from nI_add (12) ((4 * k))]
        refine z_sipush (v := 201) dL_lay_82 rfl (q := 85) rfl ?_
        refine z_iload dL_lay_85 rfl (q := 87) rfl ?_
        refine z_isub dL_lay_87 (q := 88) rfl ?_
        rw [show (201 : Int32) - nI ((2 + v46)) = nI (201 - (2 + v46)) from nI_sub (a := 201) (b := (2 + v46)) (by omega)]
        refine z_callSP (i := (12 + (4 * k))) (m := (201 - (2 + v46))) dL_lay_88 kL_141 rfl hL (by omega) (by omega) (by omega) rfl (zle rfl) ⟨zle rfl, zle rfl⟩ (zroom (by omega) (by omega)) (q := 91) rfl (fun v88 hv88 => ?_)
        refine z_aload_n (i := 1) dL_lay_91 rfl rfl (q := 92) rfl ?_
        refine z_iload_n (i := 2) dL_lay_92 rfl rfl (q := 93) rfl ?_
        refine z_iconst (v := 3) dL_lay_93 rfl (q := 94) rfl ?_
        refine z_iadd dL_lay_94 (q := 95) rfl ?_
        refine Z.eqst (st2 := .int 13 :: _) (congrArg (fun z : Int32 => Value.int z :: _) (by decide)) ?_
        refine z_iconst (v := 4) dL_lay_95 rfl (q := 96) rfl ?_
        refine z_iload dL_lay_96 rfl (q := 98) rfl ?_
        refine z_imul dL_lay_98 (q := 99) rfl ?_
        rw [show (4 : Int32) * nI (k) = nI (4 * k) from nI_mul (4) (k)]
        refine z_iadd dL_lay_99 (q := 100) rfl ?_
        rw [show (13 : Int32) + nI ((4 * k)) = nI (13 + (4 * k)) from nI_add (13) ((4 * k))]
        refine z_bipush (v := 121) dL_lay_100 rfl (q := 102) rfl ?_
        refine z_iload dL_lay_102 rfl (q := 104) rfl ?_
        refine z_isub dL_lay_104 (q := 105) rfl ?_
        rw [show (121 : Int32) - nI ((1 + v64)) = nI (121 - (1 + v64)) from nI_sub (a := 121) (b := (1 + v64)) (by omega)]
        refine z_callSP (i := (13 + (4 * k))) (m := (121 - (1 + v64))) dL_lay_105 kL_141 rfl hL (by omega) (by omega) (by omega) rfl (zle rfl) ⟨zle rfl, zle rfl⟩ (zroom (by omega) (by omega)) (q := 108) rfl (fun v105 hv105 => ?_)
        refine z_iload dL_lay_108 rfl (q := 110) rfl ?_
        refine z_iload dL_lay_110 rfl (q := 112) rfl ?_
        refine z_callSWI (As := [_, _, _, _, _, _]) dL_lay_112 kL_145 (d_add hI hl) addP_int rfl (zle rfl) ⟨zle rfl, zle rfl⟩ (zroom (by omega) (by omega)) (q := 115) rfl (fun v112 w112 hw112 => ?_)
        rcases hw112 with ⟨v, h9, hv, rfl⟩ | ⟨h9, X3, rfl, hI3, hn4, hl3⟩
        · cases h9
          refine z_if_lt (tgt := 122) dL_lay_115 (by decide) (q := 118) rfl (fun h115 => ?_) (fun h115 => absurd hv h115)
          refine z_iconst (v := 0) dL_lay_122 rfl (q := 123) rfl ?_
          refine z_iadd dL_lay_123 (q := 124) rfl ?_
          rw [show nI (n) + (0 : Int32) = nI (n + 0) from nI_add (n) (0)]
          refine z_istore_n (i := 3) dL_lay_124 rfl (zle rfl) rfl (q := 125) rfl ?_
          refine z_iinc (v := nI (k + 1)) dL_lay_125 rfl (nI_add _ _) (zle rfl) rfl (q := 128) rfl ?_
          refine z_goto (tgt := 5) dL_lay_128 (by decide) ?_
          exact Z.widen (by omega) (by omega) (ih (k + 1) (by omega) _ _ _ _ hI hl)
        · cases h9
          refine z_if_lt (tgt := 122) dL_lay_115 (by decide) (q := 118) rfl (fun h115 => absurd h115 (nI_pos (by omega))) (fun h115 => ?_)
          refine z_iconst (v := 1) dL_lay_118 rfl (q := 119) rfl ?_
          refine z_goto (tgt := 123) dL_lay_119 (by decide) ?_
          refine z_iadd dL_lay_123 (q := 124) rfl ?_
          rw [show nI (n) + (1 : Int32) = nI (n + 1) from nI_add (n) (1)]
          refine z_istore_n (i := 3) dL_lay_124 rfl (zle rfl) rfl (q := 125) rfl ?_
          refine z_iinc (v := nI (k + 1)) dL_lay_125 rfl (nI_add _ _) (zle rfl) rfl (q := 128) rfl ?_
          refine z_goto (tgt := 5) dL_lay_128 (by decide) ?_
          exact Z.widen (by omega) (by omega) (ih (k + 1) (by omega) _ _ _ _ hI3 hl3)
set_option maxRecDepth 100000 in
set_option maxHeartbeats 4000000 in
theorem c_L_lay (hL : G.L ≤ 260) (hI : inv X 0 0) : ZM G mL_lay 16 20 120 [.ref 0, .ref zSI, .int 10] (zw X [] O) (layP O) := by
  refine ZM.go pL rfl rfl (zle rfl) (zl := [some (.ref 0), some (.ref zSI), some (.int 10), none, none, none, none]) rfl ?_
  refine z_iconst (v := 0) dL_lay_0 rfl (q := 1) rfl ?_
  refine z_istore_n (i := 3) dL_lay_1 rfl (zle rfl) rfl (q := 2) rfl ?_
  refine z_iconst (v := 0) dL_lay_2 rfl (q := 3) rfl ?_
  refine z_istore dL_lay_3 (zle rfl) rfl (q := 5) rfl ?_
  exact lay_5 hL 9 0 (by omega) X 0 _ _ hI (fun j h => absurd h (Nat.not_lt_zero j))
end
