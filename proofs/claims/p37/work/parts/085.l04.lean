section
variable {G : zG} {X X1 X2 X3 : zX} {Y : zY} {O : zO}
set_option maxRecDepth 100000 in
set_option maxHeartbeats 4000000 in
theorem far_mono {n g g2 d d2 : Nat} (h4 : n ≤ 4) (hd : d ≤ d2) (hd2 : d2 < 1000) (hg : g < 64) (hg2 : g2 < 64) (h : linked X n (nI d) g) (h2 : linked X n (nI d2) g2) : nI (gcn n g2) ≤ nI (gcn n g) := by
  have h9 := gcn_le4 n (by omega) g hg
  refine nI_le (gcn_mono h4 hg hg2 fun i j hij hj ht => ?_) (by omega)
  exact (h2 i j (by omega) hj (by omega)).mp (Int32.le_trans ((h i j (by omega) hj (by omega)).mpr ht) (nI_le hd (by omega)))
set_option maxRecDepth 100000 in
set_option maxHeartbeats 4000000 in
theorem ways_far {n nw : Nat} (hI : inv X n nw) : ∀ (m i : Nat), i + m = 9 → ∀ (X1 : zX) (bf : Int32) (e4 : Option Value), keep0 X X1 → (∀ g, g < 64 → linked X n (nI (25 * i)) g → nI (gcn n g) ≤ bf) → Z G mL_areWays (zrm 17 60 360) (10 + 2 * i) (60 + 12 * i) 102 [some (.ref 0), some (.int 1), some (.int bf), some (.int (nI (25 * i))), e4] [] (zw X1 Y O) (aP X Y O 1 True) := by
  intro m
  induction m with
  | zero =>
    intro i hi X1 bf e4 hk hb
    refine z_iload_n (i := 3) dL_areWays_102 rfl rfl (q := 103) rfl ?_
    refine z_sipush (v := 200) dL_areWays_103 rfl (q := 106) rfl ?_
    refine z_icmp_gt (tgt := 159) dL_areWays_106 (by decide) (q := 109) rfl (fun h106 => ?_) (fun h106 => absurd (nI_lt (a := 200) (b := 25 * i) (by omega) (by omega)) h106)
    refine z_iload_n (i := 1) dL_areWays_159 rfl rfl (q := 160) rfl ?_
    refine z_if_eq (tgt := 215) dL_areWays_160 (by decide) (q := 163) rfl (fun h160 => absurd h160 (by decide)) (fun h160 => ?_)
    refine z_aload_n (i := 0) dL_areWays_163 rfl rfl (q := 164) rfl ?_
    refine z_bipush (v := 9) dL_areWays_164 rfl (q := 166) rfl ?_
    refine z_bipush (v := 122) dL_areWays_166 rfl (q := 168) rfl ?_
    refine z_iconst (v := 0) dL_areWays_168 rfl (q := 169) rfl ?_
    refine z_iconst (v := 0) dL_areWays_169 rfl (q := 170) rfl ?_
    refine z_callSWA (As := [_, _, _, _, _]) dL_areWays_170 kL_151 (a_best_z hk) rfl (zle rfl) ⟨zle rfl, zle rfl⟩ (zroom (by omega) (by omega)) (q := 173) rfl (fun hE170 X170 hk170 => ?_)
    refine z_sipush (v := (-2002)) dL_areWays_173 rfl (q := 176) rfl ?_
    refine z_icmp_ne (tgt := 215) dL_areWays_176 (by decide) (q := 179) rfl (fun h176 => absurd h176 (by decide)) (fun h176 => ?_)
    refine z_aload_n (i := 0) dL_areWays_179 rfl rfl (q := 180) rfl ?_
    refine z_bipush (v := 18) dL_areWays_180 rfl (q := 182) rfl ?_
    refine z_sipush (v := 201) dL_areWays_182 rfl (q := 185) rfl ?_
    refine z_iconst (v := 0) dL_areWays_185 rfl (q := 186) rfl ?_
    refine z_iconst (v := 0) dL_areWays_186 rfl (q := 187) rfl ?_
    refine z_callSWA (As := [_, _, _, _, _]) dL_areWays_187 kL_151 (a_groups_o hk170) rfl (zle rfl) ⟨zle rfl, zle rfl⟩ (zroom (by omega) (by omega)) (q := 190) rfl (fun hE187 X187 hk187 => ?_)
    refine z_sipush (v := (-2002)) dL_areWays_190 rfl (q := 193) rfl ?_
    refine z_icmp_ne (tgt := 215) dL_areWays_193 (by decide) (q := 196) rfl (fun h193 => absurd h193 (by decide)) (fun h193 => ?_)
    refine z_aload_n (i := 0) dL_areWays_196 rfl rfl (q := 197) rfl ?_
    refine z_bipush (v := 19) dL_areWays_197 rfl (q := 199) rfl ?_
    refine z_iconst (v := (-1)) dL_areWays_199 rfl (q := 200) rfl ?_
    refine z_iconst (v := 0) dL_areWays_200 rfl (q := 201) rfl ?_
    refine z_iconst (v := 0) dL_areWays_201 rfl (q := 202) rfl ?_
    refine z_callSWA (As := [_, _, _, _, _]) dL_areWays_202 kL_151 (a_links_o hk187) rfl (zle rfl) ⟨zle rfl, zle rfl⟩ (zroom (by omega) (by omega)) (q := 205) rfl (fun hE202 X202 hk202 => ?_)
    refine z_sipush (v := (-2002)) dL_areWays_205 rfl (q := 208) rfl ?_
    refine z_icmp_ne (tgt := 215) dL_areWays_208 (by decide) (q := 211) rfl (fun h208 => absurd h208 (by decide)) (fun h208 => ?_)
    refine z_iconst (v := 1) dL_areWays_211 rfl (q := 212) rfl ?_
    refine z_goto (tgt := 216) dL_areWays_212 (by decide) ?_
    exact z_zret dL_areWays_216 rfl (by first | rfl | assumption | decide) (zroom (by omega) (by omega)) ⟨rfl, trivial, _, rfl, hk202⟩
  | succ m ih =>
    intro i hi X1 bf e4 hk hb
    obtain ⟨g, hg, hl⟩ := linked_ex X hI.1 (nI (25 * i))
    refine z_iload_n (i := 3) dL_areWays_102 rfl rfl (q := 103) rfl ?_
    refine z_sipush (v := 200) dL_areWays_103 rfl (q := 106) rfl ?_
    refine z_icmp_gt (tgt := 159) dL_areWays_106 (by decide) (q := 109) rfl (fun h106 => absurd h106 (nI_nlt (a := 200) (b := 25 * i) (by omega) (by omega))) (fun h106 => ?_)
    refine z_iload_n (i := 1) dL_areWays_109 rfl rfl (q := 110) rfl ?_
    refine z_if_eq (tgt := 159) dL_areWays_110 (by decide) (q := 113) rfl (fun h110 => absurd h110 (by decide)) (fun h110 => ?_)
    refine z_aload_n (i := 0) dL_areWays_113 rfl rfl (q := 114) rfl ?_
    refine z_bipush (v := 18) dL_areWays_114 rfl (q := 116) rfl ?_
    refine z_iload_n (i := 3) dL_areWays_116 rfl rfl (q := 117) rfl ?_
    refine z_iconst (v := 0) dL_areWays_117 rfl (q := 118) rfl ?_
    refine z_iconst (v := 0) dL_areWays_118 rfl (q := 119) rfl ?_
    refine z_callSWA (As := [_, _, _, _, _]) dL_areWays_119 kL_151 (a_groups (d := 25 * i) hI hk (by omega) hl) rfl (zle rfl) ⟨zle rfl, zle rfl⟩ (zroom (by omega) (by omega)) (q := 122) rfl (fun hE119 X119 hk119 => ?_)
    refine z_istore dL_areWays_122 (zle rfl) rfl (q := 124) rfl ?_
    refine z_iload dL_areWays_124 rfl (q := 126) rfl ?_
    refine z_aload_n (i := 0) dL_areWays_126 rfl rfl (q := 127) rfl ?_
    refine z_bipush (v := 19) dL_areWays_127 rfl (q := 129) rfl ?_
    refine z_iload_n (i := 3) dL_areWays_129 rfl rfl (q := 130) rfl ?_
    refine z_iconst (v := 0) dL_areWays_130 rfl (q := 131) rfl ?_
    refine z_iconst (v := 0) dL_areWays_131 rfl (q := 132) rfl ?_
    refine z_callSWA (As := [_, _, _, _, _]) dL_areWays_132 kL_151 (a_links (d := 25 * i) hI hk119 (by omega) hl hg) rfl (zle rfl) ⟨zle rfl, zle rfl⟩ (zroom (by omega) (by omega)) (q := 135) rfl (fun hE132 X132 hk132 => ?_)
    refine z_icmp_ne (tgt := 148) dL_areWays_135 (by decide) (q := 138) rfl (fun h135 => absurd h135 (fun h9 => h9 rfl)) (fun h135 => ?_)
    refine z_iload dL_areWays_138 rfl (q := 140) rfl ?_
    refine z_iload_n (i := 2) dL_areWays_140 rfl rfl (q := 141) rfl ?_
    refine z_icmp_gt (tgt := 148) dL_areWays_141 (by decide) (q := 144) rfl (fun h141 => absurd h141 (Int32.not_lt.mpr (hb g hg hl))) (fun h141 => ?_)
    refine z_iconst (v := 1) dL_areWays_144 rfl (q := 145) rfl ?_
    refine z_goto (tgt := 149) dL_areWays_145 (by decide) ?_
    refine z_istore_n (i := 1) dL_areWays_149 rfl (zle rfl) rfl (q := 150) rfl ?_
    refine z_iload dL_areWays_150 rfl (q := 152) rfl ?_
    refine z_istore_n (i := 2) dL_areWays_152 rfl (zle rfl) rfl (q := 153) rfl ?_
    refine z_iinc (v := nI (25 * i + 25)) dL_areWays_153 rfl (nI_add _ _) (zle rfl) rfl (q := 156) rfl ?_
    refine z_goto (tgt := 102) dL_areWays_156 (by decide) ?_
    exact Z.widen (by omega) (by omega) (ih (i + 1) (by omega) _ _ _ hk132 fun g2 hg2 hl2 => far_mono hI.1 (by omega) (by omega) hg hg2 hl hl2)
set_option maxRecDepth 100000 in
set_option maxHeartbeats 4000000 in
theorem c_L_areWays {n nw : Nat} (hI : inv X n nw) (hk : keep0 X X1) : ZM G mL_areWays 17 60 360 [.ref 0] (zw X1 Y O) (aP X Y O 1 True) := by
  refine ZM.go pL rfl rfl (zle rfl) (zl := [some (.ref 0), none, none, none, none]) rfl ?_
  refine z_iconst (v := 1) dL_areWays_0 rfl (q := 1) rfl ?_
  refine z_istore_n (i := 1) dL_areWays_1 rfl (zle rfl) rfl (q := 2) rfl ?_
  refine z_iconst (v := 0) dL_areWays_2 rfl (q := 3) rfl ?_
  refine z_istore_n (i := 2) dL_areWays_3 rfl (zle rfl) rfl (q := 4) rfl ?_
  refine z_iload_n (i := 2) dL_areWays_4 rfl rfl (q := 5) rfl ?_
  refine z_iconst (v := 2) dL_areWays_5 rfl (q := 6) rfl ?_
  refine z_icmp_ge (tgt := 97) dL_areWays_6 (by decide) (q := 9) rfl (fun h6 => absurd h6 (by decide)) (fun h6 => ?_)
  refine z_aload_n (i := 0) dL_areWays_9 rfl rfl (q := 10) rfl ?_
  refine z_bipush (v := 9) dL_areWays_10 rfl (q := 12) rfl ?_
  refine z_iload_n (i := 2) dL_areWays_12 rfl rfl (q := 13) rfl ?_
  refine z_callSF (As := [_]) dL_areWays_13 kL_148 (c_L_axis (t := 0) (by decide)) rfl (zle rfl) ⟨zle rfl, zle rfl⟩ (zroom (by omega) (by omega)) (q := 16) rfl ?_
  refine z_iconst (v := 0) dL_areWays_16 rfl (q := 17) rfl ?_
  refine z_iconst (v := 0) dL_areWays_17 rfl (q := 18) rfl ?_
  refine z_callSWA (As := [_, _, _, _, _]) dL_areWays_18 kL_151 (a_best (t := 0) hI hk (by decide)) rfl (zle rfl) ⟨zle rfl, zle rfl⟩ (zroom (by omega) (by omega)) (q := 21) rfl (fun hE18 X18 hk18 => ?_)
  refine z_istore_n (i := 3) dL_areWays_21 rfl (zle rfl) rfl (q := 22) rfl ?_
  refine z_iload_n (i := 1) dL_areWays_22 rfl rfl (q := 23) rfl ?_
  refine z_if_eq (tgt := 89) dL_areWays_23 (by decide) (q := 26) rfl (fun h23 => absurd h23 (by decide)) (fun h23 => ?_)
  refine z_iload_n (i := 3) dL_areWays_26 rfl rfl (q := 27) rfl ?_
  refine z_aload_n (i := 0) dL_areWays_27 rfl rfl (q := 28) rfl ?_
  refine z_bipush (v := 10) dL_areWays_28 rfl (q := 30) rfl ?_
  refine z_iload_n (i := 2) dL_areWays_30 rfl rfl (q := 31) rfl ?_
  refine z_callSF (As := [_]) dL_areWays_31 kL_148 (c_L_axis (t := 0) (by decide)) rfl (zle rfl) ⟨zle rfl, zle rfl⟩ (zroom (by omega) (by omega)) (q := 34) rfl ?_
  refine z_iconst (v := 0) dL_areWays_34 rfl (q := 35) rfl ?_
  refine z_iconst (v := 0) dL_areWays_35 rfl (q := 36) rfl ?_
  refine z_callSWA (As := [_, _, _, _, _]) dL_areWays_36 kL_151 (a_bestAll (t := 0) hI hk18 (by decide)) rfl (zle rfl) ⟨zle rfl, zle rfl⟩ (zroom (by omega) (by omega)) (q := 39) rfl (fun hE36 X36 hk36 => ?_)
  refine z_icmp_ne (tgt := 89) dL_areWays_39 (by decide) (q := 42) rfl (fun h39 => absurd h39 (fun h9 => h9 rfl)) (fun h39 => ?_)
  refine z_iload_n (i := 3) dL_areWays_42 rfl rfl (q := 43) rfl ?_
  refine z_aload_n (i := 0) dL_areWays_43 rfl rfl (q := 44) rfl ?_
  refine z_bipush (v := 7) dL_areWays_44 rfl (q := 46) rfl ?_
  refine z_iload_n (i := 2) dL_areWays_46 rfl rfl (q := 47) rfl ?_
  refine z_callSF (As := [_]) dL_areWays_47 kL_148 (c_L_axis (t := 0) (by decide)) rfl (zle rfl) ⟨zle rfl, zle rfl⟩ (zroom (by omega) (by omega)) (q := 50) rfl ?_
  refine z_iconst (v := 0) dL_areWays_50 rfl (q := 51) rfl ?_
  refine z_iconst (v := 0) dL_areWays_51 rfl (q := 52) rfl ?_
  refine z_callSWA (As := [_, _, _, _, _]) dL_areWays_52 kL_151 (a_strength (t := 0) hI hk36 (by decide)) rfl (zle rfl) ⟨zle rfl, zle rfl⟩ (zroom (by omega) (by omega)) (q := 55) rfl (fun hE52 X52 hk52 => ?_)
  refine z_icmp_lt (tgt := 89) dL_areWays_55 (by decide) (q := 58) rfl (fun h55 => absurd h55 (Int32.not_lt.mpr (td_facts hI (by decide) hE18).2.2.1)) (fun h55 => ?_)
  refine z_aload_n (i := 0) dL_areWays_58 rfl rfl (q := 59) rfl ?_
  refine z_bipush (v := 13) dL_areWays_59 rfl (q := 61) rfl ?_
  refine z_iload_n (i := 2) dL_areWays_61 rfl rfl (q := 62) rfl ?_
  refine z_callSF (As := [_]) dL_areWays_62 kL_148 (c_L_axis (t := 0) (by decide)) rfl (zle rfl) ⟨zle rfl, zle rfl⟩ (zroom (by omega) (by omega)) (q := 65) rfl ?_
  refine z_iconst (v := 0) dL_areWays_65 rfl (q := 66) rfl ?_
  refine z_iconst (v := 0) dL_areWays_66 rfl (q := 67) rfl ?_
  refine z_callSWA (As := [_, _, _, _, _]) dL_areWays_67 kL_151 (a_evenCost (t := 0) hI hk52 (by decide)) rfl (zle rfl) ⟨zle rfl, zle rfl⟩ (zroom (by omega) (by omega)) (q := 70) rfl (fun hE67 X67 hk67 => ?_)
  refine z_aload_n (i := 0) dL_areWays_70 rfl rfl (q := 71) rfl ?_
  refine z_bipush (v := 14) dL_areWays_71 rfl (q := 73) rfl ?_
  refine z_iload_n (i := 2) dL_areWays_73 rfl rfl (q := 74) rfl ?_
  refine z_callSF (As := [_]) dL_areWays_74 kL_148 (c_L_axis (t := 0) (by decide)) rfl (zle rfl) ⟨zle rfl, zle rfl⟩ (zroom (by omega) (by omega)) (q := 77) rfl ?_
  refine z_iconst (v := 0) dL_areWays_77 rfl (q := 78) rfl ?_
  refine z_iconst (v := 0) dL_areWays_78 rfl (q := 79) rfl ?_
  refine z_callSWA (As := [_, _, _, _, _]) dL_areWays_79 kL_151 (a_evenAll (t := 0) hI hk67 (by decide)) rfl (zle rfl) ⟨zle rfl, zle rfl⟩ (zroom (by omega) (by omega)) (q := 82) rfl (fun hE79 X79 hk79 => ?_)
  refine z_icmp_ne (tgt := 89) dL_areWays_82 (by decide) (q := 85) rfl (fun h82 => absurd h82 (fun h9 => h9 rfl)) (fun h82 => ?_)
  refine z_iconst (v := 1) dL_areWays_85 rfl (q := 86) rfl ?_
  refine z_goto (tgt := 90) dL_areWays_86 (by decide) ?_
  refine z_istore_n (i := 1) dL_areWays_90 rfl (zle rfl) rfl (q := 91) rfl ?_
  refine z_iinc (v := 1) dL_areWays_91 rfl (by decide) (zle rfl) rfl (q := 94) rfl ?_
  refine z_goto (tgt := 4) dL_areWays_94 (by decide) ?_
  refine z_iload_n (i := 2) dL_areWays_4 rfl rfl (q := 5) rfl ?_
  refine z_iconst (v := 2) dL_areWays_5 rfl (q := 6) rfl ?_
  refine z_icmp_ge (tgt := 97) dL_areWays_6 (by decide) (q := 9) rfl (fun h6 => absurd h6 (by decide)) (fun h6 => ?_)
  refine z_aload_n (i := 0) dL_areWays_9 rfl rfl (q := 10) rfl ?_
  refine z_bipush (v := 9) dL_areWays_10 rfl (q := 12) rfl ?_
  refine z_iload_n (i := 2) dL_areWays_12 rfl rfl (q := 13) rfl ?_
  refine z_callSF (As := [_]) dL_areWays_13 kL_148 (c_L_axis (t := 1) (by decide)) rfl (zle rfl) ⟨zle rfl, zle rfl⟩ (zroom (by omega) (by omega)) (q := 16) rfl ?_
  refine z_iconst (v := 0) dL_areWays_16 rfl (q := 17) rfl ?_
  refine z_iconst (v := 0) dL_areWays_17 rfl (q := 18) rfl ?_
  refine z_callSWA (As := [_, _, _, _, _]) dL_areWays_18 kL_151 (a_best (t := 1) hI hk79 (by decide)) rfl (zle rfl) ⟨zle rfl, zle rfl⟩ (zroom (by omega) (by omega)) (q := 21) rfl (fun hE18 X18 hk18 => ?_)
  refine z_istore_n (i := 3) dL_areWays_21 rfl (zle rfl) rfl (q := 22) rfl ?_
  refine z_iload_n (i := 1) dL_areWays_22 rfl rfl (q := 23) rfl ?_
  refine z_if_eq (tgt := 89) dL_areWays_23 (by decide) (q := 26) rfl (fun h23 => absurd h23 (by decide)) (fun h23 => ?_)
  refine z_iload_n (i := 3) dL_areWays_26 rfl rfl (q := 27) rfl ?_
  refine z_aload_n (i := 0) dL_areWays_27 rfl rfl (q := 28) rfl ?_
  refine z_bipush (v := 10) dL_areWays_28 rfl (q := 30) rfl ?_
  refine z_iload_n (i := 2) dL_areWays_30 rfl rfl (q := 31) rfl ?_
  refine z_callSF (As := [_]) dL_areWays_31 kL_148 (c_L_axis (t := 1) (by decide)) rfl (zle rfl) ⟨zle rfl, zle rfl⟩ (zroom (by omega) (by omega)) (q := 34) rfl ?_
  refine z_iconst (v := 0) dL_areWays_34 rfl (q := 35) rfl ?_
  refine z_iconst (v := 0) dL_areWays_35 rfl (q := 36) rfl ?_
  refine z_callSWA (As := [_, _, _, _, _]) dL_areWays_36 kL_151 (a_bestAll (t := 1) hI hk18 (by decide)) rfl (zle rfl) ⟨zle rfl, zle rfl⟩ (zroom (by omega) (by omega)) (q := 39) rfl (fun hE36 X36 hk36 => ?_)
  refine z_icmp_ne (tgt := 89) dL_areWays_39 (by decide) (q := 42) rfl (fun h39 => absurd h39 (fun h9 => h9 rfl)) (fun h39 => ?_)
  refine z_iload_n (i := 3) dL_areWays_42 rfl rfl (q := 43) rfl ?_
  refine z_aload_n (i := 0) dL_areWays_43 rfl rfl (q := 44) rfl ?_
  refine z_bipush (v := 7) dL_areWays_44 rfl (q := 46) rfl ?_
  refine z_iload_n (i := 2) dL_areWays_46 rfl rfl (q := 47) rfl ?_
  refine z_callSF (As := [_]) dL_areWays_47 kL_148 (c_L_axis (t := 1) (by decide)) rfl (zle rfl) ⟨zle rfl, zle rfl⟩ (zroom (by omega) (by omega)) (q := 50) rfl ?_
  refine z_iconst (v := 0) dL_areWays_50 rfl (q := 51) rfl ?_
  refine z_iconst (v := 0) dL_areWays_51 rfl (q := 52) rfl ?_
  refine z_callSWA (As := [_, _, _, _, _]) dL_areWays_52 kL_151 (a_strength (t := 1) hI hk36 (by decide)) rfl (zle rfl) ⟨zle rfl, zle rfl⟩ (zroom (by omega) (by omega)) (q := 55) rfl (fun hE52 X52 hk52 => ?_)
  refine z_icmp_lt (tgt := 89) dL_areWays_55 (by decide) (q := 58) rfl (fun h55 => absurd h55 (Int32.not_lt.mpr (td_facts hI (by decide) hE18).2.2.1)) (fun h55 => ?_)
  refine z_aload_n (i := 0) dL_areWays_58 rfl rfl (q := 59) rfl ?_
  refine z_bipush (v := 13) dL_areWays_59 rfl (q := 61) rfl ?_
  refine z_iload_n (i := 2) dL_areWays_61 rfl rfl (q := 62) rfl ?_
  refine z_callSF (As := [_]) dL_areWays_62 kL_148 (c_L_axis (t := 1) (by decide)) rfl (zle rfl) ⟨zle rfl, zle rfl⟩ (zroom (by omega) (by omega)) (q := 65) rfl ?_
  refine z_iconst (v := 0) dL_areWays_65 rfl (q := 66) rfl ?_
  refine z_iconst (v := 0) dL_areWays_66 rfl (q := 67) rfl ?_
  refine z_callSWA (As := [_, _, _, _, _]) dL_areWays_67 kL_151 (a_evenCost (t := 1) hI hk52 (by decide)) rfl (zle rfl) ⟨zle rfl, zle rfl⟩ (zroom (by omega) (by omega)) (q := 70) rfl (fun hE67 X67 hk67 => ?_)
  refine z_aload_n (i := 0) dL_areWays_70 rfl rfl (q := 71) rfl ?_
  refine z_bipush (v := 14) dL_areWays_71 rfl (q := 73) rfl ?_
  refine z_iload_n (i := 2) dL_areWays_73 rfl rfl (q := 74) rfl ?_
  refine z_callSF (As := [_]) dL_areWays_74 kL_148 (c_L_axis (t := 1) (by decide)) rfl (zle rfl) ⟨zle rfl, zle rfl⟩ (zroom (by omega) (by omega)) (q := 77) rfl ?_
  refine z_iconst (v := 0) dL_areWays_77 rfl (q := 78) rfl ?_
  refine z_iconst (v := 0) dL_areWays_78 rfl (q := 79) rfl ?_
  refine z_callSWA (As := [_, _, _, _, _]) dL_areWays_79 kL_151 (a_evenAll (t := 1) hI hk67 (by decide)) rfl (zle rfl) ⟨zle rfl, zle rfl⟩ (zroom (by omega) (by omega)) (q := 82) rfl (fun hE79 X79 hk79 => ?_)
  refine z_icmp_ne (tgt := 89) dL_areWays_82 (by decide) (q := 85) rfl (fun h82 => absurd h82 (fun h9 => h9 rfl)) (fun h82 => ?_)
  refine z_iconst (v := 1) dL_areWays_85 rfl (q := 86) rfl ?_
  refine z_goto (tgt := 90) dL_areWays_86 (by decide) ?_
  refine z_istore_n (i := 1) dL_areWays_90 rfl (zle rfl) rfl (q := 91) rfl ?_
  refine z_iinc (v := 2) dL_areWays_91 rfl (by decide) (zle rfl) rfl (q := 94) rfl ?_
  refine z_goto (tgt := 4) dL_areWays_94 (by decide) ?_
  refine z_iload_n (i := 2) dL_areWays_4 rfl rfl (q := 5) rfl ?_
  refine z_iconst (v := 2) dL_areWays_5 rfl (q := 6) rfl ?_
  refine z_icmp_ge (tgt := 97) dL_areWays_6 (by decide) (q := 9) rfl (fun h6 => ?_) (fun h6 => absurd h6 (by decide))
  refine z_bipush (v := 9) dL_areWays_97 rfl (q := 99) rfl ?_
  refine z_istore_n (i := 2) dL_areWays_99 rfl (zle rfl) rfl (q := 100) rfl ?_
  refine z_iconst (v := 0) dL_areWays_100 rfl (q := 101) rfl ?_
  refine z_istore_n (i := 3) dL_areWays_101 rfl (zle rfl) rfl (q := 102) rfl ?_
  exact Z.widen (by omega) (by omega) (ways_far hI 9 0 (by omega) _ 9 _ hk79 fun g hg hl => nI_le (b := 9) (by have := gcn_le4 n (by have := hI.1; omega) g hg; omega) (by omega))
end
