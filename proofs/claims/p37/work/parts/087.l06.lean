section
variable {G : zG} {X X1 X2 X3 : zX} {Y : zY} {O : zO}
set_option maxRecDepth 100000 in
set_option maxHeartbeats 4000000 in
theorem up_lt {k : Nat} {f h : Nat → Int32} {v : Int32} (hf : ∀ j, j < k → f j = h j) (hv : v = h k) : ∀ j, j < k + 1 → upd f k v j = h j := fun j hj => by
  by_cases e : j = k
  · rw [e, pk_us, hv]
  · rw [pk_un e]
    exact hf j (by omega)
set_option maxRecDepth 100000 in
set_option maxHeartbeats 4000000 in
theorem tid_1_0 {n nw : Nat} {lo : Int32} {P : zRes → zWorld → Prop} (hI : inv X n nw) (kk : ∀ (X2 : zX) (f g : Nat → Int32) (e7 : Option Value), keep0 X X2 → (∀ j, j < n → f j = tS X 0 n nw j) → (∀ j, j < n → g j = X.2.1 (2 * 1) j) → Z G mL_isTidied (zrm 17 40 240) 14 80 81 [some (.ref 0), some (.int (nI n)), some (.int 0), some (.int lo), some (.ref 77), some (.ref 78), some (.int (cst X 0 n (tS X 0 n nw))), e7, none, none, none, none, none] [] (zw X2 (ar2 f g) O) P) : ∀ (m k : Nat), k + m = n → ∀ (X1 : zX) (f g : Nat → Int32) (a : Int32), keep0 X X1 → (∀ j, j < k → f j = tS X 0 n nw j) → (∀ j, j < k → g j = X.2.1 (2 * 1) j) → rsum (fun k => iabs (tS X 0 n nw k - X.2.1 (2 * 0) k)) k m a = cst X 0 n (tS X 0 n nw) → Z G mL_isTidied (zrm 17 40 240) (2 + 3 * k) (8 + 18 * k) 16 [some (.ref 0), some (.int (nI n)), some (.int 0), some (.int lo), some (.ref 77), some (.ref 78), some (.int a), some (.int (nI k)), none, none, none, none, none] [] (zw X1 (ar2 f g) O) P := by
  have h4 := hI.1
  intro m
  induction m with
  | zero =>
    intro k hk0 X1 f g a hk hf hg hs
    have ha : a = cst X 0 n (tS X 0 n nw) := hs
    rw [ha]
    refine z_iload dL_isTidied_16 rfl (q := 18) rfl ?_
    refine z_iload_n (i := 1) dL_isTidied_18 rfl rfl (q := 19) rfl ?_
    refine z_icmp_ge (tgt := 81) dL_isTidied_19 (by decide) (q := 22) rfl (fun h19 => ?_) (fun h19 => absurd (nI_le (show n ≤ k by omega) (by omega)) h19)
    exact Z.widen (by omega) (by omega) (kk _ _ _ _ hk (fun j hj => hf j (by omega)) (fun j hj => hg j (by omega)))
  | succ m ih =>
    intro k hk0 X1 f g a hk hf hg hs
    refine z_iload dL_isTidied_16 rfl (q := 18) rfl ?_
    refine z_iload_n (i := 1) dL_isTidied_18 rfl rfl (q := 19) rfl ?_
    refine z_icmp_ge (tgt := 81) dL_isTidied_19 (by decide) (q := 22) rfl (fun h19 => absurd h19 (nI_ge (show k < n by omega) (by omega))) (fun h19 => ?_)
    refine z_aload dL_isTidied_22 rfl (q := 24) rfl ?_
    refine z_iload dL_isTidied_24 rfl (q := 26) rfl ?_
    refine z_aload_n (i := 0) dL_isTidied_26 rfl rfl (q := 27) rfl ?_
    refine z_bipush (v := 12) dL_isTidied_27 rfl (q := 29) rfl ?_
    refine z_iload dL_isTidied_29 rfl (q := 31) rfl ?_
    refine z_iload_n (i := 2) dL_isTidied_31 rfl rfl (q := 32) rfl ?_
    refine z_callSF (As := [_]) dL_isTidied_32 kL_148 (c_L_axis (t := 0) (by decide)) rfl (zle rfl) ⟨zle rfl, zle rfl⟩ (zroom (by omega) (by omega)) (q := 35) rfl ?_
    refine z_iconst (v := 0) dL_isTidied_35 rfl (q := 36) rfl ?_
    refine z_callSWA (As := [_, _, _, _, _]) dL_isTidied_36 kL_151 (a_tidyStart (k := k) (t := 0) hI hk (by decide) (by omega)) rfl (zle rfl) ⟨zle rfl, zle rfl⟩ (zroom (by omega) (by omega)) (q := 39) rfl (fun hE36 X36 hk36 => ?_)
    refine z_iast dL_isTidied_39 (wy_0 _ _ _ _) (zin (by omega) (by decide)) (q := 40) rfl ?_
    refine Z.eqw (wys_0 _ _ _ _ _) ?_
    rw [nI_clamp (n := k) (by omega)]
    refine z_aload dL_isTidied_40 rfl (q := 42) rfl ?_
    refine z_iload dL_isTidied_42 rfl (q := 44) rfl ?_
    refine z_aload_n (i := 0) dL_isTidied_44 rfl rfl (q := 45) rfl ?_
    refine z_iload dL_isTidied_45 rfl (q := 47) rfl ?_
    refine z_iconst (v := 1) dL_isTidied_47 rfl (q := 48) rfl ?_
    refine z_iload_n (i := 2) dL_isTidied_48 rfl rfl (q := 49) rfl ?_
    refine z_isub dL_isTidied_49 (q := 50) rfl ?_
    refine Z.eqst (st2 := .int 1 :: _) (congrArg (fun z : Int32 => Value.int z :: _) (by decide)) ?_
    refine z_callSA (As := [_, _, _]) dL_isTidied_50 kL_154 (l_start (k := k) (t := 1) hI hk36 (by omega) (by decide)) rfl (zle rfl) ⟨zle rfl, zle rfl⟩ (zroom (by omega) (by omega)) (q := 53) rfl (fun hE50 X50 hk50 => ?_)
    refine z_iast dL_isTidied_53 (wy_1 _ _ _ _ _) (zin (by omega) (by decide)) (q := 54) rfl ?_
    refine Z.eqw (wys_1 _ _ _ _ _ _) ?_
    rw [nI_clamp (n := k) (by omega)]
    refine z_iload dL_isTidied_54 rfl (q := 56) rfl ?_
    refine z_aload dL_isTidied_56 rfl (q := 58) rfl ?_
    refine z_iload dL_isTidied_58 rfl (q := 60) rfl ?_
    refine z_iald dL_isTidied_60 (wy_0 _ _ _ _) (zin (by omega) (by decide)) (q := 61) rfl ?_
    rw [nI_clamp (n := k) (by omega), pk_us]
    refine z_aload_n (i := 0) dL_isTidied_61 rfl rfl (q := 62) rfl ?_
    refine z_iload dL_isTidied_62 rfl (q := 64) rfl ?_
    refine z_iload_n (i := 2) dL_isTidied_64 rfl rfl (q := 65) rfl ?_
    refine z_callSA (As := [_, _, _]) dL_isTidied_65 kL_154 (l_start (k := k) (t := 0) hI hk50 (by omega) (by decide)) rfl (zle rfl) ⟨zle rfl, zle rfl⟩ (zroom (by omega) (by omega)) (q := 68) rfl (fun hE65 X65 hk65 => ?_)
    refine z_isub dL_isTidied_68 (q := 69) rfl ?_
    refine z_abs dL_isTidied_69 kL_161 (zle rfl) ⟨zle rfl, zle rfl, (by show _ ≤ 40; omega), (by show _ ≤ 240; omega)⟩ (q := 72) rfl ?_
    refine z_iadd dL_isTidied_72 (q := 73) rfl ?_
    refine z_istore dL_isTidied_73 (zle rfl) rfl (q := 75) rfl ?_
    refine z_iinc (v := nI (k + 1)) dL_isTidied_75 rfl (nI_add _ _) (zle rfl) rfl (q := 78) rfl ?_
    refine z_goto (tgt := 16) dL_isTidied_78 (by decide) ?_
    exact Z.widen (by omega) (by omega) (ih (k + 1) (by omega) _ _ _ _ hk65 (up_lt hf rfl) (up_lt hg rfl) hs)
set_option maxRecDepth 100000 in
set_option maxHeartbeats 4000000 in
theorem tid_2_0 {n nw : Nat} {lo : Int32} {f g : Nat → Int32} {e6 e7 e8 e9 : Option Value} (h4 : n ≤ 4) (hm : mvT X 0 n nw X3) (hf : ∀ j, j < n → f j = tS X 0 n nw j) (hg : ∀ j, j < n → g j = X.2.1 (2 * 1) j) : ∀ (m k : Nat), k + m = n → ∀ (X1 : zX), keep0 X3 X1 → Z G mL_isTidied (zrm 17 40 240) (22 + 2 * k) (128 + 12 * k) 208 [some (.ref 0), some (.int (nI n)), some (.int 0), some (.int lo), some (.ref 77), some (.ref 78), e6, e7, e8, e9, none, some (.int 1), some (.int (nI k))] [] (zw X1 (ar2 f g) O) (nxQ X n nw O) := by
  intro m
  induction m with
  | zero =>
    intro k hk0 X1 hk
    refine z_iload dL_isTidied_208 rfl (q := 210) rfl ?_
    refine z_iload_n (i := 1) dL_isTidied_210 rfl rfl (q := 211) rfl ?_
    refine z_icmp_ge (tgt := 264) dL_isTidied_211 (by decide) (q := 214) rfl (fun h211 => ?_) (fun h211 => absurd (nI_le (show n ≤ k by omega) (by omega)) h211)
    refine z_iload dL_isTidied_264 rfl (q := 266) rfl ?_
    exact z_zret dL_isTidied_266 rfl (by first | rfl | assumption | decide) (zroom (by omega) (by omega)) ⟨rfl, _, _, rfl, inv_keep hk hm.1, (hk.1 4 (by decide)).2.trans (hm.2.1 4 (by decide) (by decide))⟩
  | succ m ih =>
    intro k hk0 X1 hk
    refine z_iload dL_isTidied_208 rfl (q := 210) rfl ?_
    refine z_iload_n (i := 1) dL_isTidied_210 rfl rfl (q := 211) rfl ?_
    refine z_icmp_ge (tgt := 264) dL_isTidied_211 (by decide) (q := 214) rfl (fun h211 => absurd h211 (nI_ge (show k < n by omega) (by omega))) (fun h211 => ?_)
    refine z_iload dL_isTidied_214 rfl (q := 216) rfl ?_
    refine z_if_eq (tgt := 255) dL_isTidied_216 (by decide) (q := 219) rfl (fun h216 => absurd h216 (by decide)) (fun h216 => ?_)
    refine z_aload_n (i := 0) dL_isTidied_219 rfl rfl (q := 220) rfl ?_
    refine z_iload dL_isTidied_220 rfl (q := 222) rfl ?_
    refine z_iload_n (i := 2) dL_isTidied_222 rfl rfl (q := 223) rfl ?_
    refine z_callSA (As := [_, _, _]) dL_isTidied_223 kL_154 (l_start (k := k) (t := 0) hm.1 hk (by omega) (by decide)) rfl (zle rfl) ⟨zle rfl, zle rfl⟩ (zroom (by omega) (by omega)) (q := 226) rfl (fun hE223 X223 hk223 => ?_)
    refine z_aload dL_isTidied_226 rfl (q := 228) rfl ?_
    refine z_iload dL_isTidied_228 rfl (q := 230) rfl ?_
    refine z_iald dL_isTidied_230 (wy_0 _ _ _ _) (zin (by omega) (by decide)) (q := 231) rfl ?_
    rw [nI_clamp (n := k) (by omega), hf k (by omega)]
    refine z_icmp_ne (tgt := 255) dL_isTidied_231 (by decide) (q := 234) rfl (fun h231 => absurd h231 (fun h9 => h9 (hm.2.2.1 k (by omega)))) (fun h231 => ?_)
    refine z_aload_n (i := 0) dL_isTidied_234 rfl rfl (q := 235) rfl ?_
    refine z_iload dL_isTidied_235 rfl (q := 237) rfl ?_
    refine z_iconst (v := 1) dL_isTidied_237 rfl (q := 238) rfl ?_
    refine z_iload_n (i := 2) dL_isTidied_238 rfl rfl (q := 239) rfl ?_
    refine z_isub dL_isTidied_239 (q := 240) rfl ?_
    refine Z.eqst (st2 := .int 1 :: _) (congrArg (fun z : Int32 => Value.int z :: _) (by decide)) ?_
    refine z_callSA (As := [_, _, _]) dL_isTidied_240 kL_154 (l_start (k := k) (t := 1) hm.1 hk223 (by omega) (by decide)) rfl (zle rfl) ⟨zle rfl, zle rfl⟩ (zroom (by omega) (by omega)) (q := 243) rfl (fun hE240 X240 hk240 => ?_)
    refine z_aload dL_isTidied_243 rfl (q := 245) rfl ?_
    refine z_iload dL_isTidied_245 rfl (q := 247) rfl ?_
    refine z_iald dL_isTidied_247 (wy_1 _ _ _ _ _) (zin (by omega) (by decide)) (q := 248) rfl ?_
    rw [nI_clamp (n := k) (by omega), hg k (by omega)]
    refine z_icmp_ne (tgt := 255) dL_isTidied_248 (by decide) (q := 251) rfl (fun h248 => absurd h248 (fun h9 => h9 (congrFun (hm.2.1 (2 * 1) (by decide) (by decide)) k))) (fun h248 => ?_)
    refine z_iconst (v := 1) dL_isTidied_251 rfl (q := 252) rfl ?_
    refine z_goto (tgt := 256) dL_isTidied_252 (by decide) ?_
    refine z_istore dL_isTidied_256 (zle rfl) rfl (q := 258) rfl ?_
    refine z_iinc (v := nI (k + 1)) dL_isTidied_258 rfl (nI_add _ _) (zle rfl) rfl (q := 261) rfl ?_
    refine z_goto (tgt := 208) dL_isTidied_261 (by decide) ?_
    exact Z.widen (by omega) (by omega) (ih (k + 1) (by omega) _ hk240)
set_option maxRecDepth 100000 in
set_option maxHeartbeats 4000000 in
theorem c_L_isTidied_0A {n nw : Nat} (hI : inv X n nw) (hk : keep0 X X1) : ZM G mL_isTidied 17 40 240 [.ref 0, .int (nI n), .int 0, .int (-1)] (zw X1 [] O) (nxP X n nw O) := by
  have h4 := hI.1
  refine nx_drop ?_
  refine ZM.go pL rfl rfl (zle rfl) (zl := [some (.ref 0), some (.int (nI n)), some (.int 0), some (.int (-1)), none, none, none, none, none, none, none, none, none]) rfl ?_
  refine z_iconst (v := 4) dL_isTidied_0 rfl (q := 1) rfl ?_
  refine z_newa (t := 0) (N := 4) (a0 := (4, .inl (fun _ => 0))) (ty := .int) dL_isTidied_1 wa_int rfl rfl (fun _ => rfl) (fun C h => by cases h) (by decide) rfl (zle rfl) (by rw [zw_len]; decide) (zroom (by omega) (by omega)) (q := 3) rfl ?_
  refine Z.eqw (w2 := zw X1 [Sum.inl (0, 4, .inl (fun _ => 0))] O) rfl ?_
  refine Z.eqst (st2 := [.ref 77]) rfl ?_
  refine z_astore dL_isTidied_3 (zle rfl) rfl (q := 5) rfl ?_
  refine z_iconst (v := 4) dL_isTidied_5 rfl (q := 6) rfl ?_
  refine z_newa (t := 0) (N := 4) (a0 := (4, .inl (fun _ => 0))) (ty := .int) dL_isTidied_6 wa_int rfl rfl (fun _ => rfl) (fun C h => by cases h) (by decide) rfl (zle rfl) (by rw [zw_len]; decide) (zroom (by omega) (by omega)) (q := 8) rfl ?_
  refine Z.eqw (w2 := zw X1 (ar2 (fun _ => 0) (fun _ => 0)) O) rfl ?_
  refine Z.eqst (st2 := [.ref 78]) rfl ?_
  refine z_astore dL_isTidied_8 (zle rfl) rfl (q := 10) rfl ?_
  refine z_iconst (v := 0) dL_isTidied_10 rfl (q := 11) rfl ?_
  refine z_istore dL_isTidied_11 (zle rfl) rfl (q := 13) rfl ?_
  refine z_iconst (v := 0) dL_isTidied_13 rfl (q := 14) rfl ?_
  refine z_istore dL_isTidied_14 (zle rfl) rfl (q := 16) rfl ?_
  refine Z.widen (k2 := 2 + 3 * 0) (n2 := 8 + 18 * 0) (by decide) (by decide) (tid_1_0 hI (fun X2 f g e7 hk hf hg => ?_) n 0 (by omega) _ _ _ 0 hk (fun j hj => absurd hj (Nat.not_lt_zero j)) (fun j hj => absurd hj (Nat.not_lt_zero j)) rfl)
  refine z_aload_n (i := 0) dL_isTidied_81 rfl rfl (q := 82) rfl ?_
  refine z_bipush (v := 9) dL_isTidied_82 rfl (q := 84) rfl ?_
  refine z_iload_n (i := 2) dL_isTidied_84 rfl rfl (q := 85) rfl ?_
  refine z_callSF (As := [_]) dL_isTidied_85 kL_148 (c_L_axis (t := 0) (by decide)) rfl (zle rfl) ⟨zle rfl, zle rfl⟩ (zroom (by omega) (by omega)) (q := 88) rfl ?_
  refine z_iconst (v := 0) dL_isTidied_88 rfl (q := 89) rfl ?_
  refine z_iconst (v := 0) dL_isTidied_89 rfl (q := 90) rfl ?_
  refine z_callSWA (As := [_, _, _, _, _]) dL_isTidied_90 kL_151 (a_best (t := 0) hI hk (by decide)) rfl (zle rfl) ⟨zle rfl, zle rfl⟩ (zroom (by omega) (by omega)) (q := 93) rfl (fun hE90 X90 hk90 => ?_)
  refine z_istore dL_isTidied_93 (zle rfl) rfl (q := 95) rfl ?_
  refine z_iload_n (i := 3) dL_isTidied_95 rfl rfl (q := 96) rfl ?_
  refine z_if_ge (tgt := 103) dL_isTidied_96 (by decide) (q := 99) rfl (fun h96 => absurd h96 (by decide)) (fun h96 => ?_)
  refine z_iconst (v := 0) dL_isTidied_99 rfl (q := 100) rfl ?_
  refine z_goto (tgt := 109) dL_isTidied_100 (by decide) ?_
  refine z_istore dL_isTidied_109 (zle rfl) rfl (q := 111) rfl ?_
  refine z_aload_n (i := 0) dL_isTidied_111 rfl rfl (q := 112) rfl ?_
  refine z_callVF (As := []) dL_isTidied_112 kL_166 c_X8_moved (wo_x _ _ _) rfl rfl (zle rfl) ⟨zle rfl, zle rfl⟩ (zroom (by omega) (by omega)) (q := 115) rfl ?_
  rw [hk90.2]
  refine z_lstore dL_isTidied_115 (zle rfl) rfl (q := 117) rfl ?_
  refine z_iload dL_isTidied_117 rfl (q := 119) rfl ?_
  refine z_aload_n (i := 0) dL_isTidied_119 rfl rfl (q := 120) rfl ?_
  refine z_bipush (v := 11) dL_isTidied_120 rfl (q := 122) rfl ?_
  refine z_iload_n (i := 2) dL_isTidied_122 rfl rfl (q := 123) rfl ?_
  refine z_callSF (As := [_]) dL_isTidied_123 kL_148 (c_L_axis (t := 0) (by decide)) rfl (zle rfl) ⟨zle rfl, zle rfl⟩ (zroom (by omega) (by omega)) (q := 126) rfl ?_
  refine z_iconst (v := 0) dL_isTidied_126 rfl (q := 127) rfl ?_
  refine z_iconst (v := 0) dL_isTidied_127 rfl (q := 128) rfl ?_
  refine z_callSWA (As := [_, _, _, _, _]) dL_isTidied_128 kL_151 (a_tidyCost (t := 0) hI hk90 (by decide)) rfl (zle rfl) ⟨zle rfl, zle rfl⟩ (zroom (by omega) (by omega)) (q := 131) rfl (fun hE128 X128 hk128 => ?_)
  refine z_icmp_ne (tgt := 202) dL_isTidied_131 (by decide) (q := 134) rfl (fun h131 => absurd h131 (fun h9 => h9 (td_facts hI (by decide) hE90).1)) (fun h131 => ?_)
  refine z_aload_n (i := 0) dL_isTidied_134 rfl rfl (q := 135) rfl ?_
  refine z_bipush (v := 7) dL_isTidied_135 rfl (q := 137) rfl ?_
  refine z_iload_n (i := 2) dL_isTidied_137 rfl rfl (q := 138) rfl ?_
  refine z_callSF (As := [_]) dL_isTidied_138 kL_148 (c_L_axis (t := 0) (by decide)) rfl (zle rfl) ⟨zle rfl, zle rfl⟩ (zroom (by omega) (by omega)) (q := 141) rfl ?_
  refine z_iconst (v := 0) dL_isTidied_141 rfl (q := 142) rfl ?_
  refine z_iconst (v := 0) dL_isTidied_142 rfl (q := 143) rfl ?_
  refine z_iconst (v := 0) dL_isTidied_143 rfl (q := 144) rfl ?_
  refine z_callSWD (As := [_, _, _, _, _, _]) dL_isTidied_144 kL_145 (d_tidy (t := 0) hI hk128 (by decide)) rfl (zle rfl) ⟨zle rfl, zle rfl⟩ (zroom (by omega) (by omega)) (q := 147) rfl (fun X3 hm => ?_)
  refine z_iload dL_isTidied_147 rfl (q := 149) rfl ?_
  refine z_icmp_ne (tgt := 202) dL_isTidied_149 (by decide) (q := 152) rfl (fun h149 => absurd h149 (fun h9 => h9 (td_facts hI (by decide) hE90).1.symm)) (fun h149 => ?_)
  refine z_aload_n (i := 0) dL_isTidied_152 rfl rfl (q := 153) rfl ?_
  refine z_bipush (v := 7) dL_isTidied_153 rfl (q := 155) rfl ?_
  refine z_iload_n (i := 2) dL_isTidied_155 rfl rfl (q := 156) rfl ?_
  refine z_callSF (As := [_]) dL_isTidied_156 kL_148 (c_L_axis (t := 0) (by decide)) rfl (zle rfl) ⟨zle rfl, zle rfl⟩ (zroom (by omega) (by omega)) (q := 159) rfl ?_
  refine z_iconst (v := 0) dL_isTidied_159 rfl (q := 160) rfl ?_
  refine z_iconst (v := 0) dL_isTidied_160 rfl (q := 161) rfl ?_
  refine z_callSWA (As := [_, _, _, _, _]) dL_isTidied_161 kL_151 (a_strength (t := 0) hm.1 (keep0_refl X3) (by decide)) rfl (zle rfl) ⟨zle rfl, zle rfl⟩ (zroom (by omega) (by omega)) (q := 164) rfl (fun hE161 X161 hk161 => ?_)
  refine z_iload dL_isTidied_164 rfl (q := 166) rfl ?_
  refine z_icmp_ne (tgt := 202) dL_isTidied_166 (by decide) (q := 169) rfl (fun h166 => absurd h166 (fun h9 => h9 (tid_str hI (by decide) hE90 hm))) (fun h166 => ?_)
  refine z_aload_n (i := 0) dL_isTidied_169 rfl rfl (q := 170) rfl ?_
  refine z_callVF (As := []) dL_isTidied_170 kL_166 c_X8_moved (wo_x _ _ _) rfl rfl (zle rfl) ⟨zle rfl, zle rfl⟩ (zroom (by omega) (by omega)) (q := 173) rfl ?_
  refine z_lload dL_isTidied_173 rfl (q := 175) rfl ?_
  refine z_iload dL_isTidied_175 rfl (q := 177) rfl ?_
  refine z_i2l dL_isTidied_177 (q := 178) rfl ?_
  refine z_ladd dL_isTidied_178 (q := 179) rfl ?_
  refine z_lcmp dL_isTidied_179 (q := 180) rfl ?_
  refine z_if_ne (tgt := 202) dL_isTidied_180 (by decide) (q := 183) rfl (fun h180 => absurd h180 (fun h9 => h9 (tid_mv hI (by decide) hE90 hm hk161))) (fun h180 => ?_)
  refine z_iload_n (i := 3) dL_isTidied_183 rfl rfl (q := 184) rfl ?_
  refine z_if_lt (tgt := 198) dL_isTidied_184 (by decide) (q := 187) rfl (fun h184 => ?_) (fun h184 => absurd h184 (by decide))
  refine z_iconst (v := 1) dL_isTidied_198 rfl (q := 199) rfl ?_
  refine z_goto (tgt := 203) dL_isTidied_199 (by decide) ?_
  refine z_istore dL_isTidied_203 (zle rfl) rfl (q := 205) rfl ?_
  refine z_iconst (v := 0) dL_isTidied_205 rfl (q := 206) rfl ?_
  refine z_istore dL_isTidied_206 (zle rfl) rfl (q := 208) rfl ?_
  exact Z.widen (k2 := 22 + 2 * 0) (n2 := 128 + 12 * 0) (by omega) (by omega) (tid_2_0 h4 hm hf hg n 0 (by omega) _ hk161)
set_option maxRecDepth 100000 in
set_option maxHeartbeats 4000000 in
theorem c_L_isTidied_0B {n nw lk : Nat} (hI : inv X n nw) (hk : keep0 X X1) (hlk : lk < n) (hll : ¬ X.2.1 4 lk = 0) : ZM G mL_isTidied 17 40 240 [.ref 0, .int (nI n), .int 0, .int (nI lk)] (zw X1 [] O) (nxP X n nw O) := by
  have h4 := hI.1
  refine nx_drop ?_
  refine ZM.go pL rfl rfl (zle rfl) (zl := [some (.ref 0), some (.int (nI n)), some (.int 0), some (.int (nI lk)), none, none, none, none, none, none, none, none, none]) rfl ?_
  refine z_iconst (v := 4) dL_isTidied_0 rfl (q := 1) rfl ?_
  refine z_newa (t := 0) (N := 4) (a0 := (4, .inl (fun _ => 0))) (ty := .int) dL_isTidied_1 wa_int rfl rfl (fun _ => rfl) (fun C h => by cases h) (by decide) rfl (zle rfl) (by rw [zw_len]; decide) (zroom (by omega) (by omega)) (q := 3) rfl ?_
  refine Z.eqw (w2 := zw X1 [Sum.inl (0, 4, .inl (fun _ => 0))] O) rfl ?_
  refine Z.eqst (st2 := [.ref 77]) rfl ?_
  refine z_astore dL_isTidied_3 (zle rfl) rfl (q := 5) rfl ?_
  refine z_iconst (v := 4) dL_isTidied_5 rfl (q := 6) rfl ?_
  refine z_newa (t := 0) (N := 4) (a0 := (4, .inl (fun _ => 0))) (ty := .int) dL_isTidied_6 wa_int rfl rfl (fun _ => rfl) (fun C h => by cases h) (by decide) rfl (zle rfl) (by rw [zw_len]; decide) (zroom (by omega) (by omega)) (q := 8) rfl ?_
  refine Z.eqw (w2 := zw X1 (ar2 (fun _ => 0) (fun _ => 0)) O) rfl ?_
  refine Z.eqst (st2 := [.ref 78]) rfl ?_
  refine z_astore dL_isTidied_8 (zle rfl) rfl (q := 10) rfl ?_
  refine z_iconst (v := 0) dL_isTidied_10 rfl (q := 11) rfl ?_
  refine z_istore dL_isTidied_11 (zle rfl) rfl (q := 13) rfl ?_
  refine z_iconst (v := 0) dL_isTidied_13 rfl (q := 14) rfl ?_
  refine z_istore dL_isTidied_14 (zle rfl) rfl (q := 16) rfl ?_
  refine Z.widen (k2 := 2 + 3 * 0) (n2 := 8 + 18 * 0) (by decide) (by decide) (tid_1_0 hI (fun X2 f g e7 hk hf hg => ?_) n 0 (by omega) _ _ _ 0 hk (fun j hj => absurd hj (Nat.not_lt_zero j)) (fun j hj => absurd hj (Nat.not_lt_zero j)) rfl)
  refine z_aload_n (i := 0) dL_isTidied_81 rfl rfl (q := 82) rfl ?_
  refine z_bipush (v := 9) dL_isTidied_82 rfl (q := 84) rfl ?_
  refine z_iload_n (i := 2) dL_isTidied_84 rfl rfl (q := 85) rfl ?_
  refine z_callSF (As := [_]) dL_isTidied_85 kL_148 (c_L_axis (t := 0) (by decide)) rfl (zle rfl) ⟨zle rfl, zle rfl⟩ (zroom (by omega) (by omega)) (q := 88) rfl ?_
  refine z_iconst (v := 0) dL_isTidied_88 rfl (q := 89) rfl ?_
  refine z_iconst (v := 0) dL_isTidied_89 rfl (q := 90) rfl ?_
  refine z_callSWA (As := [_, _, _, _, _]) dL_isTidied_90 kL_151 (a_best (t := 0) hI hk (by decide)) rfl (zle rfl) ⟨zle rfl, zle rfl⟩ (zroom (by omega) (by omega)) (q := 93) rfl (fun hE90 X90 hk90 => ?_)
  refine z_istore dL_isTidied_93 (zle rfl) rfl (q := 95) rfl ?_
  refine z_iload_n (i := 3) dL_isTidied_95 rfl rfl (q := 96) rfl ?_
  refine z_if_ge (tgt := 103) dL_isTidied_96 (by decide) (q := 99) rfl (fun h96 => ?_) (fun h96 => absurd (nI_pos' (by omega)) h96)
  refine z_aload_n (i := 0) dL_isTidied_103 rfl rfl (q := 104) rfl ?_
  refine z_iload_n (i := 3) dL_isTidied_104 rfl rfl (q := 105) rfl ?_
  refine z_iload_n (i := 2) dL_isTidied_105 rfl rfl (q := 106) rfl ?_
  refine z_callSA (As := [_, _, _]) dL_isTidied_106 kL_154 (l_start (k := lk) (t := 0) hI hk90 (by omega) (by decide)) rfl (zle rfl) ⟨zle rfl, zle rfl⟩ (zroom (by omega) (by omega)) (q := 109) rfl (fun hE106 X106 hk106 => ?_)
  refine z_istore dL_isTidied_109 (zle rfl) rfl (q := 111) rfl ?_
  refine z_aload_n (i := 0) dL_isTidied_111 rfl rfl (q := 112) rfl ?_
  refine z_callVF (As := []) dL_isTidied_112 kL_166 c_X8_moved (wo_x _ _ _) rfl rfl (zle rfl) ⟨zle rfl, zle rfl⟩ (zroom (by omega) (by omega)) (q := 115) rfl ?_
  rw [hk106.2]
  refine z_lstore dL_isTidied_115 (zle rfl) rfl (q := 117) rfl ?_
  refine z_iload dL_isTidied_117 rfl (q := 119) rfl ?_
  refine z_aload_n (i := 0) dL_isTidied_119 rfl rfl (q := 120) rfl ?_
  refine z_bipush (v := 11) dL_isTidied_120 rfl (q := 122) rfl ?_
  refine z_iload_n (i := 2) dL_isTidied_122 rfl rfl (q := 123) rfl ?_
  refine z_callSF (As := [_]) dL_isTidied_123 kL_148 (c_L_axis (t := 0) (by decide)) rfl (zle rfl) ⟨zle rfl, zle rfl⟩ (zroom (by omega) (by omega)) (q := 126) rfl ?_
  refine z_iconst (v := 0) dL_isTidied_126 rfl (q := 127) rfl ?_
  refine z_iconst (v := 0) dL_isTidied_127 rfl (q := 128) rfl ?_
  refine z_callSWA (As := [_, _, _, _, _]) dL_isTidied_128 kL_151 (a_tidyCost (t := 0) hI hk106 (by decide)) rfl (zle rfl) ⟨zle rfl, zle rfl⟩ (zroom (by omega) (by omega)) (q := 131) rfl (fun hE128 X128 hk128 => ?_)
  refine z_icmp_ne (tgt := 202) dL_isTidied_131 (by decide) (q := 134) rfl (fun h131 => absurd h131 (fun h9 => h9 (td_facts hI (by decide) hE90).1)) (fun h131 => ?_)
  refine z_aload_n (i := 0) dL_isTidied_134 rfl rfl (q := 135) rfl ?_
  refine z_bipush (v := 7) dL_isTidied_135 rfl (q := 137) rfl ?_
  refine z_iload_n (i := 2) dL_isTidied_137 rfl rfl (q := 138) rfl ?_
  refine z_callSF (As := [_]) dL_isTidied_138 kL_148 (c_L_axis (t := 0) (by decide)) rfl (zle rfl) ⟨zle rfl, zle rfl⟩ (zroom (by omega) (by omega)) (q := 141) rfl ?_
  refine z_iconst (v := 0) dL_isTidied_141 rfl (q := 142) rfl ?_
  refine z_iconst (v := 0) dL_isTidied_142 rfl (q := 143) rfl ?_
  refine z_iconst (v := 0) dL_isTidied_143 rfl (q := 144) rfl ?_
  refine z_callSWD (As := [_, _, _, _, _, _]) dL_isTidied_144 kL_145 (d_tidy (t := 0) hI hk128 (by decide)) rfl (zle rfl) ⟨zle rfl, zle rfl⟩ (zroom (by omega) (by omega)) (q := 147) rfl (fun X3 hm => ?_)
  refine z_iload dL_isTidied_147 rfl (q := 149) rfl ?_
  refine z_icmp_ne (tgt := 202) dL_isTidied_149 (by decide) (q := 152) rfl (fun h149 => absurd h149 (fun h9 => h9 (td_facts hI (by decide) hE90).1.symm)) (fun h149 => ?_)
  refine z_aload_n (i := 0) dL_isTidied_152 rfl rfl (q := 153) rfl ?_
  refine z_bipush (v := 7) dL_isTidied_153 rfl (q := 155) rfl ?_
  refine z_iload_n (i := 2) dL_isTidied_155 rfl rfl (q := 156) rfl ?_
  refine z_callSF (As := [_]) dL_isTidied_156 kL_148 (c_L_axis (t := 0) (by decide)) rfl (zle rfl) ⟨zle rfl, zle rfl⟩ (zroom (by omega) (by omega)) (q := 159) rfl ?_
  refine z_iconst (v := 0) dL_isTidied_159 rfl (q := 160) rfl ?_
  refine z_iconst (v := 0) dL_isTidied_160 rfl (q := 161) rfl ?_
  refine z_callSWA (As := [_, _, _, _, _]) dL_isTidied_161 kL_151 (a_strength (t := 0) hm.1 (keep0_refl X3) (by decide)) rfl (zle rfl) ⟨zle rfl, zle rfl⟩ (zroom (by omega) (by omega)) (q := 164) rfl (fun hE161 X161 hk161 => ?_)
  refine z_iload dL_isTidied_164 rfl (q := 166) rfl ?_
  refine z_icmp_ne (tgt := 202) dL_isTidied_166 (by decide) (q := 169) rfl (fun h166 => absurd h166 (fun h9 => h9 (tid_str hI (by decide) hE90 hm))) (fun h166 => ?_)
  refine z_aload_n (i := 0) dL_isTidied_169 rfl rfl (q := 170) rfl ?_
  refine z_callVF (As := []) dL_isTidied_170 kL_166 c_X8_moved (wo_x _ _ _) rfl rfl (zle rfl) ⟨zle rfl, zle rfl⟩ (zroom (by omega) (by omega)) (q := 173) rfl ?_
  refine z_lload dL_isTidied_173 rfl (q := 175) rfl ?_
  refine z_iload dL_isTidied_175 rfl (q := 177) rfl ?_
  refine z_i2l dL_isTidied_177 (q := 178) rfl ?_
  refine z_ladd dL_isTidied_178 (q := 179) rfl ?_
  refine z_lcmp dL_isTidied_179 (q := 180) rfl ?_
  refine z_if_ne (tgt := 202) dL_isTidied_180 (by decide) (q := 183) rfl (fun h180 => absurd h180 (fun h9 => h9 (tid_mv hI (by decide) hE90 hm hk161))) (fun h180 => ?_)
  refine z_iload_n (i := 3) dL_isTidied_183 rfl rfl (q := 184) rfl ?_
  refine z_if_lt (tgt := 198) dL_isTidied_184 (by decide) (q := 187) rfl (fun h184 => absurd h184 (nI_pos (by omega))) (fun h184 => ?_)
  refine z_aload_n (i := 0) dL_isTidied_187 rfl rfl (q := 188) rfl ?_
  refine z_iload_n (i := 3) dL_isTidied_188 rfl rfl (q := 189) rfl ?_
  refine z_iload_n (i := 2) dL_isTidied_189 rfl rfl (q := 190) rfl ?_
  refine z_callSA (As := [_, _, _]) dL_isTidied_190 kL_154 (l_start (k := lk) (t := 0) hm.1 hk161 (by omega) (by decide)) rfl (zle rfl) ⟨zle rfl, zle rfl⟩ (zroom (by omega) (by omega)) (q := 193) rfl (fun hE190 X190 hk190 => ?_)
  refine z_iload dL_isTidied_193 rfl (q := 195) rfl ?_
  refine z_icmp_ne (tgt := 202) dL_isTidied_195 (by decide) (q := 198) rfl (fun h195 => absurd h195 (fun h9 => h9 (tid_lk hI (by decide) hE90 hm hlk hll))) (fun h195 => ?_)
  refine z_iconst (v := 1) dL_isTidied_198 rfl (q := 199) rfl ?_
  refine z_goto (tgt := 203) dL_isTidied_199 (by decide) ?_
  refine z_istore dL_isTidied_203 (zle rfl) rfl (q := 205) rfl ?_
  refine z_iconst (v := 0) dL_isTidied_205 rfl (q := 206) rfl ?_
  refine z_istore dL_isTidied_206 (zle rfl) rfl (q := 208) rfl ?_
  exact Z.widen (k2 := 22 + 2 * 0) (n2 := 128 + 12 * 0) (by omega) (by omega) (tid_2_0 h4 hm hf hg n 0 (by omega) _ hk190)
set_option maxRecDepth 100000 in
set_option maxHeartbeats 4000000 in
theorem tid_1_1 {n nw : Nat} {lo : Int32} {P : zRes → zWorld → Prop} (hI : inv X n nw) (kk : ∀ (X2 : zX) (f g : Nat → Int32) (e7 : Option Value), keep0 X X2 → (∀ j, j < n → f j = tS X 1 n nw j) → (∀ j, j < n → g j = X.2.1 (2 * 0) j) → Z G mL_isTidied (zrm 17 40 240) 14 80 81 [some (.ref 0), some (.int (nI n)), some (.int 1), some (.int lo), some (.ref 77), some (.ref 78), some (.int (cst X 1 n (tS X 1 n nw))), e7, none, none, none, none, none] [] (zw X2 (ar2 f g) O) P) : ∀ (m k : Nat), k + m = n → ∀ (X1 : zX) (f g : Nat → Int32) (a : Int32), keep0 X X1 → (∀ j, j < k → f j = tS X 1 n nw j) → (∀ j, j < k → g j = X.2.1 (2 * 0) j) → rsum (fun k => iabs (tS X 1 n nw k - X.2.1 (2 * 1) k)) k m a = cst X 1 n (tS X 1 n nw) → Z G mL_isTidied (zrm 17 40 240) (2 + 3 * k) (8 + 18 * k) 16 [some (.ref 0), some (.int (nI n)), some (.int 1), some (.int lo), some (.ref 77), some (.ref 78), some (.int a), some (.int (nI k)), none, none, none, none, none] [] (zw X1 (ar2 f g) O) P := by
  have h4 := hI.1
  intro m
  induction m with
  | zero =>
    intro k hk0 X1 f g a hk hf hg hs
    have ha : a = cst X 1 n (tS X 1 n nw) := hs
    rw [ha]
    refine z_iload dL_isTidied_16 rfl (q := 18) rfl ?_
    refine z_iload_n (i := 1) dL_isTidied_18 rfl rfl (q := 19) rfl ?_
    refine z_icmp_ge (tgt := 81) dL_isTidied_19 (by decide) (q := 22) rfl (fun h19 => ?_) (fun h19 => absurd (nI_le (show n ≤ k by omega) (by omega)) h19)
    exact Z.widen (by omega) (by omega) (kk _ _ _ _ hk (fun j hj => hf j (by omega)) (fun j hj => hg j (by omega)))
  | succ m ih =>
    intro k hk0 X1 f g a hk hf hg hs
    refine z_iload dL_isTidied_16 rfl (q := 18) rfl ?_
    refine z_iload_n (i := 1) dL_isTidied_18 rfl rfl (q := 19) rfl ?_
    refine z_icmp_ge (tgt := 81) dL_isTidied_19 (by decide) (q := 22) rfl (fun h19 => absurd h19 (nI_ge (show k < n by omega) (by omega))) (fun h19 => ?_)
    refine z_aload dL_isTidied_22 rfl (q := 24) rfl ?_
    refine z_iload dL_isTidied_24 rfl (q := 26) rfl ?_
    refine z_aload_n (i := 0) dL_isTidied_26 rfl rfl (q := 27) rfl ?_
    refine z_bipush (v := 12) dL_isTidied_27 rfl (q := 29) rfl ?_
    refine z_iload dL_isTidied_29 rfl (q := 31) rfl ?_
    refine z_iload_n (i := 2) dL_isTidied_31 rfl rfl (q := 32) rfl ?_
    refine z_callSF (As := [_]) dL_isTidied_32 kL_148 (c_L_axis (t := 1) (by decide)) rfl (zle rfl) ⟨zle rfl, zle rfl⟩ (zroom (by omega) (by omega)) (q := 35) rfl ?_
    refine z_iconst (v := 0) dL_isTidied_35 rfl (q := 36) rfl ?_
    refine z_callSWA (As := [_, _, _, _, _]) dL_isTidied_36 kL_151 (a_tidyStart (k := k) (t := 1) hI hk (by decide) (by omega)) rfl (zle rfl) ⟨zle rfl, zle rfl⟩ (zroom (by omega) (by omega)) (q := 39) rfl (fun hE36 X36 hk36 => ?_)
    refine z_iast dL_isTidied_39 (wy_0 _ _ _ _) (zin (by omega) (by decide)) (q := 40) rfl ?_
    refine Z.eqw (wys_0 _ _ _ _ _) ?_
    rw [nI_clamp (n := k) (by omega)]
    refine z_aload dL_isTidied_40 rfl (q := 42) rfl ?_
    refine z_iload dL_isTidied_42 rfl (q := 44) rfl ?_
    refine z_aload_n (i := 0) dL_isTidied_44 rfl rfl (q := 45) rfl ?_
    refine z_iload dL_isTidied_45 rfl (q := 47) rfl ?_
    refine z_iconst (v := 1) dL_isTidied_47 rfl (q := 48) rfl ?_
    refine z_iload_n (i := 2) dL_isTidied_48 rfl rfl (q := 49) rfl ?_
    refine z_isub dL_isTidied_49 (q := 50) rfl ?_
    refine Z.eqst (st2 := .int 0 :: _) (congrArg (fun z : Int32 => Value.int z :: _) (by decide)) ?_
    refine z_callSA (As := [_, _, _]) dL_isTidied_50 kL_154 (l_start (k := k) (t := 0) hI hk36 (by omega) (by decide)) rfl (zle rfl) ⟨zle rfl, zle rfl⟩ (zroom (by omega) (by omega)) (q := 53) rfl (fun hE50 X50 hk50 => ?_)
    refine z_iast dL_isTidied_53 (wy_1 _ _ _ _ _) (zin (by omega) (by decide)) (q := 54) rfl ?_
    refine Z.eqw (wys_1 _ _ _ _ _ _) ?_
    rw [nI_clamp (n := k) (by omega)]
    refine z_iload dL_isTidied_54 rfl (q := 56) rfl ?_
    refine z_aload dL_isTidied_56 rfl (q := 58) rfl ?_
    refine z_iload dL_isTidied_58 rfl (q := 60) rfl ?_
    refine z_iald dL_isTidied_60 (wy_0 _ _ _ _) (zin (by omega) (by decide)) (q := 61) rfl ?_
    rw [nI_clamp (n := k) (by omega), pk_us]
    refine z_aload_n (i := 0) dL_isTidied_61 rfl rfl (q := 62) rfl ?_
    refine z_iload dL_isTidied_62 rfl (q := 64) rfl ?_
    refine z_iload_n (i := 2) dL_isTidied_64 rfl rfl (q := 65) rfl ?_
    refine z_callSA (As := [_, _, _]) dL_isTidied_65 kL_154 (l_start (k := k) (t := 1) hI hk50 (by omega) (by decide)) rfl (zle rfl) ⟨zle rfl, zle rfl⟩ (zroom (by omega) (by omega)) (q := 68) rfl (fun hE65 X65 hk65 => ?_)
    refine z_isub dL_isTidied_68 (q := 69) rfl ?_
    refine z_abs dL_isTidied_69 kL_161 (zle rfl) ⟨zle rfl, zle rfl, (by show _ ≤ 40; omega), (by show _ ≤ 240; omega)⟩ (q := 72) rfl ?_
    refine z_iadd dL_isTidied_72 (q := 73) rfl ?_
    refine z_istore dL_isTidied_73 (zle rfl) rfl (q := 75) rfl ?_
    refine z_iinc (v := nI (k + 1)) dL_isTidied_75 rfl (nI_add _ _) (zle rfl) rfl (q := 78) rfl ?_
    refine z_goto (tgt := 16) dL_isTidied_78 (by decide) ?_
    exact Z.widen (by omega) (by omega) (ih (k + 1) (by omega) _ _ _ _ hk65 (up_lt hf rfl) (up_lt hg rfl) hs)
set_option maxRecDepth 100000 in
set_option maxHeartbeats 4000000 in
theorem tid_2_1 {n nw : Nat} {lo : Int32} {f g : Nat → Int32} {e6 e7 e8 e9 : Option Value} (h4 : n ≤ 4) (hm : mvT X 1 n nw X3) (hf : ∀ j, j < n → f j = tS X 1 n nw j) (hg : ∀ j, j < n → g j = X.2.1 (2 * 0) j) : ∀ (m k : Nat), k + m = n → ∀ (X1 : zX), keep0 X3 X1 → Z G mL_isTidied (zrm 17 40 240) (22 + 2 * k) (128 + 12 * k) 208 [some (.ref 0), some (.int (nI n)), some (.int 1), some (.int lo), some (.ref 77), some (.ref 78), e6, e7, e8, e9, none, some (.int 1), some (.int (nI k))] [] (zw X1 (ar2 f g) O) (nxQ X n nw O) := by
  intro m
  induction m with
  | zero =>
    intro k hk0 X1 hk
    refine z_iload dL_isTidied_208 rfl (q := 210) rfl ?_
    refine z_iload_n (i := 1) dL_isTidied_210 rfl rfl (q := 211) rfl ?_
    refine z_icmp_ge (tgt := 264) dL_isTidied_211 (by decide) (q := 214) rfl (fun h211 => ?_) (fun h211 => absurd (nI_le (show n ≤ k by omega) (by omega)) h211)
    refine z_iload dL_isTidied_264 rfl (q := 266) rfl ?_
    exact z_zret dL_isTidied_266 rfl (by first | rfl | assumption | decide) (zroom (by omega) (by omega)) ⟨rfl, _, _, rfl, inv_keep hk hm.1, (hk.1 4 (by decide)).2.trans (hm.2.1 4 (by decide) (by decide))⟩
  | succ m ih =>
    intro k hk0 X1 hk
    refine z_iload dL_isTidied_208 rfl (q := 210) rfl ?_
    refine z_iload_n (i := 1) dL_isTidied_210 rfl rfl (q := 211) rfl ?_
    refine z_icmp_ge (tgt := 264) dL_isTidied_211 (by decide) (q := 214) rfl (fun h211 => absurd h211 (nI_ge (show k < n by omega) (by omega))) (fun h211 => ?_)
    refine z_iload dL_isTidied_214 rfl (q := 216) rfl ?_
    refine z_if_eq (tgt := 255) dL_isTidied_216 (by decide) (q := 219) rfl (fun h216 => absurd h216 (by decide)) (fun h216 => ?_)
    refine z_aload_n (i := 0) dL_isTidied_219 rfl rfl (q := 220) rfl ?_
    refine z_iload dL_isTidied_220 rfl (q := 222) rfl ?_
    refine z_iload_n (i := 2) dL_isTidied_222 rfl rfl (q := 223) rfl ?_
    refine z_callSA (As := [_, _, _]) dL_isTidied_223 kL_154 (l_start (k := k) (t := 1) hm.1 hk (by omega) (by decide)) rfl (zle rfl) ⟨zle rfl, zle rfl⟩ (zroom (by omega) (by omega)) (q := 226) rfl (fun hE223 X223 hk223 => ?_)
    refine z_aload dL_isTidied_226 rfl (q := 228) rfl ?_
    refine z_iload dL_isTidied_228 rfl (q := 230) rfl ?_
    refine z_iald dL_isTidied_230 (wy_0 _ _ _ _) (zin (by omega) (by decide)) (q := 231) rfl ?_
    rw [nI_clamp (n := k) (by omega), hf k (by omega)]
    refine z_icmp_ne (tgt := 255) dL_isTidied_231 (by decide) (q := 234) rfl (fun h231 => absurd h231 (fun h9 => h9 (hm.2.2.1 k (by omega)))) (fun h231 => ?_)
    refine z_aload_n (i := 0) dL_isTidied_234 rfl rfl (q := 235) rfl ?_
    refine z_iload dL_isTidied_235 rfl (q := 237) rfl ?_
    refine z_iconst (v := 1) dL_isTidied_237 rfl (q := 238) rfl ?_
    refine z_iload_n (i := 2) dL_isTidied_238 rfl rfl (q := 239) rfl ?_
    refine z_isub dL_isTidied_239 (q := 240) rfl ?_
    refine Z.eqst (st2 := .int 0 :: _) (congrArg (fun z : Int32 => Value.int z :: _) (by decide)) ?_
    refine z_callSA (As := [_, _, _]) dL_isTidied_240 kL_154 (l_start (k := k) (t := 0) hm.1 hk223 (by omega) (by decide)) rfl (zle rfl) ⟨zle rfl, zle rfl⟩ (zroom (by omega) (by omega)) (q := 243) rfl (fun hE240 X240 hk240 => ?_)
    refine z_aload dL_isTidied_243 rfl (q := 245) rfl ?_
    refine z_iload dL_isTidied_245 rfl (q := 247) rfl ?_
    refine z_iald dL_isTidied_247 (wy_1 _ _ _ _ _) (zin (by omega) (by decide)) (q := 248) rfl ?_
    rw [nI_clamp (n := k) (by omega), hg k (by omega)]
    refine z_icmp_ne (tgt := 255) dL_isTidied_248 (by decide) (q := 251) rfl (fun h248 => absurd h248 (fun h9 => h9 (congrFun (hm.2.1 (2 * 0) (by decide) (by decide)) k))) (fun h248 => ?_)
    refine z_iconst (v := 1) dL_isTidied_251 rfl (q := 252) rfl ?_
    refine z_goto (tgt := 256) dL_isTidied_252 (by decide) ?_
    refine z_istore dL_isTidied_256 (zle rfl) rfl (q := 258) rfl ?_
    refine z_iinc (v := nI (k + 1)) dL_isTidied_258 rfl (nI_add _ _) (zle rfl) rfl (q := 261) rfl ?_
    refine z_goto (tgt := 208) dL_isTidied_261 (by decide) ?_
    exact Z.widen (by omega) (by omega) (ih (k + 1) (by omega) _ hk240)
set_option maxRecDepth 100000 in
set_option maxHeartbeats 4000000 in
theorem c_L_isTidied_1A {n nw : Nat} (hI : inv X n nw) (hk : keep0 X X1) : ZM G mL_isTidied 17 40 240 [.ref 0, .int (nI n), .int 1, .int (-1)] (zw X1 [] O) (nxP X n nw O) := by
  have h4 := hI.1
  refine nx_drop ?_
  refine ZM.go pL rfl rfl (zle rfl) (zl := [some (.ref 0), some (.int (nI n)), some (.int 1), some (.int (-1)), none, none, none, none, none, none, none, none, none]) rfl ?_
  refine z_iconst (v := 4) dL_isTidied_0 rfl (q := 1) rfl ?_
  refine z_newa (t := 0) (N := 4) (a0 := (4, .inl (fun _ => 0))) (ty := .int) dL_isTidied_1 wa_int rfl rfl (fun _ => rfl) (fun C h => by cases h) (by decide) rfl (zle rfl) (by rw [zw_len]; decide) (zroom (by omega) (by omega)) (q := 3) rfl ?_
  refine Z.eqw (w2 := zw X1 [Sum.inl (0, 4, .inl (fun _ => 0))] O) rfl ?_
  refine Z.eqst (st2 := [.ref 77]) rfl ?_
  refine z_astore dL_isTidied_3 (zle rfl) rfl (q := 5) rfl ?_
  refine z_iconst (v := 4) dL_isTidied_5 rfl (q := 6) rfl ?_
  refine z_newa (t := 0) (N := 4) (a0 := (4, .inl (fun _ => 0))) (ty := .int) dL_isTidied_6 wa_int rfl rfl (fun _ => rfl) (fun C h => by cases h) (by decide) rfl (zle rfl) (by rw [zw_len]; decide) (zroom (by omega) (by omega)) (q := 8) rfl ?_
  refine Z.eqw (w2 := zw X1 (ar2 (fun _ => 0) (fun _ => 0)) O) rfl ?_
  refine Z.eqst (st2 := [.ref 78]) rfl ?_
  refine z_astore dL_isTidied_8 (zle rfl) rfl (q := 10) rfl ?_
  refine z_iconst (v := 0) dL_isTidied_10 rfl (q := 11) rfl ?_
  refine z_istore dL_isTidied_11 (zle rfl) rfl (q := 13) rfl ?_
  refine z_iconst (v := 0) dL_isTidied_13 rfl (q := 14) rfl ?_
  refine z_istore dL_isTidied_14 (zle rfl) rfl (q := 16) rfl ?_
  refine Z.widen (k2 := 2 + 3 * 0) (n2 := 8 + 18 * 0) (by decide) (by decide) (tid_1_1 hI (fun X2 f g e7 hk hf hg => ?_) n 0 (by omega) _ _ _ 0 hk (fun j hj => absurd hj (Nat.not_lt_zero j)) (fun j hj => absurd hj (Nat.not_lt_zero j)) rfl)
  refine z_aload_n (i := 0) dL_isTidied_81 rfl rfl (q := 82) rfl ?_
  refine z_bipush (v := 9) dL_isTidied_82 rfl (q := 84) rfl ?_
  refine z_iload_n (i := 2) dL_isTidied_84 rfl rfl (q := 85) rfl ?_
  refine z_callSF (As := [_]) dL_isTidied_85 kL_148 (c_L_axis (t := 1) (by decide)) rfl (zle rfl) ⟨zle rfl, zle rfl⟩ (zroom (by omega) (by omega)) (q := 88) rfl ?_
  refine z_iconst (v := 0) dL_isTidied_88 rfl (q := 89) rfl ?_
  refine z_iconst (v := 0) dL_isTidied_89 rfl (q := 90) rfl ?_
  refine z_callSWA (As := [_, _, _, _, _]) dL_isTidied_90 kL_151 (a_best (t := 1) hI hk (by decide)) rfl (zle rfl) ⟨zle rfl, zle rfl⟩ (zroom (by omega) (by omega)) (q := 93) rfl (fun hE90 X90 hk90 => ?_)
  refine z_istore dL_isTidied_93 (zle rfl) rfl (q := 95) rfl ?_
  refine z_iload_n (i := 3) dL_isTidied_95 rfl rfl (q := 96) rfl ?_
  refine z_if_ge (tgt := 103) dL_isTidied_96 (by decide) (q := 99) rfl (fun h96 => absurd h96 (by decide)) (fun h96 => ?_)
  refine z_iconst (v := 0) dL_isTidied_99 rfl (q := 100) rfl ?_
  refine z_goto (tgt := 109) dL_isTidied_100 (by decide) ?_
  refine z_istore dL_isTidied_109 (zle rfl) rfl (q := 111) rfl ?_
  refine z_aload_n (i := 0) dL_isTidied_111 rfl rfl (q := 112) rfl ?_
  refine z_callVF (As := []) dL_isTidied_112 kL_166 c_X8_moved (wo_x _ _ _) rfl rfl (zle rfl) ⟨zle rfl, zle rfl⟩ (zroom (by omega) (by omega)) (q := 115) rfl ?_
  rw [hk90.2]
  refine z_lstore dL_isTidied_115 (zle rfl) rfl (q := 117) rfl ?_
  refine z_iload dL_isTidied_117 rfl (q := 119) rfl ?_
  refine z_aload_n (i := 0) dL_isTidied_119 rfl rfl (q := 120) rfl ?_
  refine z_bipush (v := 11) dL_isTidied_120 rfl (q := 122) rfl ?_
  refine z_iload_n (i := 2) dL_isTidied_122 rfl rfl (q := 123) rfl ?_
  refine z_callSF (As := [_]) dL_isTidied_123 kL_148 (c_L_axis (t := 1) (by decide)) rfl (zle rfl) ⟨zle rfl, zle rfl⟩ (zroom (by omega) (by omega)) (q := 126) rfl ?_
  refine z_iconst (v := 0) dL_isTidied_126 rfl (q := 127) rfl ?_
  refine z_iconst (v := 0) dL_isTidied_127 rfl (q := 128) rfl ?_
  refine z_callSWA (As := [_, _, _, _, _]) dL_isTidied_128 kL_151 (a_tidyCost (t := 1) hI hk90 (by decide)) rfl (zle rfl) ⟨zle rfl, zle rfl⟩ (zroom (by omega) (by omega)) (q := 131) rfl (fun hE128 X128 hk128 => ?_)
  refine z_icmp_ne (tgt := 202) dL_isTidied_131 (by decide) (q := 134) rfl (fun h131 => absurd h131 (fun h9 => h9 (td_facts hI (by decide) hE90).1)) (fun h131 => ?_)
  refine z_aload_n (i := 0) dL_isTidied_134 rfl rfl (q := 135) rfl ?_
  refine z_bipush (v := 7) dL_isTidied_135 rfl (q := 137) rfl ?_
  refine z_iload_n (i := 2) dL_isTidied_137 rfl rfl (q := 138) rfl ?_
  refine z_callSF (As := [_]) dL_isTidied_138 kL_148 (c_L_axis (t := 1) (by decide)) rfl (zle rfl) ⟨zle rfl, zle rfl⟩ (zroom (by omega) (by omega)) (q := 141) rfl ?_
  refine z_iconst (v := 0) dL_isTidied_141 rfl (q := 142) rfl ?_
  refine z_iconst (v := 0) dL_isTidied_142 rfl (q := 143) rfl ?_
  refine z_iconst (v := 0) dL_isTidied_143 rfl (q := 144) rfl ?_
  refine z_callSWD (As := [_, _, _, _, _, _]) dL_isTidied_144 kL_145 (d_tidy (t := 1) hI hk128 (by decide)) rfl (zle rfl) ⟨zle rfl, zle rfl⟩ (zroom (by omega) (by omega)) (q := 147) rfl (fun X3 hm => ?_)
  refine z_iload dL_isTidied_147 rfl (q := 149) rfl ?_
  refine z_icmp_ne (tgt := 202) dL_isTidied_149 (by decide) (q := 152) rfl (fun h149 => absurd h149 (fun h9 => h9 (td_facts hI (by decide) hE90).1.symm)) (fun h149 => ?_)
  refine z_aload_n (i := 0) dL_isTidied_152 rfl rfl (q := 153) rfl ?_
  refine z_bipush (v := 7) dL_isTidied_153 rfl (q := 155) rfl ?_
  refine z_iload_n (i := 2) dL_isTidied_155 rfl rfl (q := 156) rfl ?_
  refine z_callSF (As := [_]) dL_isTidied_156 kL_148 (c_L_axis (t := 1) (by decide)) rfl (zle rfl) ⟨zle rfl, zle rfl⟩ (zroom (by omega) (by omega)) (q := 159) rfl ?_
  refine z_iconst (v := 0) dL_isTidied_159 rfl (q := 160) rfl ?_
  refine z_iconst (v := 0) dL_isTidied_160 rfl (q := 161) rfl ?_
  refine z_callSWA (As := [_, _, _, _, _]) dL_isTidied_161 kL_151 (a_strength (t := 1) hm.1 (keep0_refl X3) (by decide)) rfl (zle rfl) ⟨zle rfl, zle rfl⟩ (zroom (by omega) (by omega)) (q := 164) rfl (fun hE161 X161 hk161 => ?_)
  refine z_iload dL_isTidied_164 rfl (q := 166) rfl ?_
  refine z_icmp_ne (tgt := 202) dL_isTidied_166 (by decide) (q := 169) rfl (fun h166 => absurd h166 (fun h9 => h9 (tid_str hI (by decide) hE90 hm))) (fun h166 => ?_)
  refine z_aload_n (i := 0) dL_isTidied_169 rfl rfl (q := 170) rfl ?_
  refine z_callVF (As := []) dL_isTidied_170 kL_166 c_X8_moved (wo_x _ _ _) rfl rfl (zle rfl) ⟨zle rfl, zle rfl⟩ (zroom (by omega) (by omega)) (q := 173) rfl ?_
  refine z_lload dL_isTidied_173 rfl (q := 175) rfl ?_
  refine z_iload dL_isTidied_175 rfl (q := 177) rfl ?_
  refine z_i2l dL_isTidied_177 (q := 178) rfl ?_
  refine z_ladd dL_isTidied_178 (q := 179) rfl ?_
  refine z_lcmp dL_isTidied_179 (q := 180) rfl ?_
  refine z_if_ne (tgt := 202) dL_isTidied_180 (by decide) (q := 183) rfl (fun h180 => absurd h180 (fun h9 => h9 (tid_mv hI (by decide) hE90 hm hk161))) (fun h180 => ?_)
  refine z_iload_n (i := 3) dL_isTidied_183 rfl rfl (q := 184) rfl ?_
  refine z_if_lt (tgt := 198) dL_isTidied_184 (by decide) (q := 187) rfl (fun h184 => ?_) (fun h184 => absurd h184 (by decide))
  refine z_iconst (v := 1) dL_isTidied_198 rfl (q := 199) rfl ?_
  refine z_goto (tgt := 203) dL_isTidied_199 (by decide) ?_
  refine z_istore dL_isTidied_203 (zle rfl) rfl (q := 205) rfl ?_
  refine z_iconst (v := 0) dL_isTidied_205 rfl (q := 206) rfl ?_
  refine z_istore dL_isTidied_206 (zle rfl) rfl (q := 208) rfl ?_
  exact Z.widen (k2 := 22 + 2 * 0) (n2 := 128 + 12 * 0) (by omega) (by omega) (tid_2_1 h4 hm hf hg n 0 (by omega) _ hk161)
set_option maxRecDepth 100000 in
set_option maxHeartbeats 4000000 in
theorem c_L_isTidied_1B {n nw lk : Nat} (hI : inv X n nw) (hk : keep0 X X1) (hlk : lk < n) (hll : ¬ X.2.1 4 lk = 0) : ZM G mL_isTidied 17 40 240 [.ref 0, .int (nI n), .int 1, .int (nI lk)] (zw X1 [] O) (nxP X n nw O) := by
  have h4 := hI.1
  refine nx_drop ?_
  refine ZM.go pL rfl rfl (zle rfl) (zl := [some (.ref 0), some (.int (nI n)), some (.int 1), some (.int (nI lk)), none, none, none, none, none, none, none, none, none]) rfl ?_
  refine z_iconst (v := 4) dL_isTidied_0 rfl (q := 1) rfl ?_
  refine z_newa (t := 0) (N := 4) (a0 := (4, .inl (fun _ => 0))) (ty := .int) dL_isTidied_1 wa_int rfl rfl (fun _ => rfl) (fun C h => by cases h) (by decide) rfl (zle rfl) (by rw [zw_len]; decide) (zroom (by omega) (by omega)) (q := 3) rfl ?_
  refine Z.eqw (w2 := zw X1 [Sum.inl (0, 4, .inl (fun _ => 0))] O) rfl ?_
  refine Z.eqst (st2 := [.ref 77]) rfl ?_
  refine z_astore dL_isTidied_3 (zle rfl) rfl (q := 5) rfl ?_
  refine z_iconst (v := 4) dL_isTidied_5 rfl (q := 6) rfl ?_
  refine z_newa (t := 0) (N := 4) (a0 := (4, .inl (fun _ => 0))) (ty := .int) dL_isTidied_6 wa_int rfl rfl (fun _ => rfl) (fun C h => by cases h) (by decide) rfl (zle rfl) (by rw [zw_len]; decide) (zroom (by omega) (by omega)) (q := 8) rfl ?_
  refine Z.eqw (w2 := zw X1 (ar2 (fun _ => 0) (fun _ => 0)) O) rfl ?_
  refine Z.eqst (st2 := [.ref 78]) rfl ?_
  refine z_astore dL_isTidied_8 (zle rfl) rfl (q := 10) rfl ?_
  refine z_iconst (v := 0) dL_isTidied_10 rfl (q := 11) rfl ?_
  refine z_istore dL_isTidied_11 (zle rfl) rfl (q := 13) rfl ?_
  refine z_iconst (v := 0) dL_isTidied_13 rfl (q := 14) rfl ?_
  refine z_istore dL_isTidied_14 (zle rfl) rfl (q := 16) rfl ?_
  refine Z.widen (k2 := 2 + 3 * 0) (n2 := 8 + 18 * 0) (by decide) (by decide) (tid_1_1 hI (fun X2 f g e7 hk hf hg => ?_) n 0 (by omega) _ _ _ 0 hk (fun j hj => absurd hj (Nat.not_lt_zero j)) (fun j hj => absurd hj (Nat.not_lt_zero j)) rfl)
  refine z_aload_n (i := 0) dL_isTidied_81 rfl rfl (q := 82) rfl ?_
  refine z_bipush (v := 9) dL_isTidied_82 rfl (q := 84) rfl ?_
  refine z_iload_n (i := 2) dL_isTidied_84 rfl rfl (q := 85) rfl ?_
  refine z_callSF (As := [_]) dL_isTidied_85 kL_148 (c_L_axis (t := 1) (by decide)) rfl (zle rfl) ⟨zle rfl, zle rfl⟩ (zroom (by omega) (by omega)) (q := 88) rfl ?_
  refine z_iconst (v := 0) dL_isTidied_88 rfl (q := 89) rfl ?_
  refine z_iconst (v := 0) dL_isTidied_89 rfl (q := 90) rfl ?_
  refine z_callSWA (As := [_, _, _, _, _]) dL_isTidied_90 kL_151 (a_best (t := 1) hI hk (by decide)) rfl (zle rfl) ⟨zle rfl, zle rfl⟩ (zroom (by omega) (by omega)) (q := 93) rfl (fun hE90 X90 hk90 => ?_)
  refine z_istore dL_isTidied_93 (zle rfl) rfl (q := 95) rfl ?_
  refine z_iload_n (i := 3) dL_isTidied_95 rfl rfl (q := 96) rfl ?_
  refine z_if_ge (tgt := 103) dL_isTidied_96 (by decide) (q := 99) rfl (fun h96 => ?_) (fun h96 => absurd (nI_pos' (by omega)) h96)
  refine z_aload_n (i := 0) dL_isTidied_103 rfl rfl (q := 104) rfl ?_
  refine z_iload_n (i := 3) dL_isTidied_104 rfl rfl (q := 105) rfl ?_
  refine z_iload_n (i := 2) dL_isTidied_105 rfl rfl (q := 106) rfl ?_
  refine z_callSA (As := [_, _, _]) dL_isTidied_106 kL_154 (l_start (k := lk) (t := 1) hI hk90 (by omega) (by decide)) rfl (zle rfl) ⟨zle rfl, zle rfl⟩ (zroom (by omega) (by omega)) (q := 109) rfl (fun hE106 X106 hk106 => ?_)
  refine z_istore dL_isTidied_109 (zle rfl) rfl (q := 111) rfl ?_
  refine z_aload_n (i := 0) dL_isTidied_111 rfl rfl (q := 112) rfl ?_
  refine z_callVF (As := []) dL_isTidied_112 kL_166 c_X8_moved (wo_x _ _ _) rfl rfl (zle rfl) ⟨zle rfl, zle rfl⟩ (zroom (by omega) (by omega)) (q := 115) rfl ?_
  rw [hk106.2]
  refine z_lstore dL_isTidied_115 (zle rfl) rfl (q := 117) rfl ?_
  refine z_iload dL_isTidied_117 rfl (q := 119) rfl ?_
  refine z_aload_n (i := 0) dL_isTidied_119 rfl rfl (q := 120) rfl ?_
  refine z_bipush (v := 11) dL_isTidied_120 rfl (q := 122) rfl ?_
  refine z_iload_n (i := 2) dL_isTidied_122 rfl rfl (q := 123) rfl ?_
  refine z_callSF (As := [_]) dL_isTidied_123 kL_148 (c_L_axis (t := 1) (by decide)) rfl (zle rfl) ⟨zle rfl, zle rfl⟩ (zroom (by omega) (by omega)) (q := 126) rfl ?_
  refine z_iconst (v := 0) dL_isTidied_126 rfl (q := 127) rfl ?_
  refine z_iconst (v := 0) dL_isTidied_127 rfl (q := 128) rfl ?_
  refine z_callSWA (As := [_, _, _, _, _]) dL_isTidied_128 kL_151 (a_tidyCost (t := 1) hI hk106 (by decide)) rfl (zle rfl) ⟨zle rfl, zle rfl⟩ (zroom (by omega) (by omega)) (q := 131) rfl (fun hE128 X128 hk128 => ?_)
  refine z_icmp_ne (tgt := 202) dL_isTidied_131 (by decide) (q := 134) rfl (fun h131 => absurd h131 (fun h9 => h9 (td_facts hI (by decide) hE90).1)) (fun h131 => ?_)
  refine z_aload_n (i := 0) dL_isTidied_134 rfl rfl (q := 135) rfl ?_
  refine z_bipush (v := 7) dL_isTidied_135 rfl (q := 137) rfl ?_
  refine z_iload_n (i := 2) dL_isTidied_137 rfl rfl (q := 138) rfl ?_
  refine z_callSF (As := [_]) dL_isTidied_138 kL_148 (c_L_axis (t := 1) (by decide)) rfl (zle rfl) ⟨zle rfl, zle rfl⟩ (zroom (by omega) (by omega)) (q := 141) rfl ?_
  refine z_iconst (v := 0) dL_isTidied_141 rfl (q := 142) rfl ?_
  refine z_iconst (v := 0) dL_isTidied_142 rfl (q := 143) rfl ?_
  refine z_iconst (v := 0) dL_isTidied_143 rfl (q := 144) rfl ?_
  refine z_callSWD (As := [_, _, _, _, _, _]) dL_isTidied_144 kL_145 (d_tidy (t := 1) hI hk128 (by decide)) rfl (zle rfl) ⟨zle rfl, zle rfl⟩ (zroom (by omega) (by omega)) (q := 147) rfl (fun X3 hm => ?_)
  refine z_iload dL_isTidied_147 rfl (q := 149) rfl ?_
  refine z_icmp_ne (tgt := 202) dL_isTidied_149 (by decide) (q := 152) rfl (fun h149 => absurd h149 (fun h9 => h9 (td_facts hI (by decide) hE90).1.symm)) (fun h149 => ?_)
  refine z_aload_n (i := 0) dL_isTidied_152 rfl rfl (q := 153) rfl ?_
  refine z_bipush (v := 7) dL_isTidied_153 rfl (q := 155) rfl ?_
  refine z_iload_n (i := 2) dL_isTidied_155 rfl rfl (q := 156) rfl ?_
  refine z_callSF (As := [_]) dL_isTidied_156 kL_148 (c_L_axis (t := 1) (by decide)) rfl (zle rfl) ⟨zle rfl, zle rfl⟩ (zroom (by omega) (by omega)) (q := 159) rfl ?_
  refine z_iconst (v := 0) dL_isTidied_159 rfl (q := 160) rfl ?_
  refine z_iconst (v := 0) dL_isTidied_160 rfl (q := 161) rfl ?_
  refine z_callSWA (As := [_, _, _, _, _]) dL_isTidied_161 kL_151 (a_strength (t := 1) hm.1 (keep0_refl X3) (by decide)) rfl (zle rfl) ⟨zle rfl, zle rfl⟩ (zroom (by omega) (by omega)) (q := 164) rfl (fun hE161 X161 hk161 => ?_)
  refine z_iload dL_isTidied_164 rfl (q := 166) rfl ?_
  refine z_icmp_ne (tgt := 202) dL_isTidied_166 (by decide) (q := 169) rfl (fun h166 => absurd h166 (fun h9 => h9 (tid_str hI (by decide) hE90 hm))) (fun h166 => ?_)
  refine z_aload_n (i := 0) dL_isTidied_169 rfl rfl (q := 170) rfl ?_
  refine z_callVF (As := []) dL_isTidied_170 kL_166 c_X8_moved (wo_x _ _ _) rfl rfl (zle rfl) ⟨zle rfl, zle rfl⟩ (zroom (by omega) (by omega)) (q := 173) rfl ?_
  refine z_lload dL_isTidied_173 rfl (q := 175) rfl ?_
  refine z_iload dL_isTidied_175 rfl (q := 177) rfl ?_
  refine z_i2l dL_isTidied_177 (q := 178) rfl ?_
  refine z_ladd dL_isTidied_178 (q := 179) rfl ?_
  refine z_lcmp dL_isTidied_179 (q := 180) rfl ?_
  refine z_if_ne (tgt := 202) dL_isTidied_180 (by decide) (q := 183) rfl (fun h180 => absurd h180 (fun h9 => h9 (tid_mv hI (by decide) hE90 hm hk161))) (fun h180 => ?_)
  refine z_iload_n (i := 3) dL_isTidied_183 rfl rfl (q := 184) rfl ?_
  refine z_if_lt (tgt := 198) dL_isTidied_184 (by decide) (q := 187) rfl (fun h184 => absurd h184 (nI_pos (by omega))) (fun h184 => ?_)
  refine z_aload_n (i := 0) dL_isTidied_187 rfl rfl (q := 188) rfl ?_
  refine z_iload_n (i := 3) dL_isTidied_188 rfl rfl (q := 189) rfl ?_
  refine z_iload_n (i := 2) dL_isTidied_189 rfl rfl (q := 190) rfl ?_
  refine z_callSA (As := [_, _, _]) dL_isTidied_190 kL_154 (l_start (k := lk) (t := 1) hm.1 hk161 (by omega) (by decide)) rfl (zle rfl) ⟨zle rfl, zle rfl⟩ (zroom (by omega) (by omega)) (q := 193) rfl (fun hE190 X190 hk190 => ?_)
  refine z_iload dL_isTidied_193 rfl (q := 195) rfl ?_
  refine z_icmp_ne (tgt := 202) dL_isTidied_195 (by decide) (q := 198) rfl (fun h195 => absurd h195 (fun h9 => h9 (tid_lk hI (by decide) hE90 hm hlk hll))) (fun h195 => ?_)
  refine z_iconst (v := 1) dL_isTidied_198 rfl (q := 199) rfl ?_
  refine z_goto (tgt := 203) dL_isTidied_199 (by decide) ?_
  refine z_istore dL_isTidied_203 (zle rfl) rfl (q := 205) rfl ?_
  refine z_iconst (v := 0) dL_isTidied_205 rfl (q := 206) rfl ?_
  refine z_istore dL_isTidied_206 (zle rfl) rfl (q := 208) rfl ?_
  exact Z.widen (k2 := 22 + 2 * 0) (n2 := 128 + 12 * 0) (by omega) (by omega) (tid_2_1 h4 hm hf hg n 0 (by omega) _ hk190)
end
