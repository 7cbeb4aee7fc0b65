section
variable {G : zG} {X X1 : zX} {Y : zY} {O : zO}
set_option maxRecDepth 100000 in
set_option maxHeartbeats 4000000 in
theorem q_30 {i kc ks : Nat} {e6 e7 e8 e9 : Option Value} {P : zRes → zWorld → Prop} (hg : good X Y) (hL : i + 5 ≤ G.L) (hL2 : G.L ≤ 2560) (hk : kc + 1 ≤ room_1.cells ∧ ks + 6 ≤ room_1.slots) (hx2 : lK G P i (kc + 1) (ks + 6)) : Z G mL_law room_1 kc ks 2171 [some (.ref zSI), some (.ref 0), some (.ref 77), some (.ref 94), some (.ref 95), some (.int (nI i)), e6, e7, e8, e9] [] (zw X Y O) P := by
  refine Z.widen (Nat.le_add_right kc 1) (Nat.le_add_right ks 6) ?_
  obtain ⟨n, nw, hI, hR⟩ := hg
  have h4 := hI.1
  have hn := inv_n hI
  refine z_aload_n (i := 1) dL_law_2171 rfl rfl (q := 2172) rfl ?_
  refine z_callVF (As := []) dL_law_2172 kL_236 (c_X8_moved) (wo_x _ _ _) rfl rfl (zle rfl) ⟨zle rfl, zle rfl⟩ hk (q := 2175) rfl ?_
  refine z_aload_n (i := 2) dL_law_2175 rfl rfl (q := 2176) rfl ?_
  refine z_callVF (As := []) dL_law_2176 kL_240 (c_X9_moved) (wm _ _ _) rfl rfl (zle rfl) ⟨zle rfl, zle rfl⟩ hk (q := 2179) rfl ?_
  refine z_lcmp dL_law_2179 (q := 2180) rfl ?_
  rw [show Y.2.2 = X.2.2.2 from hR.2.2.2.2.2.2.1, lg_self]
  refine z_if_eq (tgt := 2306) dL_law_2180 (by decide) (q := 2183) rfl (fun h2180 => ?_) (fun h2180 => absurd rfl h2180)
  exact hx2 _ _ _ _ _ _ _ ⟨n, nw, hI, rel_thr hR 0⟩
set_option maxRecDepth 100000 in
set_option maxHeartbeats 4000000 in
theorem q_31 {i kc ks : Nat} {e6 e7 e8 e9 : Option Value} {P : zRes → zWorld → Prop} (hg : good X Y) (hL : i + 5 ≤ G.L) (hL2 : G.L ≤ 2560) (hk : kc + 1 ≤ room_1.cells ∧ ks + 6 ≤ room_1.slots) (hx2 : lK G P i (kc + 1) (ks + 6)) : Z G mL_law room_1 kc ks 2185 [some (.ref zSI), some (.ref 0), some (.ref 77), some (.ref 94), some (.ref 95), some (.int (nI i)), e6, e7, e8, e9] [] (zw X Y O) P := by
  refine Z.widen (Nat.le_add_right kc 1) (Nat.le_add_right ks 6) ?_
  obtain ⟨n, nw, hI, hR⟩ := hg
  have h4 := hI.1
  have hn := inv_n hI
  refine z_aload_n (i := 1) dL_law_2185 rfl rfl (q := 2186) rfl ?_
  refine z_callVF (As := []) dL_law_2186 kL_241 (c_X8_covered hn h4 (n_cov _)) (wo_x _ _ _) rfl rfl (zle rfl) ⟨zle rfl, zle rfl⟩ hk (q := 2189) rfl ?_
  refine z_f2d dL_law_2189 (n_f2d (n_cov _)) (q := 2190) rfl ?_
  refine z_dstore dL_law_2190 (zle rfl) rfl (q := 2192) rfl ?_
  refine z_aload_n (i := 2) dL_law_2192 rfl rfl (q := 2193) rfl ?_
  refine z_callVF (As := []) dL_law_2193 kL_245 (c_X9_covered hR) (wm _ _ _) rfl rfl (zle rfl) ⟨zle rfl, zle rfl⟩ hk (q := 2196) rfl ?_
  refine z_f2d dL_law_2196 (n_f2d (n_cov _)) (q := 2197) rfl ?_
  refine z_dstore dL_law_2197 (zle rfl) rfl (q := 2199) rfl ?_
  refine z_dload dL_law_2199 rfl (q := 2201) rfl ?_
  refine z_dload dL_law_2201 rfl (q := 2203) rfl ?_
  refine z_dcmp dL_law_2203 (q := 2204) rfl ?_
  refine z_if_eq (tgt := 2225) dL_law_2204 (by decide) (q := 2207) rfl (fun h2204 => ?_) (fun h2204 => ?_)
  · refine z_goto (tgt := 2306) dL_law_2225 (by decide) ?_
    exact hx2 _ _ _ _ _ _ _ ⟨n, nw, hI, rel_thr hR 0⟩
  · refine z_dload dL_law_2207 rfl (q := 2209) rfl ?_
    refine z_dload dL_law_2209 rfl (q := 2211) rfl ?_
    refine z_dcmp dL_law_2211 (q := 2212) rfl ?_
    refine z_if_eq (tgt := 2223) dL_law_2212 (by decide) (q := 2215) rfl (fun h2212 => absurd h2212 h2204) (fun h2212 => ?_)
    refine z_dload dL_law_2215 rfl (q := 2217) rfl ?_
    refine z_dload dL_law_2217 rfl (q := 2219) rfl ?_
    refine z_dcmp dL_law_2219 (q := 2220) rfl ?_
    refine z_if_ne (tgt := 2225) dL_law_2220 (by decide) (q := 2223) rfl (fun h2220 => ?_) (fun h2220 => absurd h2220 h2204)
    refine z_goto (tgt := 2306) dL_law_2225 (by decide) ?_
    exact hx2 _ _ _ _ _ _ _ ⟨n, nw, hI, rel_thr hR 0⟩
set_option maxRecDepth 100000 in
set_option maxHeartbeats 4000000 in
theorem q_33 {i kc ks : Nat} {e6 e7 e8 e9 : Option Value} {P : zRes → zWorld → Prop} (hg : good X Y) (hL : i + 5 ≤ G.L) (hL2 : G.L ≤ 2560) (hk : kc + 1 ≤ room_1.cells ∧ ks + 6 ≤ room_1.slots) (hx2 : lK G P i (kc + 1) (ks + 6)) : Z G mL_law room_1 kc ks 2293 [some (.ref zSI), some (.ref 0), some (.ref 77), some (.ref 94), some (.ref 95), some (.int (nI i)), e6, e7, e8, e9] [] (zw X Y O) P := by
  obtain ⟨n, nw, hI, hR⟩ := hg
  have h4 := hI.1
  have hn := inv_n hI
  refine z_aload_n (i := 1) dL_law_2293 rfl rfl (q := 2294) rfl ?_
  refine z_callV (As := []) dL_law_2294 kL_250 (c_X8_isSound hI) (wo_x _ _ _) rfl rfl (zle rfl) ⟨zle rfl, zle rfl⟩ hk (q := 2297) rfl (fun rv w2 hw2 => ?_) (fun E w2 h9 => by obtain ⟨_, h9, _⟩ := h9; cases h9)
  obtain ⟨X2, h9, rfl, hk2⟩ := hw2
  cases h9
  refine z_aload_n (i := 2) dL_law_2297 rfl rfl (q := 2298) rfl ?_
  refine z_callVF (As := []) dL_law_2298 kL_254 (c_X9_isSound) (wm _ _ _) rfl rfl (zle rfl) ⟨zle rfl, zle rfl⟩ hk (q := 2301) rfl ?_
  refine z_icmp_eq (tgt := 2306) dL_law_2301 (by decide) (q := 2304) rfl (fun h2301 => ?_) (fun h2301 => absurd rfl h2301)
  exact hx2 _ _ _ _ _ _ _ ⟨n, nw, inv_keep hk2 hI, rel_keep (rel_thr hR 0) hk2⟩
set_option maxRecDepth 100000 in
set_option maxHeartbeats 4000000 in
theorem c_L_mean {v : UInt64} (h : ZM G mX8_meanDistance 3 1 6 [.ref 0] (zw X Y O) (zEq (some (.double v)) (zw X Y O))) : ZM G mL_meanDistance 4 1 6 [.ref 0, .ref 95] (zw X Y O) (zEq (some (.int 0)) (zw X Y (O.1, vf_upd O.2 0 v))) := by
  refine ZM.goH pL rfl rfl (zle rfl) (zl := [some (.ref 0), some (.ref 95), none]) rfl ?_
  refine z_aload_n (i := 1) dL_meanDistance_0 rfl rfl (q := 1) rfl ?_
  refine z_iconst (v := 0) dL_meanDistance_1 rfl (q := 2) rfl ?_
  refine z_aload_n (i := 0) dL_meanDistance_2 rfl rfl (q := 3) rfl ?_
  refine z_callVF (As := []) dL_meanDistance_3 kL_121 h (wo_x _ _ _) rfl rfl (zle rfl) ⟨zle rfl, zle rfl⟩ ⟨zle rfl, zle rfl⟩ (q := 6) rfl ?_
  refine z_dast dL_meanDistance_6 (woutD _ _ _) (zin (k := 0) (by decide) (by decide)) (q := 7) rfl ?_
  refine Z.eqw (woutDs _ _ _ _) ?_
  refine z_goto (tgt := 13) dL_meanDistance_7 (by decide) ?_
  refine z_iconst (v := 0) dL_meanDistance_13 rfl (q := 14) rfl ?_
  exact z_iret dL_meanDistance_14 rfl ⟨zle rfl, zle rfl⟩ ⟨rfl, rfl⟩
set_option maxRecDepth 100000 in
set_option maxHeartbeats 4000000 in
theorem c_L_mean_no (h : ZM G mX8_meanDistance 3 1 6 [.ref 0] (zw X Y O) (zTh eAE (zw X Y O))) : ZM G mL_meanDistance 4 1 6 [.ref 0, .ref 95] (zw X Y O) (zEq (some (.int 1)) (zw X Y O)) := by
  refine ZM.goH pL rfl rfl (zle rfl) (zl := [some (.ref 0), some (.ref 95), none]) rfl ?_
  refine z_aload_n (i := 1) dL_meanDistance_0 rfl rfl (q := 1) rfl ?_
  refine z_iconst (v := 0) dL_meanDistance_1 rfl (q := 2) rfl ?_
  refine z_aload_n (i := 0) dL_meanDistance_2 rfl rfl (q := 3) rfl ?_
  refine z_callV (As := []) dL_meanDistance_3 kL_121 h (wo_x _ _ _) rfl rfl (zle rfl) ⟨zle rfl, zle rfl⟩ ⟨zle rfl, zle rfl⟩ (q := 6) rfl (fun rv w2 hw2 => by cases hw2.1) (fun E w2 hw2 => ?_)
  obtain ⟨h9, rfl⟩ := hw2
  cases h9
  exact zx_catch (name := "java/lang/ArithmeticException") (pre := []) (x := ⟨0, 7, 10, 125⟩) (suf := []) (v := 1) (i := 2) (p2 := 11) (p3 := 12) (ty := .int) rfl (fun z hz => by cases hz) (by decide) (by decide) wcl_125 wca_125 (by decide) (Or.inl ⟨⟨2, by decide⟩, rfl, dL_meanDistance_10, rfl⟩) dL_meanDistance_11 rfl dL_meanDistance_12 rfl rfl ⟨zle rfl, zle rfl⟩ ⟨rfl, rfl⟩
set_option maxRecDepth 100000 in
set_option maxHeartbeats 4000000 in
theorem q_32 {i kc ks : Nat} {e6 e7 e8 e9 : Option Value} {P : zRes → zWorld → Prop} (hg : good X Y) (hL : i + 5 ≤ G.L) (hL2 : G.L ≤ 2560) (hk : kc + 1 ≤ room_1.cells ∧ ks + 6 ≤ room_1.slots) (hx2 : lK G P i (kc + 1) (ks + 6)) : Z G mL_law room_1 kc ks 2228 [some (.ref zSI), some (.ref 0), some (.ref 77), some (.ref 94), some (.ref 95), some (.int (nI i)), e6, e7, e8, e9] [] (zw X Y O) P := by
  obtain ⟨n, nw, hI, hR⟩ := hg
  have h4 := hI.1
  have hn := inv_n hI
  by_cases hp : rc2 n 0 = 0
  rotate_left
  · have hp2 : ¬ tri n = 0 := fun h9 => hp (by rw [← tri_same n h4]; exact h9)
    have e : A_mean X n = FP.ddiv (FP.i2d (msum X n)) (FP.i2d (nI (tri n))) := by
      unfold A_mean; rw [mean_same h4, tri_same n h4]
    have hf : vf_n64 (A_mean X n) := by rw [e]; exact n_mean _ _ (tri_136 n h4 hp2)
    have hmm : ∀ O, ZM G mX9_meanDistance 3 0 0 [.ref 77] (zw X Y O) (zEq (some (.double (A_mean X n))) (zw X (yint Y 0 0) O)) := fun O => by rw [e]; exact c_X9_meanDistance hR hp2
    refine z_aload_n (i := 1) dL_law_2228 rfl rfl (q := 2229) rfl ?_
    refine z_aload dL_law_2229 rfl (q := 2231) rfl ?_
    refine z_callSWF (As := [_, _]) dL_law_2231 kL_246 (c_L_mean (c_X8_meanDistance hn h4 hp hf)) rfl (zle rfl) ⟨zle rfl, zle rfl⟩ hk (q := 2234) rfl ?_
    refine z_istore dL_law_2234 (zle rfl) rfl (q := 2236) rfl ?_
    refine z_aload_n (i := 2) dL_law_2236 rfl rfl (q := 2237) rfl ?_
    refine z_callVF (As := []) dL_law_2237 kL_249 (hmm _) (wm _ _ _) rfl rfl (zle rfl) ⟨zle rfl, zle rfl⟩ hk (q := 2240) rfl ?_
    refine z_dstore dL_law_2240 (zle rfl) rfl (q := 2242) rfl ?_
    refine z_aload_n (i := 2) dL_law_2242 rfl rfl (q := 2243) rfl ?_
    refine z_callVF (As := []) dL_law_2243 kL_137 (c_X9_thrown) (wm _ _ _) rfl rfl (zle rfl) ⟨zle rfl, zle rfl⟩ hk (q := 2246) rfl ?_
    refine z_iload dL_law_2246 rfl (q := 2248) rfl ?_
    refine z_icmp_eq (tgt := 2253) dL_law_2248 (by decide) (q := 2251) rfl (fun h2248 => ?_) (fun h2248 => absurd rfl h2248)
    refine z_iload dL_law_2253 rfl (q := 2255) rfl ?_
    refine z_if_ne (tgt := 2290) dL_law_2255 (by decide) (q := 2258) rfl (fun h2255 => absurd h2255 (by decide)) (fun h2255 => ?_)
    refine z_aload dL_law_2258 rfl (q := 2260) rfl ?_
    refine z_iconst (v := 0) dL_law_2260 rfl (q := 2261) rfl ?_
    refine z_dald dL_law_2261 (woutD _ _ _) (zin (k := 0) (by decide) (by decide)) (q := 2262) rfl ?_
    refine Z.eqst (st2 := [.double (A_mean X n)]) rfl ?_
    refine z_dload dL_law_2262 rfl (q := 2264) rfl ?_
    refine z_dcmp dL_law_2264 (q := 2265) rfl ?_
    refine z_if_eq (tgt := 2290) dL_law_2265 (by decide) (q := 2268) rfl (fun h2265 => ?_) (fun h2265 => ?_)
    · refine z_goto (tgt := 2306) dL_law_2290 (by decide) ?_
      exact hx2 _ _ _ _ _ _ _ ⟨n, nw, hI, rel_thr hR 0⟩
    · refine z_aload dL_law_2268 rfl (q := 2270) rfl ?_
      refine z_iconst (v := 0) dL_law_2270 rfl (q := 2271) rfl ?_
      refine z_dald dL_law_2271 (woutD _ _ _) (zin (k := 0) (by decide) (by decide)) (q := 2272) rfl ?_
      refine z_aload dL_law_2272 rfl (q := 2274) rfl ?_
      refine z_iconst (v := 0) dL_law_2274 rfl (q := 2275) rfl ?_
      refine z_dald dL_law_2275 (woutD _ _ _) (zin (k := 0) (by decide) (by decide)) (q := 2276) rfl ?_
      refine Z.eqst (st2 := [.double (A_mean X n), .double (A_mean X n)]) rfl ?_
      refine z_dcmp dL_law_2276 (q := 2277) rfl ?_
      refine z_if_eq (tgt := 2288) dL_law_2277 (by decide) (q := 2280) rfl (fun h2277 => absurd h2277 h2265) (fun h2277 => ?_)
      refine z_dload dL_law_2280 rfl (q := 2282) rfl ?_
      refine z_dload dL_law_2282 rfl (q := 2284) rfl ?_
      refine z_dcmp dL_law_2284 (q := 2285) rfl ?_
      refine z_if_ne (tgt := 2290) dL_law_2285 (by decide) (q := 2288) rfl (fun h2285 => ?_) (fun h2285 => absurd h2285 h2265)
      refine z_goto (tgt := 2306) dL_law_2290 (by decide) ?_
      exact hx2 _ _ _ _ _ _ _ ⟨n, nw, hI, rel_thr hR 0⟩
  · have hp2 : tri n = 0 := by rw [tri_same n h4]; exact hp
    refine z_aload_n (i := 1) dL_law_2228 rfl rfl (q := 2229) rfl ?_
    refine z_aload dL_law_2229 rfl (q := 2231) rfl ?_
    refine z_callSWF (As := [_, _]) dL_law_2231 kL_246 (c_L_mean_no (c_X8_meanDistance_none hn h4 hp)) rfl (zle rfl) ⟨zle rfl, zle rfl⟩ hk (q := 2234) rfl ?_
    refine z_istore dL_law_2234 (zle rfl) rfl (q := 2236) rfl ?_
    refine z_aload_n (i := 2) dL_law_2236 rfl rfl (q := 2237) rfl ?_
    refine z_callVF (As := []) dL_law_2237 kL_249 (c_X9_meanDistance_none hR hp2) (wm _ _ _) rfl rfl (zle rfl) ⟨zle rfl, zle rfl⟩ hk (q := 2240) rfl ?_
    refine z_dstore dL_law_2240 (zle rfl) rfl (q := 2242) rfl ?_
    refine z_aload_n (i := 2) dL_law_2242 rfl rfl (q := 2243) rfl ?_
    refine z_callVF (As := []) dL_law_2243 kL_137 (c_X9_thrown) (wm _ _ _) rfl rfl (zle rfl) ⟨zle rfl, zle rfl⟩ hk (q := 2246) rfl ?_
    refine z_iload dL_law_2246 rfl (q := 2248) rfl ?_
    refine z_icmp_eq (tgt := 2253) dL_law_2248 (by decide) (q := 2251) rfl (fun h2248 => ?_) (fun h2248 => absurd rfl h2248)
    refine z_iload dL_law_2253 rfl (q := 2255) rfl ?_
    refine z_if_ne (tgt := 2290) dL_law_2255 (by decide) (q := 2258) rfl (fun h2255 => ?_) (fun h2255 => absurd h2255 (by decide))
    refine z_goto (tgt := 2306) dL_law_2290 (by decide) ?_
    exact hx2 _ _ _ _ _ _ _ ⟨n, nw, hI, rel_thr (rel_thr hR 0) 1⟩
set_option maxRecDepth 100000 in
set_option maxHeartbeats 4000000 in
theorem ex_out {i L : Nat} (h : L ≤ i + 4) (hL : L ≤ 2560) (hi : i ≤ 3000) : nI L - 5 < nI i := by
  rw [Int32.lt_iff_toInt_lt, show (5 : Int32) = nI 5 from rfl, pk_sub_toInt (by omega) (by decide), nI_toInt (by omega)]
  omega
set_option maxRecDepth 100000 in
set_option maxHeartbeats 4000000 in
theorem ex_in {i L : Nat} (h : i + 5 ≤ L) (hL : L ≤ 2560) : ¬ nI L - 5 < nI i := by
  rw [Int32.lt_iff_toInt_lt, show (5 : Int32) = nI 5 from rfl, pk_sub_toInt (by omega) (by decide), nI_toInt (by omega)]
  omega
set_option maxRecDepth 100000 in
set_option maxHeartbeats 4000000 in
theorem nI_5 (i : Nat) : nI i + Int32.ofInt 5 = nI (i + 5) := nI_add i 5
set_option maxRecDepth 100000 in
set_option maxHeartbeats 4000000 in
theorem law_loop (hL2 : G.L ≤ 2560) : ∀ (m i kc ks : Nat) (X : zX) (Y : zY) (O : zO) (e6 e7 e8 e9 : Option Value), good X Y → G.L ≤ i + 4 + 5 * m → i + 5 * m ≤ 3000 → (kc + m ≤ room_1.cells ∧ ks + 6 * m ≤ room_1.slots) → Z G mL_law room_1 kc ks 28 [some (.ref zSI), some (.ref 0), some (.ref 77), some (.ref 94), some (.ref 95), some (.int (nI i)), e6, e7, e8, e9] [] (zw X Y O) (fun r _ => r = .inl (some (.int 1))) := by
  intro m
  induction m with
  | zero =>
    intro i kc ks X Y O e6 e7 e8 e9 hg hout hi3 hk
    refine z_iload dL_law_28 rfl (q := 30) rfl ?_
    refine z_aload_n (i := 0) dL_law_30 rfl rfl (q := 31) rfl ?_
    refine z_slen dL_law_31 (q := 32) rfl ?_
    refine z_iconst (v := 5) dL_law_32 rfl (q := 33) rfl ?_
    refine z_isub dL_law_33 (q := 34) rfl ?_
    refine z_icmp_gt (tgt := 2312) dL_law_34 (by decide) (q := 37) rfl (fun h34 => ?_) (fun h34 => absurd (ex_out hout hL2 hi3) h34)
    refine z_iconst (v := 1) dL_law_2312 rfl (q := 2313) rfl ?_
    exact z_zret dL_law_2313 rfl (by rfl) ⟨by omega, by omega⟩ rfl
  | succ m ih =>
    intro i kc ks X Y O e6 e7 e8 e9 hg hout0 hi3 hk
    rcases Nat.lt_or_ge G.L (i + 5) with hout | hin
    · replace hout : G.L ≤ i + 4 := by omega
      replace hi3 : i ≤ 3000 := by omega
      refine z_iload dL_law_28 rfl (q := 30) rfl ?_
      refine z_aload_n (i := 0) dL_law_30 rfl rfl (q := 31) rfl ?_
      refine z_slen dL_law_31 (q := 32) rfl ?_
      refine z_iconst (v := 5) dL_law_32 rfl (q := 33) rfl ?_
      refine z_isub dL_law_33 (q := 34) rfl ?_
      refine z_icmp_gt (tgt := 2312) dL_law_34 (by decide) (q := 37) rfl (fun h34 => ?_) (fun h34 => absurd (ex_out hout hL2 hi3) h34)
      refine z_iconst (v := 1) dL_law_2312 rfl (q := 2313) rfl ?_
      exact z_zret dL_law_2313 rfl (by rfl) ⟨by omega, by omega⟩ rfl
    have hk1 : kc + 1 ≤ room_1.cells ∧ ks + 6 ≤ room_1.slots := by omega
    have hx2 : lK G (fun r _ => r = .inl (some (.int 1))) i (kc + 1) (ks + 6) := fun X2 Y2 O2 f6 f7 f8 f9 hg2 => by
      refine z_iinc dL_law_2306 rfl rfl (zle rfl) rfl (q := 2309) rfl ?_
      refine z_goto (tgt := 28) dL_law_2309 (by decide) ?_
      refine Z.eql (zl2 := [some (.ref zSI), some (.ref 0), some (.ref 77), some (.ref 94), some (.ref 95), some (.int (nI (i + 5))), f6, f7, f8, f9]) (by rw [← nI_5 i]; rfl) ?_
      exact ih (i + 5) (kc + 1) (ks + 6) X2 Y2 O2 f6 f7 f8 f9 hg2 (by omega) (by omega) (by omega)
    refine z_iload dL_law_28 rfl (q := 30) rfl ?_
    refine z_aload_n (i := 0) dL_law_30 rfl rfl (q := 31) rfl ?_
    refine z_slen dL_law_31 (q := 32) rfl ?_
    refine z_iconst (v := 5) dL_law_32 rfl (q := 33) rfl ?_
    refine z_isub dL_law_33 (q := 34) rfl ?_
    refine z_icmp_gt (tgt := 2312) dL_law_34 (by decide) (q := 37) rfl (fun h34 => absurd h34 (ex_in hin hL2)) (fun h34 => ?_)
    refine z_aload_n (i := 0) dL_law_37 rfl rfl (q := 38) rfl ?_
    refine z_iload dL_law_38 rfl (q := 40) rfl ?_
    refine z_sld dL_law_40 (zin (k := i) (by omega) (by omega)) (q := 41) rfl ?_
    refine z_bipush (v := 63) dL_law_41 rfl (q := 43) rfl ?_
    refine z_iand dL_law_43 (q := 44) rfl ?_
    obtain ⟨j, hj, ej⟩ := pk_andE (G.xs (nI i).toNatClampNeg) (m := 63) 6 (by decide)
    rw [ej]
    rcases (show j = 0 ∨ j = 1 ∨ j = 2 ∨ j = 3 ∨ j = 4 ∨ j = 5 ∨ j = 6 ∨ j = 7 ∨ j = 8 ∨ j = 9 ∨ j = 10 ∨ j = 11 ∨ j = 12 ∨ j = 13 ∨ j = 14 ∨ j = 15 ∨ j = 16 ∨ j = 17 ∨ j = 18 ∨ j = 19 ∨ j = 20 ∨ j = 21 ∨ j = 22 ∨ j = 23 ∨ j = 24 ∨ j = 25 ∨ j = 26 ∨ j = 27 ∨ j = 28 ∨ j = 29 ∨ j = 30 ∨ j = 31 ∨ j = 32 ∨ j = 33 ∨ 34 ≤ j by omega) with rfl | rfl | rfl | rfl | rfl | rfl | rfl | rfl | rfl | rfl | rfl | rfl | rfl | rfl | rfl | rfl | rfl | rfl | rfl | rfl | rfl | rfl | rfl | rfl | rfl | rfl | rfl | rfl | rfl | rfl | rfl | rfl | rfl | rfl | hj34
    · exact z_tableIn (off := 152) (tgt := 196) dL_law_44 (by decide) (by decide) rfl (by decide) (q_0 hg hin hL2 hk1 hx2)
    · exact z_tableIn (off := 244) (tgt := 288) dL_law_44 (by decide) (by decide) rfl (by decide) (q_1 hg hin hL2 hk1 hx2)
    · exact z_tableIn (off := 335) (tgt := 379) dL_law_44 (by decide) (by decide) rfl (by decide) (q_2 hg hin hL2 hk1 hx2)
    · exact z_tableIn (off := 405) (tgt := 449) dL_law_44 (by decide) (by decide) rfl (by decide) (q_3 hg hin hL2 hk1 hx2)
    · exact z_tableIn (off := 475) (tgt := 519) dL_law_44 (by decide) (by decide) rfl (by decide) (q_4 hg hin hL2 hk1 hx2)
    · exact z_tableIn (off := 555) (tgt := 599) dL_law_44 (by decide) (by decide) rfl (by decide) (q_5 hg hin hL2 hk1 hx2)
    · exact z_tableIn (off := 635) (tgt := 679) dL_law_44 (by decide) (by decide) rfl (by decide) (q_6 hg hin hL2 hk1 hx2)
    · exact z_tableIn (off := 703) (tgt := 747) dL_law_44 (by decide) (by decide) rfl (by decide) (q_7 hg hin hL2 hk1 hx2)
    · exact z_tableIn (off := 766) (tgt := 810) dL_law_44 (by decide) (by decide) rfl (by decide) (q_8 hg hin hL2 hk1 hx2)
    · exact z_tableIn (off := 822) (tgt := 866) dL_law_44 (by decide) (by decide) rfl (by decide) (q_9 hg hin hL2 hk1 hx2)
    · exact z_tableIn (off := 878) (tgt := 922) dL_law_44 (by decide) (by decide) rfl (by decide) (q_10 hg hin hL2 hk1 hx2)
    · exact z_tableIn (off := 934) (tgt := 978) dL_law_44 (by decide) (by decide) rfl (by decide) (q_11 hg hin hL2 hk1 hx2)
    · exact z_tableIn (off := 1028) (tgt := 1072) dL_law_44 (by decide) (by decide) rfl (by decide) (q_12 hg hin hL2 hk1 hx2)
    · exact z_tableIn (off := 1084) (tgt := 1128) dL_law_44 (by decide) (by decide) rfl (by decide) (q_13 hg hin hL2 hk1 hx2)
    · exact z_tableIn (off := 1147) (tgt := 1191) dL_law_44 (by decide) (by decide) rfl (by decide) (q_14 hg hin hL2 hk1 hx2)
    · exact z_tableIn (off := 1205) (tgt := 1249) dL_law_44 (by decide) (by decide) rfl (by decide) (q_15 hg hin hL2 hk1 hx2)
    · exact z_tableIn (off := 1275) (tgt := 1319) dL_law_44 (by decide) (by decide) rfl (by decide) (q_16 hg hin hL2 hk1 hx2)
    · exact z_tableIn (off := 1333) (tgt := 1377) dL_law_44 (by decide) (by decide) rfl (by decide) (q_17 hg hin hL2 hk1 hx2)
    · exact z_tableIn (off := 1391) (tgt := 1435) dL_law_44 (by decide) (by decide) rfl (by decide) (q_18 hg hin hL2 hk1 hx2)
    · exact z_tableIn (off := 1449) (tgt := 1493) dL_law_44 (by decide) (by decide) rfl (by decide) (q_19 hg hin hL2 hk1 hx2)
    · exact z_tableIn (off := 1519) (tgt := 1563) dL_law_44 (by decide) (by decide) rfl (by decide) (q_20 hg hin hL2 hk1 hx2)
    · exact z_tableIn (off := 1577) (tgt := 1621) dL_law_44 (by decide) (by decide) rfl (by decide) (q_21 hg hin hL2 hk1 hx2)
    · exact z_tableIn (off := 1635) (tgt := 1679) dL_law_44 (by decide) (by decide) rfl (by decide) (q_22 hg hin hL2 hk1 hx2)
    · exact z_tableIn (off := 1693) (tgt := 1737) dL_law_44 (by decide) (by decide) rfl (by decide) (q_23 hg hin hL2 hk1 hx2)
    · exact z_tableIn (off := 1751) (tgt := 1795) dL_law_44 (by decide) (by decide) rfl (by decide) (q_24 hg hin hL2 hk1 hx2)
    · exact z_tableIn (off := 1809) (tgt := 1853) dL_law_44 (by decide) (by decide) rfl (by decide) (q_25 hg hin hL2 hk1 hx2)
    · exact z_tableIn (off := 1879) (tgt := 1923) dL_law_44 (by decide) (by decide) rfl (by decide) (q_26 hg hin hL2 hk1 hx2)
    · exact z_tableIn (off := 1947) (tgt := 1991) dL_law_44 (by decide) (by decide) rfl (by decide) (q_27 hg hin hL2 hk1 hx2)
    · exact z_tableIn (off := 2003) (tgt := 2047) dL_law_44 (by decide) (by decide) rfl (by decide) (q_28 hg hin hL2 hk1 hx2)
    · exact z_tableIn (off := 2059) (tgt := 2103) dL_law_44 (by decide) (by decide) rfl (by decide) (q_29 hg hin hL2 hk1 hx2)
    · exact z_tableIn (off := 2127) (tgt := 2171) dL_law_44 (by decide) (by decide) rfl (by decide) (q_30 hg hin hL2 hk1 hx2)
    · exact z_tableIn (off := 2141) (tgt := 2185) dL_law_44 (by decide) (by decide) rfl (by decide) (q_31 hg hin hL2 hk1 hx2)
    · exact z_tableIn (off := 2184) (tgt := 2228) dL_law_44 (by decide) (by decide) rfl (by decide) (q_32 hg hin hL2 hk1 hx2)
    · exact z_tableIn (off := 2249) (tgt := 2293) dL_law_44 (by decide) (by decide) rfl (by decide) (q_33 hg hin hL2 hk1 hx2)
    · refine z_tableOut (tgt := 2306) dL_law_44 (Or.inr ?_) (by decide) (Z.widen (Nat.le_add_right kc 1) (Nat.le_add_right ks 6) (hx2 X Y O e6 e7 e8 e9 hg))
      rw [nI_toInt (by omega)]
      omega
end
