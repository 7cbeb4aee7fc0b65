section
variable {G : zG} {X X1 : zX} {Y : zY} {O : zO}
/- behind a call -/
set_option maxRecDepth 100000 in
set_option maxHeartbeats 4000000 in
def lK (G : zG) (P : zRes → zWorld → Prop) (i k n : Nat) : Prop := ∀ (X2 : zX) (Y2 : zY) (O2 : zO) (e6 e7 e8 e9 : Option Value), good X2 Y2 → Z G mL_law room_1 k n 2306 [some (.ref zSI), some (.ref 0), some (.ref 77), some (.ref 94), some (.ref 95), some (.int (nI i)), e6, e7, e8, e9] [] (zw X2 Y2 O2) P
set_option maxRecDepth 100000 in
set_option maxHeartbeats 4000000 in
theorem sinx {i j L : Nat} (h : i + 5 ≤ L) (hL : L ≤ 2560) (hj : j < 5) : vp_in (nI i + nI j) L := by
  rw [nI_add]
  exact zin (by omega) (by omega)
set_option maxRecDepth 100000 in
set_option maxHeartbeats 4000000 in
theorem lg_00 : lg_cmp (Int32.toInt64 0) 0 = 0 := by decide
set_option maxRecDepth 100000 in
set_option maxHeartbeats 4000000 in
theorem lg_11 : lg_cmp (Int32.toInt64 1) 1 = 0 := by decide
set_option maxRecDepth 100000 in
set_option maxHeartbeats 4000000 in
theorem q_0 {i kc ks : Nat} {e6 e7 e8 e9 : Option Value} {P : zRes → zWorld → Prop} (hg : good X Y) (hL : i + 5 ≤ G.L) (hL2 : G.L ≤ 2560) (hk : kc + 1 ≤ room_1.cells ∧ ks + 6 ≤ room_1.slots) (hx2 : lK G P i (kc + 1) (ks + 6)) : Z G mL_law room_1 kc ks 196 [some (.ref zSI), some (.ref 0), some (.ref 77), some (.ref 94), some (.ref 95), some (.int (nI i)), e6, e7, e8, e9] [] (zw X Y O) P := by
  refine z_aload_n (i := 1) dL_law_196 rfl rfl (q := 197) rfl ?_
  refine z_aload_n (i := 0) dL_law_197 rfl rfl (q := 198) rfl ?_
  refine z_iload dL_law_198 rfl (q := 200) rfl ?_
  refine z_iconst (v := 1) dL_law_200 rfl (q := 201) rfl ?_
  refine z_iadd dL_law_201 (q := 202) rfl ?_
  refine z_sld dL_law_202 (sinx (j := 1) hL hL2 (by decide)) (q := 203) rfl ?_
  refine z_aload_n (i := 0) dL_law_203 rfl rfl (q := 204) rfl ?_
  refine z_iload dL_law_204 rfl (q := 206) rfl ?_
  refine z_iconst (v := 2) dL_law_206 rfl (q := 207) rfl ?_
  refine z_iadd dL_law_207 (q := 208) rfl ?_
  refine z_sld dL_law_208 (sinx (j := 2) hL hL2 (by decide)) (q := 209) rfl ?_
  refine z_aload_n (i := 0) dL_law_209 rfl rfl (q := 210) rfl ?_
  refine z_iload dL_law_210 rfl (q := 212) rfl ?_
  refine z_iconst (v := 3) dL_law_212 rfl (q := 213) rfl ?_
  refine z_iadd dL_law_213 (q := 214) rfl ?_
  refine z_sld dL_law_214 (sinx (j := 3) hL hL2 (by decide)) (q := 215) rfl ?_
  refine z_aload_n (i := 0) dL_law_215 rfl rfl (q := 216) rfl ?_
  refine z_iload dL_law_216 rfl (q := 218) rfl ?_
  refine z_iconst (v := 4) dL_law_218 rfl (q := 219) rfl ?_
  refine z_iadd dL_law_219 (q := 220) rfl ?_
  refine z_sld dL_law_220 (sinx (j := 4) hL hL2 (by decide)) (q := 221) rfl ?_
  refine z_aload_n (i := 3) dL_law_221 rfl rfl (q := 222) rfl ?_
  obtain ⟨S, hx, ho, hy, hb⟩ := p_addShape hg ((G.xs (nI i + 1).toNatClampNeg)) ((G.xs (nI i + 2).toNatClampNeg)) ((G.xs (nI i + 3).toNatClampNeg)) ((G.xs (nI i + 4).toNatClampNeg))
  refine z_callSW (As := [_, _, _, _, _, _]) dL_law_222 kL_131 (c_L_addShape (hx O) ho) rfl (zle rfl) ⟨zle rfl, zle rfl⟩ hk (q := 225) rfl (fun rv w2 hw2 => ?_) (fun E w2 hw2 => by obtain ⟨_, _, _, _, h9, _⟩ := hw2; cases h9)
  obtain ⟨r0, X2, O2, hS, h9, rfl, hO⟩ := hw2
  cases h9
  refine z_istore dL_law_225 (zle rfl) rfl (q := 227) rfl ?_
  refine z_aload_n (i := 2) dL_law_227 rfl rfl (q := 228) rfl ?_
  refine z_aload_n (i := 0) dL_law_228 rfl rfl (q := 229) rfl ?_
  refine z_iload dL_law_229 rfl (q := 231) rfl ?_
  refine z_iconst (v := 1) dL_law_231 rfl (q := 232) rfl ?_
  refine z_iadd dL_law_232 (q := 233) rfl ?_
  refine z_sld dL_law_233 (sinx (j := 1) hL hL2 (by decide)) (q := 234) rfl ?_
  refine z_aload_n (i := 0) dL_law_234 rfl rfl (q := 235) rfl ?_
  refine z_iload dL_law_235 rfl (q := 237) rfl ?_
  refine z_iconst (v := 2) dL_law_237 rfl (q := 238) rfl ?_
  refine z_iadd dL_law_238 (q := 239) rfl ?_
  refine z_sld dL_law_239 (sinx (j := 2) hL hL2 (by decide)) (q := 240) rfl ?_
  refine z_aload_n (i := 0) dL_law_240 rfl rfl (q := 241) rfl ?_
  refine z_iload dL_law_241 rfl (q := 243) rfl ?_
  refine z_iconst (v := 3) dL_law_243 rfl (q := 244) rfl ?_
  refine z_iadd dL_law_244 (q := 245) rfl ?_
  refine z_sld dL_law_245 (sinx (j := 3) hL hL2 (by decide)) (q := 246) rfl ?_
  refine z_aload_n (i := 0) dL_law_246 rfl rfl (q := 247) rfl ?_
  refine z_iload dL_law_247 rfl (q := 249) rfl ?_
  refine z_iconst (v := 4) dL_law_249 rfl (q := 250) rfl ?_
  refine z_iadd dL_law_250 (q := 251) rfl ?_
  refine z_sld dL_law_251 (sinx (j := 4) hL hL2 (by decide)) (q := 252) rfl ?_
  refine z_callV (As := [_, _, _, _]) dL_law_252 kL_136 (hy r0 X2 O2 hS) (wm _ _ _) rfl rfl (zle rfl) ⟨zle rfl, zle rfl⟩ hk (q := 255) rfl (fun rv w2 hw2 => ?_) (fun E w2 hw2 => by obtain ⟨_, _, h9, _⟩ := hw2; cases h9)
  obtain ⟨Y2, a, h9, rfl, hth, ha, hg2⟩ := hw2
  cases h9
  refine z_istore dL_law_255 (zle rfl) rfl (q := 257) rfl ?_
  refine z_aload_n (i := 2) dL_law_257 rfl rfl (q := 258) rfl ?_
  refine z_callVF (As := []) dL_law_258 kL_137 (c_X9_thrown) (wm _ _ _) rfl rfl (zle rfl) ⟨zle rfl, zle rfl⟩ hk (q := 261) rfl ?_
  rw [hth]
  refine z_iload dL_law_261 rfl (q := 263) rfl ?_
  refine z_icmp_eq (tgt := 268) dL_law_263 (by decide) (q := 266) rfl (fun h263 => ?_) (fun h263 => absurd rfl h263)
  refine z_iload dL_law_268 rfl (q := 270) rfl ?_
  refine z_if_ne (tgt := 285) dL_law_270 (by decide) (q := 273) rfl (fun h270 => ?_) (fun h270 => ?_)
  · refine z_goto (tgt := 2306) dL_law_285 (by decide) ?_
    exact hx2 _ _ _ _ _ _ _ hg2
  · obtain ⟨v, rfl⟩ := lcode_0 (by decide) (ho _ _ hS) h270
    have hav := ha v rfl
    subst hav
    have hOv := hO a rfl
    refine z_aload_n (i := 3) dL_law_273 rfl rfl (q := 274) rfl ?_
    refine z_iconst (v := 0) dL_law_274 rfl (q := 275) rfl ?_
    refine z_lald dL_law_275 (wout _ _ _) (zin (k := 0) (by decide) (by decide)) (q := 276) rfl ?_
    refine Z.eqst (st2 := [.long a.toInt64]) (congrArg (fun x => [Value.long x]) hOv) ?_
    refine z_iload dL_law_276 rfl (q := 278) rfl ?_
    refine z_i2l dL_law_278 (q := 279) rfl ?_
    refine z_lcmp dL_law_279 (q := 280) rfl ?_
    rw [lg_self]
    refine z_if_eq (tgt := 285) dL_law_280 (by decide) (q := 283) rfl (fun h280 => ?_) (fun h280 => absurd rfl h280)
    refine z_goto (tgt := 2306) dL_law_285 (by decide) ?_
    exact hx2 _ _ _ _ _ _ _ hg2
set_option maxRecDepth 100000 in
set_option maxHeartbeats 4000000 in
theorem q_1 {i kc ks : Nat} {e6 e7 e8 e9 : Option Value} {P : zRes → zWorld → Prop} (hg : good X Y) (hL : i + 5 ≤ G.L) (hL2 : G.L ≤ 2560) (hk : kc + 1 ≤ room_1.cells ∧ ks + 6 ≤ room_1.slots) (hx2 : lK G P i (kc + 1) (ks + 6)) : Z G mL_law room_1 kc ks 288 [some (.ref zSI), some (.ref 0), some (.ref 77), some (.ref 94), some (.ref 95), some (.int (nI i)), e6, e7, e8, e9] [] (zw X Y O) P := by
  refine z_aload_n (i := 1) dL_law_288 rfl rfl (q := 289) rfl ?_
  refine z_aload_n (i := 0) dL_law_289 rfl rfl (q := 290) rfl ?_
  refine z_iload dL_law_290 rfl (q := 292) rfl ?_
  refine z_iconst (v := 1) dL_law_292 rfl (q := 293) rfl ?_
  refine z_iadd dL_law_293 (q := 294) rfl ?_
  refine z_sld dL_law_294 (sinx (j := 1) hL hL2 (by decide)) (q := 295) rfl ?_
  refine z_aload_n (i := 0) dL_law_295 rfl rfl (q := 296) rfl ?_
  refine z_iload dL_law_296 rfl (q := 298) rfl ?_
  refine z_iconst (v := 2) dL_law_298 rfl (q := 299) rfl ?_
  refine z_iadd dL_law_299 (q := 300) rfl ?_
  refine z_sld dL_law_300 (sinx (j := 2) hL hL2 (by decide)) (q := 301) rfl ?_
  refine z_if_eq (tgt := 308) dL_law_301 (by decide) (q := 304) rfl (fun h301 => ?_) (fun h301 => ?_)
  · refine z_iconst (v := 0) dL_law_308 rfl (q := 309) rfl ?_
    refine z_aload_n (i := 3) dL_law_309 rfl rfl (q := 310) rfl ?_
    obtain ⟨S, hx, ho, hy, hb⟩ := p_setLocked hg ((G.xs (nI i + 1).toNatClampNeg)) (False)
    refine z_callSW (As := [_, _, _, _]) dL_law_310 kL_141 (c_L_setLocked (hx O) ho (hb rfl)) rfl (zle rfl) ⟨zle rfl, zle rfl⟩ hk (q := 313) rfl (fun rv w2 hw2 => ?_) (fun E w2 hw2 => by obtain ⟨_, _, _, _, h9, _⟩ := hw2; cases h9)
    obtain ⟨r0, X2, O2, hS, h9, rfl, hO⟩ := hw2
    cases h9
    refine z_istore dL_law_313 (zle rfl) rfl (q := 315) rfl ?_
    refine z_aload_n (i := 2) dL_law_315 rfl rfl (q := 316) rfl ?_
    refine z_aload_n (i := 0) dL_law_316 rfl rfl (q := 317) rfl ?_
    refine z_iload dL_law_317 rfl (q := 319) rfl ?_
    refine z_iconst (v := 1) dL_law_319 rfl (q := 320) rfl ?_
    refine z_iadd dL_law_320 (q := 321) rfl ?_
    refine z_sld dL_law_321 (sinx (j := 1) hL hL2 (by decide)) (q := 322) rfl ?_
    refine z_aload_n (i := 0) dL_law_322 rfl rfl (q := 323) rfl ?_
    refine z_iload dL_law_323 rfl (q := 325) rfl ?_
    refine z_iconst (v := 2) dL_law_325 rfl (q := 326) rfl ?_
    refine z_iadd dL_law_326 (q := 327) rfl ?_
    refine z_sld dL_law_327 (sinx (j := 2) hL hL2 (by decide)) (q := 328) rfl ?_
    refine z_if_eq (tgt := 335) dL_law_328 (by decide) (q := 331) rfl (fun h328 => ?_) (fun h328 => absurd h301 h328)
    refine z_iconst (v := 0) dL_law_335 rfl (q := 336) rfl ?_
    refine z_callV (As := [_, _]) dL_law_336 kL_144 (hy r0 X2 O2 hS) (wm _ _ _) rfl rfl (zle rfl) ⟨zle rfl, zle rfl⟩ hk (q := 339) rfl (fun rv w2 hw2 => ?_) (fun E w2 hw2 => by obtain ⟨_, _, h9, _⟩ := hw2; cases h9)
    obtain ⟨Y2, a, h9, rfl, hth, ha, hg2⟩ := hw2
    cases h9
    refine z_istore dL_law_339 (zle rfl) rfl (q := 341) rfl ?_
    refine z_aload_n (i := 2) dL_law_341 rfl rfl (q := 342) rfl ?_
    refine z_callVF (As := []) dL_law_342 kL_137 (c_X9_thrown) (wm _ _ _) rfl rfl (zle rfl) ⟨zle rfl, zle rfl⟩ hk (q := 345) rfl ?_
    rw [hth]
    refine z_iload dL_law_345 rfl (q := 347) rfl ?_
    refine z_icmp_eq (tgt := 352) dL_law_347 (by decide) (q := 350) rfl (fun h347 => ?_) (fun h347 => absurd rfl h347)
    refine z_iload dL_law_352 rfl (q := 354) rfl ?_
    refine z_if_ne (tgt := 376) dL_law_354 (by decide) (q := 357) rfl (fun h354 => ?_) (fun h354 => ?_)
    · refine z_goto (tgt := 2306) dL_law_376 (by decide) ?_
      exact hx2 _ _ _ _ _ _ _ hg2
    · obtain ⟨v, rfl⟩ := lcode_0 (by decide) (ho _ _ hS) h354
      have hav := ha v rfl
      subst hav
      have hOv := hO a rfl
      refine z_aload_n (i := 3) dL_law_357 rfl rfl (q := 358) rfl ?_
      refine z_iconst (v := 0) dL_law_358 rfl (q := 359) rfl ?_
      refine z_lald dL_law_359 (wout _ _ _) (zin (k := 0) (by decide) (by decide)) (q := 360) rfl ?_
      refine Z.eqst (st2 := [.long a.toInt64]) (congrArg (fun x => [Value.long x]) hOv) ?_
      refine z_iload dL_law_360 rfl (q := 362) rfl ?_
      refine z_if_eq (tgt := 369) dL_law_362 (by decide) (q := 365) rfl (fun h362 => ?_) (fun h362 => ?_)
      · refine z_lconst (v := 0) dL_law_369 rfl (q := 370) rfl ?_
        refine z_lcmp dL_law_370 (q := 371) rfl ?_
        have ha0 : a = 0 := h362
        subst ha0
        rw [lg_00]
        refine z_if_eq (tgt := 376) dL_law_371 (by decide) (q := 374) rfl (fun h371 => ?_) (fun h371 => absurd rfl h371)
        refine z_goto (tgt := 2306) dL_law_376 (by decide) ?_
        exact hx2 _ _ _ _ _ _ _ hg2
      · refine z_lconst (v := 1) dL_law_365 rfl (q := 366) rfl ?_
        refine z_goto (tgt := 370) dL_law_366 (by decide) ?_
        refine z_lcmp dL_law_370 (q := 371) rfl ?_
        have ha1 : a = 1 := (hb rfl _ _ hS).resolve_left h362
        subst ha1
        rw [lg_11]
        refine z_if_eq (tgt := 376) dL_law_371 (by decide) (q := 374) rfl (fun h371 => ?_) (fun h371 => absurd rfl h371)
        refine z_goto (tgt := 2306) dL_law_376 (by decide) ?_
        exact hx2 _ _ _ _ _ _ _ hg2
  · refine z_iconst (v := 1) dL_law_304 rfl (q := 305) rfl ?_
    refine z_goto (tgt := 309) dL_law_305 (by decide) ?_
    refine z_aload_n (i := 3) dL_law_309 rfl rfl (q := 310) rfl ?_
    obtain ⟨S, hx, ho, hy, hb⟩ := p_setLocked hg ((G.xs (nI i + 1).toNatClampNeg)) (True)
    refine z_callSW (As := [_, _, _, _]) dL_law_310 kL_141 (c_L_setLocked (hx O) ho (hb rfl)) rfl (zle rfl) ⟨zle rfl, zle rfl⟩ hk (q := 313) rfl (fun rv w2 hw2 => ?_) (fun E w2 hw2 => by obtain ⟨_, _, _, _, h9, _⟩ := hw2; cases h9)
    obtain ⟨r0, X2, O2, hS, h9, rfl, hO⟩ := hw2
    cases h9
    refine z_istore dL_law_313 (zle rfl) rfl (q := 315) rfl ?_
    refine z_aload_n (i := 2) dL_law_315 rfl rfl (q := 316) rfl ?_
    refine z_aload_n (i := 0) dL_law_316 rfl rfl (q := 317) rfl ?_
    refine z_iload dL_law_317 rfl (q := 319) rfl ?_
    refine z_iconst (v := 1) dL_law_319 rfl (q := 320) rfl ?_
    refine z_iadd dL_law_320 (q := 321) rfl ?_
    refine z_sld dL_law_321 (sinx (j := 1) hL hL2 (by decide)) (q := 322) rfl ?_
    refine z_aload_n (i := 0) dL_law_322 rfl rfl (q := 323) rfl ?_
    refine z_iload dL_law_323 rfl (q := 325) rfl ?_
    refine z_iconst (v := 2) dL_law_325 rfl (q := 326) rfl ?_
    refine z_iadd dL_law_326 (q := 327) rfl ?_
    refine z_sld dL_law_327 (sinx (j := 2) hL hL2 (by decide)) (q := 328) rfl ?_
    refine z_if_eq (tgt := 335) dL_law_328 (by decide) (q := 331) rfl (fun h328 => absurd h328 h301) (fun h328 => ?_)
    refine z_iconst (v := 1) dL_law_331 rfl (q := 332) rfl ?_
    refine z_goto (tgt := 336) dL_law_332 (by decide) ?_
    refine z_callV (As := [_, _]) dL_law_336 kL_144 (hy r0 X2 O2 hS) (wm _ _ _) rfl rfl (zle rfl) ⟨zle rfl, zle rfl⟩ hk (q := 339) rfl (fun rv w2 hw2 => ?_) (fun E w2 hw2 => by obtain ⟨_, _, h9, _⟩ := hw2; cases h9)
    obtain ⟨Y2, a, h9, rfl, hth, ha, hg2⟩ := hw2
    cases h9
    refine z_istore dL_law_339 (zle rfl) rfl (q := 341) rfl ?_
    refine z_aload_n (i := 2) dL_law_341 rfl rfl (q := 342) rfl ?_
    refine z_callVF (As := []) dL_law_342 kL_137 (c_X9_thrown) (wm _ _ _) rfl rfl (zle rfl) ⟨zle rfl, zle rfl⟩ hk (q := 345) rfl ?_
    rw [hth]
    refine z_iload dL_law_345 rfl (q := 347) rfl ?_
    refine z_icmp_eq (tgt := 352) dL_law_347 (by decide) (q := 350) rfl (fun h347 => ?_) (fun h347 => absurd rfl h347)
    refine z_iload dL_law_352 rfl (q := 354) rfl ?_
    refine z_if_ne (tgt := 376) dL_law_354 (by decide) (q := 357) rfl (fun h354 => ?_) (fun h354 => ?_)
    · refine z_goto (tgt := 2306) dL_law_376 (by decide) ?_
      exact hx2 _ _ _ _ _ _ _ hg2
    · obtain ⟨v, rfl⟩ := lcode_0 (by decide) (ho _ _ hS) h354
      have hav := ha v rfl
      subst hav
      have hOv := hO a rfl
      refine z_aload_n (i := 3) dL_law_357 rfl rfl (q := 358) rfl ?_
      refine z_iconst (v := 0) dL_law_358 rfl (q := 359) rfl ?_
      refine z_lald dL_law_359 (wout _ _ _) (zin (k := 0) (by decide) (by decide)) (q := 360) rfl ?_
      refine Z.eqst (st2 := [.long a.toInt64]) (congrArg (fun x => [Value.long x]) hOv) ?_
      refine z_iload dL_law_360 rfl (q := 362) rfl ?_
      refine z_if_eq (tgt := 369) dL_law_362 (by decide) (q := 365) rfl (fun h362 => ?_) (fun h362 => ?_)
      · refine z_lconst (v := 0) dL_law_369 rfl (q := 370) rfl ?_
        refine z_lcmp dL_law_370 (q := 371) rfl ?_
        have ha0 : a = 0 := h362
        subst ha0
        rw [lg_00]
        refine z_if_eq (tgt := 376) dL_law_371 (by decide) (q := 374) rfl (fun h371 => ?_) (fun h371 => absurd rfl h371)
        refine z_goto (tgt := 2306) dL_law_376 (by decide) ?_
        exact hx2 _ _ _ _ _ _ _ hg2
      · refine z_lconst (v := 1) dL_law_365 rfl (q := 366) rfl ?_
        refine z_goto (tgt := 370) dL_law_366 (by decide) ?_
        refine z_lcmp dL_law_370 (q := 371) rfl ?_
        have ha1 : a = 1 := (hb rfl _ _ hS).resolve_left h362
        subst ha1
        rw [lg_11]
        refine z_if_eq (tgt := 376) dL_law_371 (by decide) (q := 374) rfl (fun h371 => ?_) (fun h371 => absurd rfl h371)
        refine z_goto (tgt := 2306) dL_law_376 (by decide) ?_
        exact hx2 _ _ _ _ _ _ _ hg2
set_option maxRecDepth 100000 in
set_option maxHeartbeats 4000000 in
theorem q_2 {i kc ks : Nat} {e6 e7 e8 e9 : Option Value} {P : zRes → zWorld → Prop} (hg : good X Y) (hL : i + 5 ≤ G.L) (hL2 : G.L ≤ 2560) (hk : kc + 1 ≤ room_1.cells ∧ ks + 6 ≤ room_1.slots) (hx2 : lK G P i (kc + 1) (ks + 6)) : Z G mL_law room_1 kc ks 379 [some (.ref zSI), some (.ref 0), some (.ref 77), some (.ref 94), some (.ref 95), some (.int (nI i)), e6, e7, e8, e9] [] (zw X Y O) P := by
  refine z_aload_n (i := 1) dL_law_379 rfl rfl (q := 380) rfl ?_
  refine z_aload_n (i := 0) dL_law_380 rfl rfl (q := 381) rfl ?_
  refine z_iload dL_law_381 rfl (q := 383) rfl ?_
  refine z_iconst (v := 1) dL_law_383 rfl (q := 384) rfl ?_
  refine z_iadd dL_law_384 (q := 385) rfl ?_
  refine z_sld dL_law_385 (sinx (j := 1) hL hL2 (by decide)) (q := 386) rfl ?_
  refine z_aload_n (i := 0) dL_law_386 rfl rfl (q := 387) rfl ?_
  refine z_iload dL_law_387 rfl (q := 389) rfl ?_
  refine z_iconst (v := 2) dL_law_389 rfl (q := 390) rfl ?_
  refine z_iadd dL_law_390 (q := 391) rfl ?_
  refine z_sld dL_law_391 (sinx (j := 2) hL hL2 (by decide)) (q := 392) rfl ?_
  refine z_i2c dL_law_392 (q := 393) rfl ?_
  refine z_aload_n (i := 3) dL_law_393 rfl rfl (q := 394) rfl ?_
  obtain ⟨S, hx, ho, hy, hb⟩ := p_startOf hg ((G.xs (nI i + 1).toNatClampNeg)) (((G.xs (nI i + 2).toNatClampNeg).toUInt32 % 65536).toInt32)
  refine z_callSW (As := [_, _, _, _]) dL_law_394 kL_145 (c_L_startOf (hx O) ho) rfl (zle rfl) ⟨zle rfl, zle rfl⟩ hk (q := 397) rfl (fun rv w2 hw2 => ?_) (fun E w2 hw2 => by obtain ⟨_, _, _, _, h9, _⟩ := hw2; cases h9)
  obtain ⟨r0, X2, O2, hS, h9, rfl, hO⟩ := hw2
  cases h9
  refine z_istore dL_law_397 (zle rfl) rfl (q := 399) rfl ?_
  refine z_aload_n (i := 2) dL_law_399 rfl rfl (q := 400) rfl ?_
  refine z_aload_n (i := 0) dL_law_400 rfl rfl (q := 401) rfl ?_
  refine z_iload dL_law_401 rfl (q := 403) rfl ?_
  refine z_iconst (v := 1) dL_law_403 rfl (q := 404) rfl ?_
  refine z_iadd dL_law_404 (q := 405) rfl ?_
  refine z_sld dL_law_405 (sinx (j := 1) hL hL2 (by decide)) (q := 406) rfl ?_
  refine z_aload_n (i := 0) dL_law_406 rfl rfl (q := 407) rfl ?_
  refine z_iload dL_law_407 rfl (q := 409) rfl ?_
  refine z_iconst (v := 2) dL_law_409 rfl (q := 410) rfl ?_
  refine z_iadd dL_law_410 (q := 411) rfl ?_
  refine z_sld dL_law_411 (sinx (j := 2) hL hL2 (by decide)) (q := 412) rfl ?_
  refine z_i2c dL_law_412 (q := 413) rfl ?_
  refine z_callV (As := [_, _]) dL_law_413 kL_148 (hy r0 X2 O2 hS) (wm _ _ _) rfl rfl (zle rfl) ⟨zle rfl, zle rfl⟩ hk (q := 416) rfl (fun rv w2 hw2 => ?_) (fun E w2 hw2 => by obtain ⟨_, _, h9, _⟩ := hw2; cases h9)
  obtain ⟨Y2, a, h9, rfl, hth, ha, hg2⟩ := hw2
  cases h9
  refine z_istore dL_law_416 (zle rfl) rfl (q := 418) rfl ?_
  refine z_aload_n (i := 2) dL_law_418 rfl rfl (q := 419) rfl ?_
  refine z_callVF (As := []) dL_law_419 kL_137 (c_X9_thrown) (wm _ _ _) rfl rfl (zle rfl) ⟨zle rfl, zle rfl⟩ hk (q := 422) rfl ?_
  rw [hth]
  refine z_iload dL_law_422 rfl (q := 424) rfl ?_
  refine z_icmp_eq (tgt := 429) dL_law_424 (by decide) (q := 427) rfl (fun h424 => ?_) (fun h424 => absurd rfl h424)
  refine z_iload dL_law_429 rfl (q := 431) rfl ?_
  refine z_if_ne (tgt := 446) dL_law_431 (by decide) (q := 434) rfl (fun h431 => ?_) (fun h431 => ?_)
  · refine z_goto (tgt := 2306) dL_law_446 (by decide) ?_
    exact hx2 _ _ _ _ _ _ _ hg2
  · obtain ⟨v, rfl⟩ := lcode_0 (by decide) (ho _ _ hS) h431
    have hav := ha v rfl
    subst hav
    have hOv := hO a rfl
    refine z_aload_n (i := 3) dL_law_434 rfl rfl (q := 435) rfl ?_
    refine z_iconst (v := 0) dL_law_435 rfl (q := 436) rfl ?_
    refine z_lald dL_law_436 (wout _ _ _) (zin (k := 0) (by decide) (by decide)) (q := 437) rfl ?_
    refine Z.eqst (st2 := [.long a.toInt64]) (congrArg (fun x => [Value.long x]) hOv) ?_
    refine z_iload dL_law_437 rfl (q := 439) rfl ?_
    refine z_i2l dL_law_439 (q := 440) rfl ?_
    refine z_lcmp dL_law_440 (q := 441) rfl ?_
    rw [lg_self]
    refine z_if_eq (tgt := 446) dL_law_441 (by decide) (q := 444) rfl (fun h441 => ?_) (fun h441 => absurd rfl h441)
    refine z_goto (tgt := 2306) dL_law_446 (by decide) ?_
    exact hx2 _ _ _ _ _ _ _ hg2
set_option maxRecDepth 100000 in
set_option maxHeartbeats 4000000 in
theorem q_3 {i kc ks : Nat} {e6 e7 e8 e9 : Option Value} {P : zRes → zWorld → Prop} (hg : good X Y) (hL : i + 5 ≤ G.L) (hL2 : G.L ≤ 2560) (hk : kc + 1 ≤ room_1.cells ∧ ks + 6 ≤ room_1.slots) (hx2 : lK G P i (kc + 1) (ks + 6)) : Z G mL_law room_1 kc ks 449 [some (.ref zSI), some (.ref 0), some (.ref 77), some (.ref 94), some (.ref 95), some (.int (nI i)), e6, e7, e8, e9] [] (zw X Y O) P := by
  refine z_aload_n (i := 1) dL_law_449 rfl rfl (q := 450) rfl ?_
  refine z_aload_n (i := 0) dL_law_450 rfl rfl (q := 451) rfl ?_
  refine z_iload dL_law_451 rfl (q := 453) rfl ?_
  refine z_iconst (v := 1) dL_law_453 rfl (q := 454) rfl ?_
  refine z_iadd dL_law_454 (q := 455) rfl ?_
  refine z_sld dL_law_455 (sinx (j := 1) hL hL2 (by decide)) (q := 456) rfl ?_
  refine z_aload_n (i := 0) dL_law_456 rfl rfl (q := 457) rfl ?_
  refine z_iload dL_law_457 rfl (q := 459) rfl ?_
  refine z_iconst (v := 2) dL_law_459 rfl (q := 460) rfl ?_
  refine z_iadd dL_law_460 (q := 461) rfl ?_
  refine z_sld dL_law_461 (sinx (j := 2) hL hL2 (by decide)) (q := 462) rfl ?_
  refine z_i2c dL_law_462 (q := 463) rfl ?_
  refine z_aload_n (i := 3) dL_law_463 rfl rfl (q := 464) rfl ?_
  obtain ⟨S, hx, ho, hy, hb⟩ := p_sizeOf hg ((G.xs (nI i + 1).toNatClampNeg)) (((G.xs (nI i + 2).toNatClampNeg).toUInt32 % 65536).toInt32)
  refine z_callSW (As := [_, _, _, _]) dL_law_464 kL_149 (c_L_sizeOf (hx O) ho) rfl (zle rfl) ⟨zle rfl, zle rfl⟩ hk (q := 467) rfl (fun rv w2 hw2 => ?_) (fun E w2 hw2 => by obtain ⟨_, _, _, _, h9, _⟩ := hw2; cases h9)
  obtain ⟨r0, X2, O2, hS, h9, rfl, hO⟩ := hw2
  cases h9
  refine z_istore dL_law_467 (zle rfl) rfl (q := 469) rfl ?_
  refine z_aload_n (i := 2) dL_law_469 rfl rfl (q := 470) rfl ?_
  refine z_aload_n (i := 0) dL_law_470 rfl rfl (q := 471) rfl ?_
  refine z_iload dL_law_471 rfl (q := 473) rfl ?_
  refine z_iconst (v := 1) dL_law_473 rfl (q := 474) rfl ?_
  refine z_iadd dL_law_474 (q := 475) rfl ?_
  refine z_sld dL_law_475 (sinx (j := 1) hL hL2 (by decide)) (q := 476) rfl ?_
  refine z_aload_n (i := 0) dL_law_476 rfl rfl (q := 477) rfl ?_
  refine z_iload dL_law_477 rfl (q := 479) rfl ?_
  refine z_iconst (v := 2) dL_law_479 rfl (q := 480) rfl ?_
  refine z_iadd dL_law_480 (q := 481) rfl ?_
  refine z_sld dL_law_481 (sinx (j := 2) hL hL2 (by decide)) (q := 482) rfl ?_
  refine z_i2c dL_law_482 (q := 483) rfl ?_
  refine z_callV (As := [_, _]) dL_law_483 kL_151 (hy r0 X2 O2 hS) (wm _ _ _) rfl rfl (zle rfl) ⟨zle rfl, zle rfl⟩ hk (q := 486) rfl (fun rv w2 hw2 => ?_) (fun E w2 hw2 => by obtain ⟨_, _, h9, _⟩ := hw2; cases h9)
  obtain ⟨Y2, a, h9, rfl, hth, ha, hg2⟩ := hw2
  cases h9
  refine z_istore dL_law_486 (zle rfl) rfl (q := 488) rfl ?_
  refine z_aload_n (i := 2) dL_law_488 rfl rfl (q := 489) rfl ?_
  refine z_callVF (As := []) dL_law_489 kL_137 (c_X9_thrown) (wm _ _ _) rfl rfl (zle rfl) ⟨zle rfl, zle rfl⟩ hk (q := 492) rfl ?_
  rw [hth]
  refine z_iload dL_law_492 rfl (q := 494) rfl ?_
  refine z_icmp_eq (tgt := 499) dL_law_494 (by decide) (q := 497) rfl (fun h494 => ?_) (fun h494 => absurd rfl h494)
  refine z_iload dL_law_499 rfl (q := 501) rfl ?_
  refine z_if_ne (tgt := 516) dL_law_501 (by decide) (q := 504) rfl (fun h501 => ?_) (fun h501 => ?_)
  · refine z_goto (tgt := 2306) dL_law_516 (by decide) ?_
    exact hx2 _ _ _ _ _ _ _ hg2
  · obtain ⟨v, rfl⟩ := lcode_0 (by decide) (ho _ _ hS) h501
    have hav := ha v rfl
    subst hav
    have hOv := hO a rfl
    refine z_aload_n (i := 3) dL_law_504 rfl rfl (q := 505) rfl ?_
    refine z_iconst (v := 0) dL_law_505 rfl (q := 506) rfl ?_
    refine z_lald dL_law_506 (wout _ _ _) (zin (k := 0) (by decide) (by decide)) (q := 507) rfl ?_
    refine Z.eqst (st2 := [.long a.toInt64]) (congrArg (fun x => [Value.long x]) hOv) ?_
    refine z_iload dL_law_507 rfl (q := 509) rfl ?_
    refine z_i2l dL_law_509 (q := 510) rfl ?_
    refine z_lcmp dL_law_510 (q := 511) rfl ?_
    rw [lg_self]
    refine z_if_eq (tgt := 516) dL_law_511 (by decide) (q := 514) rfl (fun h511 => ?_) (fun h511 => absurd rfl h511)
    refine z_goto (tgt := 2306) dL_law_516 (by decide) ?_
    exact hx2 _ _ _ _ _ _ _ hg2
set_option maxRecDepth 100000 in
set_option maxHeartbeats 4000000 in
theorem q_4 {i kc ks : Nat} {e6 e7 e8 e9 : Option Value} {P : zRes → zWorld → Prop} (hg : good X Y) (hL : i + 5 ≤ G.L) (hL2 : G.L ≤ 2560) (hk : kc + 1 ≤ room_1.cells ∧ ks + 6 ≤ room_1.slots) (hx2 : lK G P i (kc + 1) (ks + 6)) : Z G mL_law room_1 kc ks 519 [some (.ref zSI), some (.ref 0), some (.ref 77), some (.ref 94), some (.ref 95), some (.int (nI i)), e6, e7, e8, e9] [] (zw X Y O) P := by
  refine z_aload_n (i := 1) dL_law_519 rfl rfl (q := 520) rfl ?_
  refine z_aload_n (i := 0) dL_law_520 rfl rfl (q := 521) rfl ?_
  refine z_iload dL_law_521 rfl (q := 523) rfl ?_
  refine z_iconst (v := 1) dL_law_523 rfl (q := 524) rfl ?_
  refine z_iadd dL_law_524 (q := 525) rfl ?_
  refine z_sld dL_law_525 (sinx (j := 1) hL hL2 (by decide)) (q := 526) rfl ?_
  refine z_aload_n (i := 0) dL_law_526 rfl rfl (q := 527) rfl ?_
  refine z_iload dL_law_527 rfl (q := 529) rfl ?_
  refine z_iconst (v := 2) dL_law_529 rfl (q := 530) rfl ?_
  refine z_iadd dL_law_530 (q := 531) rfl ?_
  refine z_sld dL_law_531 (sinx (j := 2) hL hL2 (by decide)) (q := 532) rfl ?_
  refine z_aload_n (i := 0) dL_law_532 rfl rfl (q := 533) rfl ?_
  refine z_iload dL_law_533 rfl (q := 535) rfl ?_
  refine z_iconst (v := 3) dL_law_535 rfl (q := 536) rfl ?_
  refine z_iadd dL_law_536 (q := 537) rfl ?_
  refine z_sld dL_law_537 (sinx (j := 3) hL hL2 (by decide)) (q := 538) rfl ?_
  refine z_aload_n (i := 3) dL_law_538 rfl rfl (q := 539) rfl ?_
  obtain ⟨S, hx, ho, hy, hb⟩ := p_moveTo hg ((G.xs (nI i + 1).toNatClampNeg)) ((G.xs (nI i + 2).toNatClampNeg)) ((G.xs (nI i + 3).toNatClampNeg))
  refine z_callSW (As := [_, _, _, _, _]) dL_law_539 kL_152 (c_L_moveTo (hx O) ho) rfl (zle rfl) ⟨zle rfl, zle rfl⟩ hk (q := 542) rfl (fun rv w2 hw2 => ?_) (fun E w2 hw2 => by obtain ⟨_, _, _, _, h9, _⟩ := hw2; cases h9)
  obtain ⟨r0, X2, O2, hS, h9, rfl, hO⟩ := hw2
  cases h9
  refine z_istore dL_law_542 (zle rfl) rfl (q := 544) rfl ?_
  refine z_aload_n (i := 2) dL_law_544 rfl rfl (q := 545) rfl ?_
  refine z_aload_n (i := 0) dL_law_545 rfl rfl (q := 546) rfl ?_
  refine z_iload dL_law_546 rfl (q := 548) rfl ?_
  refine z_iconst (v := 1) dL_law_548 rfl (q := 549) rfl ?_
  refine z_iadd dL_law_549 (q := 550) rfl ?_
  refine z_sld dL_law_550 (sinx (j := 1) hL hL2 (by decide)) (q := 551) rfl ?_
  refine z_aload_n (i := 0) dL_law_551 rfl rfl (q := 552) rfl ?_
  refine z_iload dL_law_552 rfl (q := 554) rfl ?_
  refine z_iconst (v := 2) dL_law_554 rfl (q := 555) rfl ?_
  refine z_iadd dL_law_555 (q := 556) rfl ?_
  refine z_sld dL_law_556 (sinx (j := 2) hL hL2 (by decide)) (q := 557) rfl ?_
  refine z_aload_n (i := 0) dL_law_557 rfl rfl (q := 558) rfl ?_
  refine z_iload dL_law_558 rfl (q := 560) rfl ?_
  refine z_iconst (v := 3) dL_law_560 rfl (q := 561) rfl ?_
  refine z_iadd dL_law_561 (q := 562) rfl ?_
  refine z_sld dL_law_562 (sinx (j := 3) hL hL2 (by decide)) (q := 563) rfl ?_
  refine z_callV (As := [_, _, _]) dL_law_563 kL_155 (hy r0 X2 O2 hS) (wm _ _ _) rfl rfl (zle rfl) ⟨zle rfl, zle rfl⟩ hk (q := 566) rfl (fun rv w2 hw2 => ?_) (fun E w2 hw2 => by obtain ⟨_, _, h9, _⟩ := hw2; cases h9)
  obtain ⟨Y2, a, h9, rfl, hth, ha, hg2⟩ := hw2
  cases h9
  refine z_istore dL_law_566 (zle rfl) rfl (q := 568) rfl ?_
  refine z_aload_n (i := 2) dL_law_568 rfl rfl (q := 569) rfl ?_
  refine z_callVF (As := []) dL_law_569 kL_137 (c_X9_thrown) (wm _ _ _) rfl rfl (zle rfl) ⟨zle rfl, zle rfl⟩ hk (q := 572) rfl ?_
  rw [hth]
  refine z_iload dL_law_572 rfl (q := 574) rfl ?_
  refine z_icmp_eq (tgt := 579) dL_law_574 (by decide) (q := 577) rfl (fun h574 => ?_) (fun h574 => absurd rfl h574)
  refine z_iload dL_law_579 rfl (q := 581) rfl ?_
  refine z_if_ne (tgt := 596) dL_law_581 (by decide) (q := 584) rfl (fun h581 => ?_) (fun h581 => ?_)
  · refine z_goto (tgt := 2306) dL_law_596 (by decide) ?_
    exact hx2 _ _ _ _ _ _ _ hg2
  · obtain ⟨v, rfl⟩ := lcode_0 (by decide) (ho _ _ hS) h581
    have hav := ha v rfl
    subst hav
    have hOv := hO a rfl
    refine z_aload_n (i := 3) dL_law_584 rfl rfl (q := 585) rfl ?_
    refine z_iconst (v := 0) dL_law_585 rfl (q := 586) rfl ?_
    refine z_lald dL_law_586 (wout _ _ _) (zin (k := 0) (by decide) (by decide)) (q := 587) rfl ?_
    refine Z.eqst (st2 := [.long a.toInt64]) (congrArg (fun x => [Value.long x]) hOv) ?_
    refine z_iload dL_law_587 rfl (q := 589) rfl ?_
    refine z_i2l dL_law_589 (q := 590) rfl ?_
    refine z_lcmp dL_law_590 (q := 591) rfl ?_
    rw [lg_self]
    refine z_if_eq (tgt := 596) dL_law_591 (by decide) (q := 594) rfl (fun h591 => ?_) (fun h591 => absurd rfl h591)
    refine z_goto (tgt := 2306) dL_law_596 (by decide) ?_
    exact hx2 _ _ _ _ _ _ _ hg2
set_option maxRecDepth 100000 in
set_option maxHeartbeats 4000000 in
theorem q_5 {i kc ks : Nat} {e6 e7 e8 e9 : Option Value} {P : zRes → zWorld → Prop} (hg : good X Y) (hL : i + 5 ≤ G.L) (hL2 : G.L ≤ 2560) (hk : kc + 1 ≤ room_1.cells ∧ ks + 6 ≤ room_1.slots) (hx2 : lK G P i (kc + 1) (ks + 6)) : Z G mL_law room_1 kc ks 599 [some (.ref zSI), some (.ref 0), some (.ref 77), some (.ref 94), some (.ref 95), some (.int (nI i)), e6, e7, e8, e9] [] (zw X Y O) P := by
  refine z_aload_n (i := 1) dL_law_599 rfl rfl (q := 600) rfl ?_
  refine z_aload_n (i := 0) dL_law_600 rfl rfl (q := 601) rfl ?_
  refine z_iload dL_law_601 rfl (q := 603) rfl ?_
  refine z_iconst (v := 1) dL_law_603 rfl (q := 604) rfl ?_
  refine z_iadd dL_law_604 (q := 605) rfl ?_
  refine z_sld dL_law_605 (sinx (j := 1) hL hL2 (by decide)) (q := 606) rfl ?_
  refine z_aload_n (i := 0) dL_law_606 rfl rfl (q := 607) rfl ?_
  refine z_iload dL_law_607 rfl (q := 609) rfl ?_
  refine z_iconst (v := 2) dL_law_609 rfl (q := 610) rfl ?_
  refine z_iadd dL_law_610 (q := 611) rfl ?_
  refine z_sld dL_law_611 (sinx (j := 2) hL hL2 (by decide)) (q := 612) rfl ?_
  refine z_aload_n (i := 0) dL_law_612 rfl rfl (q := 613) rfl ?_
  refine z_iload dL_law_613 rfl (q := 615) rfl ?_
  refine z_iconst (v := 3) dL_law_615 rfl (q := 616) rfl ?_
  refine z_iadd dL_law_616 (q := 617) rfl ?_
  refine z_sld dL_law_617 (sinx (j := 3) hL hL2 (by decide)) (q := 618) rfl ?_
  refine z_aload_n (i := 3) dL_law_618 rfl rfl (q := 619) rfl ?_
  obtain ⟨S, hx, ho, hy, hb⟩ := p_moveReason hg ((G.xs (nI i + 1).toNatClampNeg)) ((G.xs (nI i + 2).toNatClampNeg)) ((G.xs (nI i + 3).toNatClampNeg))
  refine z_callSW (As := [_, _, _, _, _]) dL_law_619 kL_156 (c_L_moveReason (hx O) ho) rfl (zle rfl) ⟨zle rfl, zle rfl⟩ hk (q := 622) rfl (fun rv w2 hw2 => ?_) (fun E w2 hw2 => by obtain ⟨_, _, _, _, h9, _⟩ := hw2; cases h9)
  obtain ⟨r0, X2, O2, hS, h9, rfl, hO⟩ := hw2
  cases h9
  refine z_istore dL_law_622 (zle rfl) rfl (q := 624) rfl ?_
  refine z_aload_n (i := 2) dL_law_624 rfl rfl (q := 625) rfl ?_
  refine z_aload_n (i := 0) dL_law_625 rfl rfl (q := 626) rfl ?_
  refine z_iload dL_law_626 rfl (q := 628) rfl ?_
  refine z_iconst (v := 1) dL_law_628 rfl (q := 629) rfl ?_
  refine z_iadd dL_law_629 (q := 630) rfl ?_
  refine z_sld dL_law_630 (sinx (j := 1) hL hL2 (by decide)) (q := 631) rfl ?_
  refine z_aload_n (i := 0) dL_law_631 rfl rfl (q := 632) rfl ?_
  refine z_iload dL_law_632 rfl (q := 634) rfl ?_
  refine z_iconst (v := 2) dL_law_634 rfl (q := 635) rfl ?_
  refine z_iadd dL_law_635 (q := 636) rfl ?_
  refine z_sld dL_law_636 (sinx (j := 2) hL hL2 (by decide)) (q := 637) rfl ?_
  refine z_aload_n (i := 0) dL_law_637 rfl rfl (q := 638) rfl ?_
  refine z_iload dL_law_638 rfl (q := 640) rfl ?_
  refine z_iconst (v := 3) dL_law_640 rfl (q := 641) rfl ?_
  refine z_iadd dL_law_641 (q := 642) rfl ?_
  refine z_sld dL_law_642 (sinx (j := 3) hL hL2 (by decide)) (q := 643) rfl ?_
  refine z_callV (As := [_, _, _]) dL_law_643 kL_158 (hy r0 X2 O2 hS) (wm _ _ _) rfl rfl (zle rfl) ⟨zle rfl, zle rfl⟩ hk (q := 646) rfl (fun rv w2 hw2 => ?_) (fun E w2 hw2 => by obtain ⟨_, _, h9, _⟩ := hw2; cases h9)
  obtain ⟨Y2, a, h9, rfl, hth, ha, hg2⟩ := hw2
  cases h9
  refine z_istore dL_law_646 (zle rfl) rfl (q := 648) rfl ?_
  refine z_aload_n (i := 2) dL_law_648 rfl rfl (q := 649) rfl ?_
  refine z_callVF (As := []) dL_law_649 kL_137 (c_X9_thrown) (wm _ _ _) rfl rfl (zle rfl) ⟨zle rfl, zle rfl⟩ hk (q := 652) rfl ?_
  rw [hth]
  refine z_iload dL_law_652 rfl (q := 654) rfl ?_
  refine z_icmp_eq (tgt := 659) dL_law_654 (by decide) (q := 657) rfl (fun h654 => ?_) (fun h654 => absurd rfl h654)
  refine z_iload dL_law_659 rfl (q := 661) rfl ?_
  refine z_if_ne (tgt := 676) dL_law_661 (by decide) (q := 664) rfl (fun h661 => ?_) (fun h661 => ?_)
  · refine z_goto (tgt := 2306) dL_law_676 (by decide) ?_
    exact hx2 _ _ _ _ _ _ _ hg2
  · obtain ⟨v, rfl⟩ := lcode_0 (by decide) (ho _ _ hS) h661
    have hav := ha v rfl
    subst hav
    have hOv := hO a rfl
    refine z_aload_n (i := 3) dL_law_664 rfl rfl (q := 665) rfl ?_
    refine z_iconst (v := 0) dL_law_665 rfl (q := 666) rfl ?_
    refine z_lald dL_law_666 (wout _ _ _) (zin (k := 0) (by decide) (by decide)) (q := 667) rfl ?_
    refine Z.eqst (st2 := [.long a.toInt64]) (congrArg (fun x => [Value.long x]) hOv) ?_
    refine z_iload dL_law_667 rfl (q := 669) rfl ?_
    refine z_i2l dL_law_669 (q := 670) rfl ?_
    refine z_lcmp dL_law_670 (q := 671) rfl ?_
    rw [lg_self]
    refine z_if_eq (tgt := 676) dL_law_671 (by decide) (q := 674) rfl (fun h671 => ?_) (fun h671 => absurd rfl h671)
    refine z_goto (tgt := 2306) dL_law_676 (by decide) ?_
    exact hx2 _ _ _ _ _ _ _ hg2
set_option maxRecDepth 100000 in
set_option maxHeartbeats 4000000 in
theorem q_6 {i kc ks : Nat} {e6 e7 e8 e9 : Option Value} {P : zRes → zWorld → Prop} (hg : good X Y) (hL : i + 5 ≤ G.L) (hL2 : G.L ≤ 2560) (hk : kc + 1 ≤ room_1.cells ∧ ks + 6 ≤ room_1.slots) (hx2 : lK G P i (kc + 1) (ks + 6)) : Z G mL_law room_1 kc ks 679 [some (.ref zSI), some (.ref 0), some (.ref 77), some (.ref 94), some (.ref 95), some (.int (nI i)), e6, e7, e8, e9] [] (zw X Y O) P := by
  refine z_aload_n (i := 1) dL_law_679 rfl rfl (q := 680) rfl ?_
  refine z_aload_n (i := 0) dL_law_680 rfl rfl (q := 681) rfl ?_
  refine z_iload dL_law_681 rfl (q := 683) rfl ?_
  refine z_iconst (v := 1) dL_law_683 rfl (q := 684) rfl ?_
  refine z_iadd dL_law_684 (q := 685) rfl ?_
  refine z_sld dL_law_685 (sinx (j := 1) hL hL2 (by decide)) (q := 686) rfl ?_
  refine z_aload_n (i := 0) dL_law_686 rfl rfl (q := 687) rfl ?_
  refine z_iload dL_law_687 rfl (q := 689) rfl ?_
  refine z_iconst (v := 2) dL_law_689 rfl (q := 690) rfl ?_
  refine z_iadd dL_law_690 (q := 691) rfl ?_
  refine z_sld dL_law_691 (sinx (j := 2) hL hL2 (by decide)) (q := 692) rfl ?_
  refine z_aload_n (i := 3) dL_law_692 rfl rfl (q := 693) rfl ?_
  obtain ⟨S, hx, ho, hy, hb⟩ := p_setText hg ((G.xs (nI i + 1).toNatClampNeg)) ((G.xs (nI i + 2).toNatClampNeg))
  refine z_callSW (As := [_, _, _, _]) dL_law_693 kL_159 (c_L_setText (hx O) ho) rfl (zle rfl) ⟨zle rfl, zle rfl⟩ hk (q := 696) rfl (fun rv w2 hw2 => ?_) (fun E w2 hw2 => by obtain ⟨_, _, _, _, h9, _⟩ := hw2; cases h9)
  obtain ⟨r0, X2, O2, hS, h9, rfl, hO⟩ := hw2
  cases h9
  refine z_istore dL_law_696 (zle rfl) rfl (q := 698) rfl ?_
  refine z_aload_n (i := 2) dL_law_698 rfl rfl (q := 699) rfl ?_
  refine z_aload_n (i := 0) dL_law_699 rfl rfl (q := 700) rfl ?_
  refine z_iload dL_law_700 rfl (q := 702) rfl ?_
  refine z_iconst (v := 1) dL_law_702 rfl (q := 703) rfl ?_
  refine z_iadd dL_law_703 (q := 704) rfl ?_
  refine z_sld dL_law_704 (sinx (j := 1) hL hL2 (by decide)) (q := 705) rfl ?_
  refine z_aload_n (i := 0) dL_law_705 rfl rfl (q := 706) rfl ?_
  refine z_iload dL_law_706 rfl (q := 708) rfl ?_
  refine z_iconst (v := 2) dL_law_708 rfl (q := 709) rfl ?_
  refine z_iadd dL_law_709 (q := 710) rfl ?_
  refine z_sld dL_law_710 (sinx (j := 2) hL hL2 (by decide)) (q := 711) rfl ?_
  refine z_callV (As := [_, _]) dL_law_711 kL_162 (hy r0 X2 O2 hS) (wm _ _ _) rfl rfl (zle rfl) ⟨zle rfl, zle rfl⟩ hk (q := 714) rfl (fun rv w2 hw2 => ?_) (fun E w2 hw2 => by obtain ⟨_, _, h9, _⟩ := hw2; cases h9)
  obtain ⟨Y2, a, h9, rfl, hth, ha, hg2⟩ := hw2
  cases h9
  refine z_istore dL_law_714 (zle rfl) rfl (q := 716) rfl ?_
  refine z_aload_n (i := 2) dL_law_716 rfl rfl (q := 717) rfl ?_
  refine z_callVF (As := []) dL_law_717 kL_137 (c_X9_thrown) (wm _ _ _) rfl rfl (zle rfl) ⟨zle rfl, zle rfl⟩ hk (q := 720) rfl ?_
  rw [hth]
  refine z_iload dL_law_720 rfl (q := 722) rfl ?_
  refine z_icmp_eq (tgt := 727) dL_law_722 (by decide) (q := 725) rfl (fun h722 => ?_) (fun h722 => absurd rfl h722)
  refine z_iload dL_law_727 rfl (q := 729) rfl ?_
  refine z_if_ne (tgt := 744) dL_law_729 (by decide) (q := 732) rfl (fun h729 => ?_) (fun h729 => ?_)
  · refine z_goto (tgt := 2306) dL_law_744 (by decide) ?_
    exact hx2 _ _ _ _ _ _ _ hg2
  · obtain ⟨v, rfl⟩ := lcode_0 (by decide) (ho _ _ hS) h729
    have hav := ha v rfl
    subst hav
    have hOv := hO a rfl
    refine z_aload_n (i := 3) dL_law_732 rfl rfl (q := 733) rfl ?_
    refine z_iconst (v := 0) dL_law_733 rfl (q := 734) rfl ?_
    refine z_lald dL_law_734 (wout _ _ _) (zin (k := 0) (by decide) (by decide)) (q := 735) rfl ?_
    refine Z.eqst (st2 := [.long a.toInt64]) (congrArg (fun x => [Value.long x]) hOv) ?_
    refine z_iload dL_law_735 rfl (q := 737) rfl ?_
    refine z_i2l dL_law_737 (q := 738) rfl ?_
    refine z_lcmp dL_law_738 (q := 739) rfl ?_
    rw [lg_self]
    refine z_if_eq (tgt := 744) dL_law_739 (by decide) (q := 742) rfl (fun h739 => ?_) (fun h739 => absurd rfl h739)
    refine z_goto (tgt := 2306) dL_law_744 (by decide) ?_
    exact hx2 _ _ _ _ _ _ _ hg2
set_option maxRecDepth 100000 in
set_option maxHeartbeats 4000000 in
theorem q_7 {i kc ks : Nat} {e6 e7 e8 e9 : Option Value} {P : zRes → zWorld → Prop} (hg : good X Y) (hL : i + 5 ≤ G.L) (hL2 : G.L ≤ 2560) (hk : kc + 1 ≤ room_1.cells ∧ ks + 6 ≤ room_1.slots) (hx2 : lK G P i (kc + 1) (ks + 6)) : Z G mL_law room_1 kc ks 747 [some (.ref zSI), some (.ref 0), some (.ref 77), some (.ref 94), some (.ref 95), some (.int (nI i)), e6, e7, e8, e9] [] (zw X Y O) P := by
  refine z_aload_n (i := 1) dL_law_747 rfl rfl (q := 748) rfl ?_
  refine z_aload_n (i := 0) dL_law_748 rfl rfl (q := 749) rfl ?_
  refine z_iload dL_law_749 rfl (q := 751) rfl ?_
  refine z_iconst (v := 1) dL_law_751 rfl (q := 752) rfl ?_
  refine z_iadd dL_law_752 (q := 753) rfl ?_
  refine z_sld dL_law_753 (sinx (j := 1) hL hL2 (by decide)) (q := 754) rfl ?_
  refine z_aload_n (i := 3) dL_law_754 rfl rfl (q := 755) rfl ?_
  obtain ⟨S, hx, ho, hy, hb⟩ := p_fits hg ((G.xs (nI i + 1).toNatClampNeg))
  refine z_callSW (As := [_, _, _]) dL_law_755 kL_163 (c_L_fits (hx O) ho (hb rfl)) rfl (zle rfl) ⟨zle rfl, zle rfl⟩ hk (q := 758) rfl (fun rv w2 hw2 => ?_) (fun E w2 hw2 => by obtain ⟨_, _, _, _, h9, _⟩ := hw2; cases h9)
  obtain ⟨r0, X2, O2, hS, h9, rfl, hO⟩ := hw2
  cases h9
  refine z_istore dL_law_758 (zle rfl) rfl (q := 760) rfl ?_
  refine z_aload_n (i := 2) dL_law_760 rfl rfl (q := 761) rfl ?_
  refine z_aload_n (i := 0) dL_law_761 rfl rfl (q := 762) rfl ?_
  refine z_iload dL_law_762 rfl (q := 764) rfl ?_
  refine z_iconst (v := 1) dL_law_764 rfl (q := 765) rfl ?_
  refine z_iadd dL_law_765 (q := 766) rfl ?_
  refine z_sld dL_law_766 (sinx (j := 1) hL hL2 (by decide)) (q := 767) rfl ?_
  refine z_callV (As := [_]) dL_law_767 kL_166 (hy r0 X2 O2 hS) (wm _ _ _) rfl rfl (zle rfl) ⟨zle rfl, zle rfl⟩ hk (q := 770) rfl (fun rv w2 hw2 => ?_) (fun E w2 hw2 => by obtain ⟨_, _, h9, _⟩ := hw2; cases h9)
  obtain ⟨Y2, a, h9, rfl, hth, ha, hg2⟩ := hw2
  cases h9
  refine z_istore dL_law_770 (zle rfl) rfl (q := 772) rfl ?_
  refine z_aload_n (i := 2) dL_law_772 rfl rfl (q := 773) rfl ?_
  refine z_callVF (As := []) dL_law_773 kL_137 (c_X9_thrown) (wm _ _ _) rfl rfl (zle rfl) ⟨zle rfl, zle rfl⟩ hk (q := 776) rfl ?_
  rw [hth]
  refine z_iload dL_law_776 rfl (q := 778) rfl ?_
  refine z_icmp_eq (tgt := 783) dL_law_778 (by decide) (q := 781) rfl (fun h778 => ?_) (fun h778 => absurd rfl h778)
  refine z_iload dL_law_783 rfl (q := 785) rfl ?_
  refine z_if_ne (tgt := 807) dL_law_785 (by decide) (q := 788) rfl (fun h785 => ?_) (fun h785 => ?_)
  · refine z_goto (tgt := 2306) dL_law_807 (by decide) ?_
    exact hx2 _ _ _ _ _ _ _ hg2
  · obtain ⟨v, rfl⟩ := lcode_0 (by decide) (ho _ _ hS) h785
    have hav := ha v rfl
    subst hav
    have hOv := hO a rfl
    refine z_aload_n (i := 3) dL_law_788 rfl rfl (q := 789) rfl ?_
    refine z_iconst (v := 0) dL_law_789 rfl (q := 790) rfl ?_
    refine z_lald dL_law_790 (wout _ _ _) (zin (k := 0) (by decide) (by decide)) (q := 791) rfl ?_
    refine Z.eqst (st2 := [.long a.toInt64]) (congrArg (fun x => [Value.long x]) hOv) ?_
    refine z_iload dL_law_791 rfl (q := 793) rfl ?_
    refine z_if_eq (tgt := 800) dL_law_793 (by decide) (q := 796) rfl (fun h793 => ?_) (fun h793 => ?_)
    · refine z_lconst (v := 0) dL_law_800 rfl (q := 801) rfl ?_
      refine z_lcmp dL_law_801 (q := 802) rfl ?_
      have ha0 : a = 0 := h793
      subst ha0
      rw [lg_00]
      refine z_if_eq (tgt := 807) dL_law_802 (by decide) (q := 805) rfl (fun h802 => ?_) (fun h802 => absurd rfl h802)
      refine z_goto (tgt := 2306) dL_law_807 (by decide) ?_
      exact hx2 _ _ _ _ _ _ _ hg2
    · refine z_lconst (v := 1) dL_law_796 rfl (q := 797) rfl ?_
      refine z_goto (tgt := 801) dL_law_797 (by decide) ?_
      refine z_lcmp dL_law_801 (q := 802) rfl ?_
      have ha1 : a = 1 := (hb rfl _ _ hS).resolve_left h793
      subst ha1
      rw [lg_11]
      refine z_if_eq (tgt := 807) dL_law_802 (by decide) (q := 805) rfl (fun h802 => ?_) (fun h802 => absurd rfl h802)
      refine z_goto (tgt := 2306) dL_law_807 (by decide) ?_
      exact hx2 _ _ _ _ _ _ _ hg2
set_option maxRecDepth 100000 in
set_option maxHeartbeats 4000000 in
theorem q_8 {i kc ks : Nat} {e6 e7 e8 e9 : Option Value} {P : zRes → zWorld → Prop} (hg : good X Y) (hL : i + 5 ≤ G.L) (hL2 : G.L ≤ 2560) (hk : kc + 1 ≤ room_1.cells ∧ ks + 6 ≤ room_1.slots) (hx2 : lK G P i (kc + 1) (ks + 6)) : Z G mL_law room_1 kc ks 810 [some (.ref zSI), some (.ref 0), some (.ref 77), some (.ref 94), some (.ref 95), some (.int (nI i)), e6, e7, e8, e9] [] (zw X Y O) P := by
  refine z_aload_n (i := 1) dL_law_810 rfl rfl (q := 811) rfl ?_
  refine z_aload_n (i := 0) dL_law_811 rfl rfl (q := 812) rfl ?_
  refine z_iload dL_law_812 rfl (q := 814) rfl ?_
  refine z_iconst (v := 1) dL_law_814 rfl (q := 815) rfl ?_
  refine z_iadd dL_law_815 (q := 816) rfl ?_
  refine z_sld dL_law_816 (sinx (j := 1) hL hL2 (by decide)) (q := 817) rfl ?_
  refine z_aload_n (i := 3) dL_law_817 rfl rfl (q := 818) rfl ?_
  obtain ⟨S, hx, ho, hy, hb⟩ := p_grow hg ((G.xs (nI i + 1).toNatClampNeg))
  refine z_callSW (As := [_, _, _]) dL_law_818 kL_167 (c_L_grow (hx O) ho) rfl (zle rfl) ⟨zle rfl, zle rfl⟩ hk (q := 821) rfl (fun rv w2 hw2 => ?_) (fun E w2 hw2 => by obtain ⟨_, _, _, _, h9, _⟩ := hw2; cases h9)
  obtain ⟨r0, X2, O2, hS, h9, rfl, hO⟩ := hw2
  cases h9
  refine z_istore dL_law_821 (zle rfl) rfl (q := 823) rfl ?_
  refine z_aload_n (i := 2) dL_law_823 rfl rfl (q := 824) rfl ?_
  refine z_aload_n (i := 0) dL_law_824 rfl rfl (q := 825) rfl ?_
  refine z_iload dL_law_825 rfl (q := 827) rfl ?_
  refine z_iconst (v := 1) dL_law_827 rfl (q := 828) rfl ?_
  refine z_iadd dL_law_828 (q := 829) rfl ?_
  refine z_sld dL_law_829 (sinx (j := 1) hL hL2 (by decide)) (q := 830) rfl ?_
  refine z_callV (As := [_]) dL_law_830 kL_169 (hy r0 X2 O2 hS) (wm _ _ _) rfl rfl (zle rfl) ⟨zle rfl, zle rfl⟩ hk (q := 833) rfl (fun rv w2 hw2 => ?_) (fun E w2 hw2 => by obtain ⟨_, _, h9, _⟩ := hw2; cases h9)
  obtain ⟨Y2, a, h9, rfl, hth, ha, hg2⟩ := hw2
  cases h9
  refine z_istore dL_law_833 (zle rfl) rfl (q := 835) rfl ?_
  refine z_aload_n (i := 2) dL_law_835 rfl rfl (q := 836) rfl ?_
  refine z_callVF (As := []) dL_law_836 kL_137 (c_X9_thrown) (wm _ _ _) rfl rfl (zle rfl) ⟨zle rfl, zle rfl⟩ hk (q := 839) rfl ?_
  rw [hth]
  refine z_iload dL_law_839 rfl (q := 841) rfl ?_
  refine z_icmp_eq (tgt := 846) dL_law_841 (by decide) (q := 844) rfl (fun h841 => ?_) (fun h841 => absurd rfl h841)
  refine z_iload dL_law_846 rfl (q := 848) rfl ?_
  refine z_if_ne (tgt := 863) dL_law_848 (by decide) (q := 851) rfl (fun h848 => ?_) (fun h848 => ?_)
  · refine z_goto (tgt := 2306) dL_law_863 (by decide) ?_
    exact hx2 _ _ _ _ _ _ _ hg2
  · obtain ⟨v, rfl⟩ := lcode_0 (by decide) (ho _ _ hS) h848
    have hav := ha v rfl
    subst hav
    have hOv := hO a rfl
    refine z_aload_n (i := 3) dL_law_851 rfl rfl (q := 852) rfl ?_
    refine z_iconst (v := 0) dL_law_852 rfl (q := 853) rfl ?_
    refine z_lald dL_law_853 (wout _ _ _) (zin (k := 0) (by decide) (by decide)) (q := 854) rfl ?_
    refine Z.eqst (st2 := [.long a.toInt64]) (congrArg (fun x => [Value.long x]) hOv) ?_
    refine z_iload dL_law_854 rfl (q := 856) rfl ?_
    refine z_i2l dL_law_856 (q := 857) rfl ?_
    refine z_lcmp dL_law_857 (q := 858) rfl ?_
    rw [lg_self]
    refine z_if_eq (tgt := 863) dL_law_858 (by decide) (q := 861) rfl (fun h858 => ?_) (fun h858 => absurd rfl h858)
    refine z_goto (tgt := 2306) dL_law_863 (by decide) ?_
    exact hx2 _ _ _ _ _ _ _ hg2
set_option maxRecDepth 100000 in
set_option maxHeartbeats 4000000 in
theorem q_9 {i kc ks : Nat} {e6 e7 e8 e9 : Option Value} {P : zRes → zWorld → Prop} (hg : good X Y) (hL : i + 5 ≤ G.L) (hL2 : G.L ≤ 2560) (hk : kc + 1 ≤ room_1.cells ∧ ks + 6 ≤ room_1.slots) (hx2 : lK G P i (kc + 1) (ks + 6)) : Z G mL_law room_1 kc ks 866 [some (.ref zSI), some (.ref 0), some (.ref 77), some (.ref 94), some (.ref 95), some (.int (nI i)), e6, e7, e8, e9] [] (zw X Y O) P := by
  refine z_aload_n (i := 1) dL_law_866 rfl rfl (q := 867) rfl ?_
  refine z_aload_n (i := 0) dL_law_867 rfl rfl (q := 868) rfl ?_
  refine z_iload dL_law_868 rfl (q := 870) rfl ?_
  refine z_iconst (v := 1) dL_law_870 rfl (q := 871) rfl ?_
  refine z_iadd dL_law_871 (q := 872) rfl ?_
  refine z_sld dL_law_872 (sinx (j := 1) hL hL2 (by decide)) (q := 873) rfl ?_
  refine z_aload_n (i := 3) dL_law_873 rfl rfl (q := 874) rfl ?_
  obtain ⟨S, hx, ho, hy, hb⟩ := p_growReason hg ((G.xs (nI i + 1).toNatClampNeg))
  refine z_callSW (As := [_, _, _]) dL_law_874 kL_170 (c_L_growReason (hx O) ho) rfl (zle rfl) ⟨zle rfl, zle rfl⟩ hk (q := 877) rfl (fun rv w2 hw2 => ?_) (fun E w2 hw2 => by obtain ⟨_, _, _, _, h9, _⟩ := hw2; cases h9)
  obtain ⟨r0, X2, O2, hS, h9, rfl, hO⟩ := hw2
  cases h9
  refine z_istore dL_law_877 (zle rfl) rfl (q := 879) rfl ?_
  refine z_aload_n (i := 2) dL_law_879 rfl rfl (q := 880) rfl ?_
  refine z_aload_n (i := 0) dL_law_880 rfl rfl (q := 881) rfl ?_
  refine z_iload dL_law_881 rfl (q := 883) rfl ?_
  refine z_iconst (v := 1) dL_law_883 rfl (q := 884) rfl ?_
  refine z_iadd dL_law_884 (q := 885) rfl ?_
  refine z_sld dL_law_885 (sinx (j := 1) hL hL2 (by decide)) (q := 886) rfl ?_
  refine z_callV (As := [_]) dL_law_886 kL_172 (hy r0 X2 O2 hS) (wm _ _ _) rfl rfl (zle rfl) ⟨zle rfl, zle rfl⟩ hk (q := 889) rfl (fun rv w2 hw2 => ?_) (fun E w2 hw2 => by obtain ⟨_, _, h9, _⟩ := hw2; cases h9)
  obtain ⟨Y2, a, h9, rfl, hth, ha, hg2⟩ := hw2
  cases h9
  refine z_istore dL_law_889 (zle rfl) rfl (q := 891) rfl ?_
  refine z_aload_n (i := 2) dL_law_891 rfl rfl (q := 892) rfl ?_
  refine z_callVF (As := []) dL_law_892 kL_137 (c_X9_thrown) (wm _ _ _) rfl rfl (zle rfl) ⟨zle rfl, zle rfl⟩ hk (q := 895) rfl ?_
  rw [hth]
  refine z_iload dL_law_895 rfl (q := 897) rfl ?_
  refine z_icmp_eq (tgt := 902) dL_law_897 (by decide) (q := 900) rfl (fun h897 => ?_) (fun h897 => absurd rfl h897)
  refine z_iload dL_law_902 rfl (q := 904) rfl ?_
  refine z_if_ne (tgt := 919) dL_law_904 (by decide) (q := 907) rfl (fun h904 => ?_) (fun h904 => ?_)
  · refine z_goto (tgt := 2306) dL_law_919 (by decide) ?_
    exact hx2 _ _ _ _ _ _ _ hg2
  · obtain ⟨v, rfl⟩ := lcode_0 (by decide) (ho _ _ hS) h904
    have hav := ha v rfl
    subst hav
    have hOv := hO a rfl
    refine z_aload_n (i := 3) dL_law_907 rfl rfl (q := 908) rfl ?_
    refine z_iconst (v := 0) dL_law_908 rfl (q := 909) rfl ?_
    refine z_lald dL_law_909 (wout _ _ _) (zin (k := 0) (by decide) (by decide)) (q := 910) rfl ?_
    refine Z.eqst (st2 := [.long a.toInt64]) (congrArg (fun x => [Value.long x]) hOv) ?_
    refine z_iload dL_law_910 rfl (q := 912) rfl ?_
    refine z_i2l dL_law_912 (q := 913) rfl ?_
    refine z_lcmp dL_law_913 (q := 914) rfl ?_
    rw [lg_self]
    refine z_if_eq (tgt := 919) dL_law_914 (by decide) (q := 917) rfl (fun h914 => ?_) (fun h914 => absurd rfl h914)
    refine z_goto (tgt := 2306) dL_law_919 (by decide) ?_
    exact hx2 _ _ _ _ _ _ _ hg2
end
