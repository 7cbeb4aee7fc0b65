section
variable {G : zG} {X X1 X2 X3 : zX} {Y : zY} {O : zO}
set_option maxRecDepth 100000 in
set_option maxHeartbeats 4000000 in
abbrev PL : zRes → zWorld → Prop := fun r _ => r = .inl (some (.int 1))
set_option maxRecDepth 100000 in
set_option maxHeartbeats 4000000 in
theorem hroom : 10000 ≤ room_1.cells ∧ 100000 ≤ room_1.slots := by decide
set_option maxRecDepth 100000 in
set_option maxHeartbeats 4000000 in
theorem mod_ne {a d n : Nat} (ha : a < n) (hd : d < n - 1) : a ≠ (a + 1 + d) % n := by
  rcases Nat.lt_or_ge (a + 1 + d) n with h | h
  · rw [Nat.mod_eq_of_lt h]; omega
  · rw [Nat.mod_eq_sub_mod h, Nat.mod_eq_of_lt (by omega)]; omega
set_option maxRecDepth 100000 in
set_option maxHeartbeats 4000000 in
def X00 : zX := (fun _ => 0, fun _ _ => 0, fun _ => 0, 0)
set_option maxRecDepth 100000 in
set_option maxHeartbeats 4000000 in
theorem inv0 : inv X00 0 0 := ⟨by decide, by decide, fun _ _ => rfl, fun _ _ _ => rfl, fun k h => absurd h (Nat.not_lt_zero k), fun i j _ h => absurd h (Nat.not_lt_zero j), fun w h => absurd h (Nat.not_lt_zero w)⟩
set_option maxRecDepth 100000 in
set_option maxHeartbeats 4000000 in
theorem law_end {n nw k0 n0 : Nat} {e4 e5 e6 e7 e8 e9 e10 e11 : Option Value} (hI : inv X n nw) (hr : k0 ≤ 9000 ∧ n0 ≤ 90000) : Z G mL_law room_1 k0 n0 497 [some (.ref zSI), some (.ref 0), some (.int 1), some (.int (nI n)), e4, e5, e6, e7, e8, e9, e10, e11] [] (zw X [] O) PL := by
  obtain ⟨hr1, hr2⟩ := hroom
  have h4 := hI.1
  refine z_iload_n (i := 2) dL_law_497 rfl rfl (q := 498) rfl ?_
  refine z_if_eq (tgt := 519) dL_law_498 (by decide) (q := 501) rfl (fun h498 => absurd h498 (by decide)) (fun h498 => ?_)
  refine z_aload_n (i := 1) dL_law_501 rfl rfl (q := 502) rfl ?_
  refine z_callSA (As := [_]) dL_law_502 kL_175 (c_L_areWays hI (keep0_refl X)) rfl (zle rfl) ⟨zle rfl, zle rfl⟩ ⟨by omega, by omega⟩ (q := 505) rfl (fun hE502 X502 hk502 => ?_)
  refine z_if_eq (tgt := 519) dL_law_505 (by decide) (q := 508) rfl (fun h505 => absurd h505 (by decide)) (fun h505 => ?_)
  refine z_aload_n (i := 1) dL_law_508 rfl rfl (q := 509) rfl ?_
  refine z_callVA (As := []) dL_law_509 kL_193 (a_sound hI hk502) (wo_x _ _ _) rfl rfl (zle rfl) ⟨zle rfl, zle rfl⟩ ⟨by omega, by omega⟩ (q := 512) rfl (fun hE509 X509 hk509 => ?_)
  refine z_if_eq (tgt := 519) dL_law_512 (by decide) (q := 515) rfl (fun h512 => absurd h512 (by decide)) (fun h512 => ?_)
  refine z_iconst (v := 1) dL_law_515 rfl (q := 516) rfl ?_
  refine z_goto (tgt := 520) dL_law_516 (by decide) ?_
  exact z_zret dL_law_520 rfl (by first | rfl | assumption | decide) ⟨by omega, by omega⟩ rfl
set_option maxRecDepth 100000 in
set_option maxHeartbeats 4000000 in
theorem law_308_A {n nw k k0 n0 : Nat} {z6 : Int32} {e7 e8 e9 e10 e11 : Option Value} (hL : G.L ≤ 260) (hI : inv X n nw) (hk4 : k < 4) (hr : k0 ≤ 8000 ∧ n0 ≤ 80000) (kk : ∀ (X5 : zX) (e6 e7 e8 e9 e10 e11 : Option Value), inv X5 n nw → Z G mL_law room_1 (k0 + 500) (n0 + 5000) 251 [some (.ref zSI), some (.ref 0), some (.int 1), some (.int (nI n)), some (.int (-1)), some (.int (nI (k + 1))), e6, e7, e8, e9, e10, e11] [] (zw X5 [] O) PL) : Z G mL_law room_1 k0 n0 308 [some (.ref zSI), some (.ref 0), some (.int 1), some (.int (nI n)), some (.int (-1)), some (.int (nI k)), some (.int z6), e7, e8, e9, e10, e11] [] (zw X [] O) PL := by
  obtain ⟨hr1, hr2⟩ := hroom
  have h4 := hI.1
  refine z_iload_n (i := 3) dL_law_308 rfl rfl (q := 309) rfl ?_
  refine z_if_le (tgt := 473) dL_law_309 (by decide) (q := 312) rfl (fun h309 => ?_) (fun h309 => ?_)
  · refine z_iload_n (i := 2) dL_law_473 rfl rfl (q := 474) rfl ?_
    refine z_if_eq (tgt := 489) dL_law_474 (by decide) (q := 477) rfl (fun h474 => absurd h474 (by decide)) (fun h474 => ?_)
    refine z_aload_n (i := 1) dL_law_477 rfl rfl (q := 478) rfl ?_
    refine z_iload_n (i := 3) dL_law_478 rfl rfl (q := 479) rfl ?_
    refine z_callSA (As := [_, _]) dL_law_479 kL_171 (c_L_areOn (n := n) hI (keep0_refl X)) rfl (zle rfl) ⟨zle rfl, zle rfl⟩ ⟨by omega, by omega⟩ (q := 482) rfl (fun hE479 X479 hk479 => ?_)
    refine z_if_eq (tgt := 489) dL_law_482 (by decide) (q := 485) rfl (fun h482 => absurd h482 (by decide)) (fun h482 => ?_)
    refine z_iconst (v := 1) dL_law_485 rfl (q := 486) rfl ?_
    refine z_goto (tgt := 490) dL_law_486 (by decide) ?_
    refine z_istore_n (i := 2) dL_law_490 rfl (zle rfl) rfl (q := 491) rfl ?_
    refine z_iinc (v := nI (k + 1)) dL_law_491 rfl (nI_add _ _) (zle rfl) rfl (q := 494) rfl ?_
    refine z_goto (tgt := 251) dL_law_494 (by decide) ?_
    exact Z.widen (by omega) (by omega) (kk _ _ _ _ _ _ _ (inv_keep hk479 hI))
  · have hn : 0 < n := by
      rcases Nat.eq_zero_or_pos n with h9 | h9
      · exact absurd (by rw [h9]; exact Int32.le_refl 0) h309
      · exact h9
    refine z_aload_n (i := 0) dL_law_312 rfl rfl (q := 313) rfl ?_
    refine z_sipush (v := 160) dL_law_313 rfl (q := 316) rfl ?_
    refine z_iload dL_law_316 rfl (q := 318) rfl ?_
    refine z_iadd dL_law_318 (q := 319) rfl ?_
    rw [show (160 : Int32) + nI (k) = nI (160 + k) from nI_add (160) (k)]
    refine z_iload_n (i := 3) dL_law_319 rfl rfl (q := 320) rfl ?_
    refine z_callSP (i := (160 + k)) (m := n) dL_law_320 kL_141 rfl hL (by omega) (by omega) (by omega) rfl (zle rfl) ⟨zle rfl, zle rfl⟩ ⟨by omega, by omega⟩ (q := 323) rfl (fun v320 hv320 => ?_)
    refine z_istore dL_law_323 (zle rfl) rfl (q := 325) rfl ?_
    refine z_aload_n (i := 0) dL_law_325 rfl rfl (q := 326) rfl ?_
    refine z_sipush (v := 170) dL_law_326 rfl (q := 329) rfl ?_
    refine z_iload dL_law_329 rfl (q := 331) rfl ?_
    refine z_iadd dL_law_331 (q := 332) rfl ?_
    rw [show (170 : Int32) + nI (k) = nI (170 + k) from nI_add (170) (k)]
    refine z_sipush (v := 201) dL_law_332 rfl (q := 335) rfl ?_
    refine z_callSP (i := (170 + k)) (m := 201) dL_law_335 kL_141 rfl hL (by omega) (by omega) (by omega) rfl (zle rfl) ⟨zle rfl, zle rfl⟩ ⟨by omega, by omega⟩ (q := 338) rfl (fun v335 hv335 => ?_)
    refine z_istore dL_law_338 (zle rfl) rfl (q := 340) rfl ?_
    refine z_aload_n (i := 0) dL_law_340 rfl rfl (q := 341) rfl ?_
    refine z_sipush (v := 180) dL_law_341 rfl (q := 344) rfl ?_
    refine z_iload dL_law_344 rfl (q := 346) rfl ?_
    refine z_iadd dL_law_346 (q := 347) rfl ?_
    rw [show (180 : Int32) + nI (k) = nI (180 + k) from nI_add (180) (k)]
    refine z_bipush (v := 121) dL_law_347 rfl (q := 349) rfl ?_
    refine z_callSP (i := (180 + k)) (m := 121) dL_law_349 kL_141 rfl hL (by omega) (by omega) (by omega) rfl (zle rfl) ⟨zle rfl, zle rfl⟩ ⟨by omega, by omega⟩ (q := 352) rfl (fun v349 hv349 => ?_)
    refine z_istore dL_law_352 (zle rfl) rfl (q := 354) rfl ?_
    refine z_aload_n (i := 1) dL_law_354 rfl rfl (q := 355) rfl ?_
    refine z_iconst (v := 2) dL_law_355 rfl (q := 356) rfl ?_
    refine z_iload dL_law_356 rfl (q := 358) rfl ?_
    refine z_iload dL_law_358 rfl (q := 360) rfl ?_
    refine z_iload dL_law_360 rfl (q := 362) rfl ?_
    refine z_callSWA (As := [_, _, _, _, _]) dL_law_362 kL_151 (a_reason (k := v320) (l := nI v335) (t := nI v349) hI (keep0_refl X) hv320) rfl (zle rfl) ⟨zle rfl, zle rfl⟩ ⟨by omega, by omega⟩ (q := 365) rfl (fun hE362 X362 hk362 => ?_)
    refine z_istore dL_law_365 (zle rfl) rfl (q := 367) rfl ?_
    refine z_aload_n (i := 1) dL_law_367 rfl rfl (q := 368) rfl ?_
    refine z_iconst (v := 2) dL_law_368 rfl (q := 369) rfl ?_
    refine z_iload dL_law_369 rfl (q := 371) rfl ?_
    refine z_iload dL_law_371 rfl (q := 373) rfl ?_
    refine z_iload dL_law_373 rfl (q := 375) rfl ?_
    refine z_iconst (v := 0) dL_law_375 rfl (q := 376) rfl ?_
    refine z_callSWI (As := [_, _, _, _, _, _]) dL_law_376 kL_145 (d_move (k := v320) (l := v335) (t := v349) hI hk362 hv320 (by omega) (by omega)) mvP_int rfl (zle rfl) ⟨zle rfl, zle rfl⟩ ⟨by omega, by omega⟩ (q := 379) rfl (fun v376 w376 hw376 => ?_)
    obtain ⟨v, X3, h9, rfl, hI3, he4, hc⟩ := hw376
    cases h9
    rcases hc with ⟨hr, hv⟩ | ⟨hr, hv⟩ | ⟨hr, hv⟩ | ⟨hr, hv, hx, hy⟩
    · subst hv
      rw [hr]
      refine z_istore dL_law_379 (zle rfl) rfl (q := 381) rfl ?_
      refine z_iload_n (i := 2) dL_law_381 rfl rfl (q := 382) rfl ?_
      refine z_if_eq (tgt := 471) dL_law_382 (by decide) (q := 385) rfl (fun h382 => absurd h382 (by decide)) (fun h382 => ?_)
      refine z_iload dL_law_385 rfl (q := 387) rfl ?_
      refine z_iload dL_law_387 rfl (q := 389) rfl ?_
      refine z_bipush (v := 108) dL_law_389 rfl (q := 391) rfl ?_
      refine z_icmp_ne (tgt := 400) dL_law_391 (by decide) (q := 394) rfl (fun h391 => absurd h391 (by decide)) (fun h391 => ?_)
      refine z_sipush (v := (-2003)) dL_law_394 rfl (q := 397) rfl ?_
      refine z_goto (tgt := 428) dL_law_397 (by decide) ?_
      refine z_icmp_ne (tgt := 471) dL_law_428 (by decide) (q := 431) rfl (fun h428 => absurd h428 (by decide)) (fun h428 => ?_)
      refine z_iload dL_law_431 rfl (q := 433) rfl ?_
      refine z_bipush (v := 110) dL_law_433 rfl (q := 435) rfl ?_
      refine z_icmp_ne (tgt := 467) dL_law_435 (by decide) (q := 438) rfl (fun h435 => ?_) (fun h435 => absurd h435 (by decide))
      refine z_iconst (v := 1) dL_law_467 rfl (q := 468) rfl ?_
      refine z_goto (tgt := 472) dL_law_468 (by decide) ?_
      refine z_istore_n (i := 2) dL_law_472 rfl (zle rfl) rfl (q := 473) rfl ?_
      refine z_iload_n (i := 2) dL_law_473 rfl rfl (q := 474) rfl ?_
      refine z_if_eq (tgt := 489) dL_law_474 (by decide) (q := 477) rfl (fun h474 => absurd h474 (by decide)) (fun h474 => ?_)
      refine z_aload_n (i := 1) dL_law_477 rfl rfl (q := 478) rfl ?_
      refine z_iload_n (i := 3) dL_law_478 rfl rfl (q := 479) rfl ?_
      refine z_callSA (As := [_, _]) dL_law_479 kL_171 (c_L_areOn (n := n) hI3 (keep0_refl X3)) rfl (zle rfl) ⟨zle rfl, zle rfl⟩ ⟨by omega, by omega⟩ (q := 482) rfl (fun hE479 X479 hk479 => ?_)
      refine z_if_eq (tgt := 489) dL_law_482 (by decide) (q := 485) rfl (fun h482 => absurd h482 (by decide)) (fun h482 => ?_)
      refine z_iconst (v := 1) dL_law_485 rfl (q := 486) rfl ?_
      refine z_goto (tgt := 490) dL_law_486 (by decide) ?_
      refine z_istore_n (i := 2) dL_law_490 rfl (zle rfl) rfl (q := 491) rfl ?_
      refine z_iinc (v := nI (k + 1)) dL_law_491 rfl (nI_add _ _) (zle rfl) rfl (q := 494) rfl ?_
      refine z_goto (tgt := 251) dL_law_494 (by decide) ?_
      exact Z.widen (by omega) (by omega) (kk _ _ _ _ _ _ _ (inv_keep hk479 hI3))
    · subst hv
      rw [hr]
      refine z_istore dL_law_379 (zle rfl) rfl (q := 381) rfl ?_
      refine z_iload_n (i := 2) dL_law_381 rfl rfl (q := 382) rfl ?_
      refine z_if_eq (tgt := 471) dL_law_382 (by decide) (q := 385) rfl (fun h382 => absurd h382 (by decide)) (fun h382 => ?_)
      refine z_iload dL_law_385 rfl (q := 387) rfl ?_
      refine z_iload dL_law_387 rfl (q := 389) rfl ?_
      refine z_bipush (v := 108) dL_law_389 rfl (q := 391) rfl ?_
      refine z_icmp_ne (tgt := 400) dL_law_391 (by decide) (q := 394) rfl (fun h391 => ?_) (fun h391 => absurd h391 (by decide))
      refine z_iload dL_law_400 rfl (q := 402) rfl ?_
      refine z_bipush (v := 115) dL_law_402 rfl (q := 404) rfl ?_
      refine z_icmp_ne (tgt := 413) dL_law_404 (by decide) (q := 407) rfl (fun h404 => absurd h404 (by decide)) (fun h404 => ?_)
      refine z_sipush (v := (-2002)) dL_law_407 rfl (q := 410) rfl ?_
      refine z_goto (tgt := 428) dL_law_410 (by decide) ?_
      refine z_icmp_ne (tgt := 471) dL_law_428 (by decide) (q := 431) rfl (fun h428 => absurd h428 (by decide)) (fun h428 => ?_)
      refine z_iload dL_law_431 rfl (q := 433) rfl ?_
      refine z_bipush (v := 110) dL_law_433 rfl (q := 435) rfl ?_
      refine z_icmp_ne (tgt := 467) dL_law_435 (by decide) (q := 438) rfl (fun h435 => ?_) (fun h435 => absurd h435 (by decide))
      refine z_iconst (v := 1) dL_law_467 rfl (q := 468) rfl ?_
      refine z_goto (tgt := 472) dL_law_468 (by decide) ?_
      refine z_istore_n (i := 2) dL_law_472 rfl (zle rfl) rfl (q := 473) rfl ?_
      refine z_iload_n (i := 2) dL_law_473 rfl rfl (q := 474) rfl ?_
      refine z_if_eq (tgt := 489) dL_law_474 (by decide) (q := 477) rfl (fun h474 => absurd h474 (by decide)) (fun h474 => ?_)
      refine z_aload_n (i := 1) dL_law_477 rfl rfl (q := 478) rfl ?_
      refine z_iload_n (i := 3) dL_law_478 rfl rfl (q := 479) rfl ?_
      refine z_callSA (As := [_, _]) dL_law_479 kL_171 (c_L_areOn (n := n) hI3 (keep0_refl X3)) rfl (zle rfl) ⟨zle rfl, zle rfl⟩ ⟨by omega, by omega⟩ (q := 482) rfl (fun hE479 X479 hk479 => ?_)
      refine z_if_eq (tgt := 489) dL_law_482 (by decide) (q := 485) rfl (fun h482 => absurd h482 (by decide)) (fun h482 => ?_)
      refine z_iconst (v := 1) dL_law_485 rfl (q := 486) rfl ?_
      refine z_goto (tgt := 490) dL_law_486 (by decide) ?_
      refine z_istore_n (i := 2) dL_law_490 rfl (zle rfl) rfl (q := 491) rfl ?_
      refine z_iinc (v := nI (k + 1)) dL_law_491 rfl (nI_add _ _) (zle rfl) rfl (q := 494) rfl ?_
      refine z_goto (tgt := 251) dL_law_494 (by decide) ?_
      exact Z.widen (by omega) (by omega) (kk _ _ _ _ _ _ _ (inv_keep hk479 hI3))
    · subst hv
      rw [hr]
      refine z_istore dL_law_379 (zle rfl) rfl (q := 381) rfl ?_
      refine z_iload_n (i := 2) dL_law_381 rfl rfl (q := 382) rfl ?_
      refine z_if_eq (tgt := 471) dL_law_382 (by decide) (q := 385) rfl (fun h382 => absurd h382 (by decide)) (fun h382 => ?_)
      refine z_iload dL_law_385 rfl (q := 387) rfl ?_
      refine z_iload dL_law_387 rfl (q := 389) rfl ?_
      refine z_bipush (v := 108) dL_law_389 rfl (q := 391) rfl ?_
      refine z_icmp_ne (tgt := 400) dL_law_391 (by decide) (q := 394) rfl (fun h391 => ?_) (fun h391 => absurd h391 (by decide))
      refine z_iload dL_law_400 rfl (q := 402) rfl ?_
      refine z_bipush (v := 115) dL_law_402 rfl (q := 404) rfl ?_
      refine z_icmp_ne (tgt := 413) dL_law_404 (by decide) (q := 407) rfl (fun h404 => ?_) (fun h404 => absurd h404 (by decide))
      refine z_iload dL_law_413 rfl (q := 415) rfl ?_
      refine z_bipush (v := 111) dL_law_415 rfl (q := 417) rfl ?_
      refine z_icmp_ne (tgt := 426) dL_law_417 (by decide) (q := 420) rfl (fun h417 => absurd h417 (by decide)) (fun h417 => ?_)
      refine z_sipush (v := (-2004)) dL_law_420 rfl (q := 423) rfl ?_
      refine z_goto (tgt := 428) dL_law_423 (by decide) ?_
      refine z_icmp_ne (tgt := 471) dL_law_428 (by decide) (q := 431) rfl (fun h428 => absurd h428 (by decide)) (fun h428 => ?_)
      refine z_iload dL_law_431 rfl (q := 433) rfl ?_
      refine z_bipush (v := 110) dL_law_433 rfl (q := 435) rfl ?_
      refine z_icmp_ne (tgt := 467) dL_law_435 (by decide) (q := 438) rfl (fun h435 => ?_) (fun h435 => absurd h435 (by decide))
      refine z_iconst (v := 1) dL_law_467 rfl (q := 468) rfl ?_
      refine z_goto (tgt := 472) dL_law_468 (by decide) ?_
      refine z_istore_n (i := 2) dL_law_472 rfl (zle rfl) rfl (q := 473) rfl ?_
      refine z_iload_n (i := 2) dL_law_473 rfl rfl (q := 474) rfl ?_
      refine z_if_eq (tgt := 489) dL_law_474 (by decide) (q := 477) rfl (fun h474 => absurd h474 (by decide)) (fun h474 => ?_)
      refine z_aload_n (i := 1) dL_law_477 rfl rfl (q := 478) rfl ?_
      refine z_iload_n (i := 3) dL_law_478 rfl rfl (q := 479) rfl ?_
      refine z_callSA (As := [_, _]) dL_law_479 kL_171 (c_L_areOn (n := n) hI3 (keep0_refl X3)) rfl (zle rfl) ⟨zle rfl, zle rfl⟩ ⟨by omega, by omega⟩ (q := 482) rfl (fun hE479 X479 hk479 => ?_)
      refine z_if_eq (tgt := 489) dL_law_482 (by decide) (q := 485) rfl (fun h482 => absurd h482 (by decide)) (fun h482 => ?_)
      refine z_iconst (v := 1) dL_law_485 rfl (q := 486) rfl ?_
      refine z_goto (tgt := 490) dL_law_486 (by decide) ?_
      refine z_istore_n (i := 2) dL_law_490 rfl (zle rfl) rfl (q := 491) rfl ?_
      refine z_iinc (v := nI (k + 1)) dL_law_491 rfl (nI_add _ _) (zle rfl) rfl (q := 494) rfl ?_
      refine z_goto (tgt := 251) dL_law_494 (by decide) ?_
      exact Z.widen (by omega) (by omega) (kk _ _ _ _ _ _ _ (inv_keep hk479 hI3))
    · skip
      rw [hr]
      refine z_istore dL_law_379 (zle rfl) rfl (q := 381) rfl ?_
      refine z_iload_n (i := 2) dL_law_381 rfl rfl (q := 382) rfl ?_
      refine z_if_eq (tgt := 471) dL_law_382 (by decide) (q := 385) rfl (fun h382 => absurd h382 (by decide)) (fun h382 => ?_)
      refine z_iload dL_law_385 rfl (q := 387) rfl ?_
      refine z_iload dL_law_387 rfl (q := 389) rfl ?_
      refine z_bipush (v := 108) dL_law_389 rfl (q := 391) rfl ?_
      refine z_icmp_ne (tgt := 400) dL_law_391 (by decide) (q := 394) rfl (fun h391 => ?_) (fun h391 => absurd h391 (by decide))
      refine z_iload dL_law_400 rfl (q := 402) rfl ?_
      refine z_bipush (v := 115) dL_law_402 rfl (q := 404) rfl ?_
      refine z_icmp_ne (tgt := 413) dL_law_404 (by decide) (q := 407) rfl (fun h404 => ?_) (fun h404 => absurd h404 (by decide))
      refine z_iload dL_law_413 rfl (q := 415) rfl ?_
      refine z_bipush (v := 111) dL_law_415 rfl (q := 417) rfl ?_
      refine z_icmp_ne (tgt := 426) dL_law_417 (by decide) (q := 420) rfl (fun h417 => ?_) (fun h417 => absurd h417 (by decide))
      refine z_iload dL_law_426 rfl (q := 428) rfl ?_
      refine z_icmp_ne (tgt := 471) dL_law_428 (by decide) (q := 431) rfl (fun h428 => absurd h428 (fun h9 => h9 rfl)) (fun h428 => ?_)
      refine z_iload dL_law_431 rfl (q := 433) rfl ?_
      refine z_bipush (v := 110) dL_law_433 rfl (q := 435) rfl ?_
      refine z_icmp_ne (tgt := 467) dL_law_435 (by decide) (q := 438) rfl (fun h435 => absurd h435 (by decide)) (fun h435 => ?_)
      refine z_iload dL_law_438 rfl (q := 440) rfl ?_
      refine z_if_lt (tgt := 471) dL_law_440 (by decide) (q := 443) rfl (fun h440 => absurd h440 hv) (fun h440 => ?_)
      refine z_aload_n (i := 1) dL_law_443 rfl rfl (q := 444) rfl ?_
      refine z_iload dL_law_444 rfl (q := 446) rfl ?_
      refine z_iconst (v := 0) dL_law_446 rfl (q := 447) rfl ?_
      refine z_callSA (As := [_, _, _]) dL_law_447 kL_154 (l_start (k := v320) (t := 0) hI3 (keep0_refl X3) hv320 (by decide)) rfl (zle rfl) ⟨zle rfl, zle rfl⟩ ⟨by omega, by omega⟩ (q := 450) rfl (fun hE447 X447 hk447 => ?_)
      refine z_iload dL_law_450 rfl (q := 452) rfl ?_
      refine z_icmp_ne (tgt := 471) dL_law_452 (by decide) (q := 455) rfl (fun h452 => absurd h452 (fun h9 => h9 hx)) (fun h452 => ?_)
      refine z_aload_n (i := 1) dL_law_455 rfl rfl (q := 456) rfl ?_
      refine z_iload dL_law_456 rfl (q := 458) rfl ?_
      refine z_iconst (v := 1) dL_law_458 rfl (q := 459) rfl ?_
      refine z_callSA (As := [_, _, _]) dL_law_459 kL_154 (l_start (k := v320) (t := 1) hI3 hk447 hv320 (by decide)) rfl (zle rfl) ⟨zle rfl, zle rfl⟩ ⟨by omega, by omega⟩ (q := 462) rfl (fun hE459 X459 hk459 => ?_)
      refine z_iload dL_law_462 rfl (q := 464) rfl ?_
      refine z_icmp_ne (tgt := 471) dL_law_464 (by decide) (q := 467) rfl (fun h464 => absurd h464 (fun h9 => h9 hy)) (fun h464 => ?_)
      refine z_iconst (v := 1) dL_law_467 rfl (q := 468) rfl ?_
      refine z_goto (tgt := 472) dL_law_468 (by decide) ?_
      refine z_istore_n (i := 2) dL_law_472 rfl (zle rfl) rfl (q := 473) rfl ?_
      refine z_iload_n (i := 2) dL_law_473 rfl rfl (q := 474) rfl ?_
      refine z_if_eq (tgt := 489) dL_law_474 (by decide) (q := 477) rfl (fun h474 => absurd h474 (by decide)) (fun h474 => ?_)
      refine z_aload_n (i := 1) dL_law_477 rfl rfl (q := 478) rfl ?_
      refine z_iload_n (i := 3) dL_law_478 rfl rfl (q := 479) rfl ?_
      refine z_callSA (As := [_, _]) dL_law_479 kL_171 (c_L_areOn (n := n) hI3 hk459) rfl (zle rfl) ⟨zle rfl, zle rfl⟩ ⟨by omega, by omega⟩ (q := 482) rfl (fun hE479 X479 hk479 => ?_)
      refine z_if_eq (tgt := 489) dL_law_482 (by decide) (q := 485) rfl (fun h482 => absurd h482 (by decide)) (fun h482 => ?_)
      refine z_iconst (v := 1) dL_law_485 rfl (q := 486) rfl ?_
      refine z_goto (tgt := 490) dL_law_486 (by decide) ?_
      refine z_istore_n (i := 2) dL_law_490 rfl (zle rfl) rfl (q := 491) rfl ?_
      refine z_iinc (v := nI (k + 1)) dL_law_491 rfl (nI_add _ _) (zle rfl) rfl (q := 494) rfl ?_
      refine z_goto (tgt := 251) dL_law_494 (by decide) ?_
      exact Z.widen (by omega) (by omega) (kk _ _ _ _ _ _ _ (inv_keep hk479 hI3))
set_option maxRecDepth 100000 in
set_option maxHeartbeats 4000000 in
theorem law_251_A {n nw : Nat} (hL : G.L ≤ 260) : ∀ (m k : Nat), k + m = 4 → ∀ (X : zX) (e6 e7 e8 e9 e10 e11 : Option Value), inv X n nw → Z G mL_law room_1 (3000 + 1000 * k) (30000 + 10000 * k) 251 [some (.ref zSI), some (.ref 0), some (.int 1), some (.int (nI n)), some (.int (-1)), some (.int (nI k)), e6, e7, e8, e9, e10, e11] [] (zw X [] O) PL := by
  obtain ⟨hr1, hr2⟩ := hroom
  intro m
  induction m with
  | zero =>
    intro k hk0 X e6 e7 e8 e9 e10 e11 hI
    have h4 := hI.1
    refine z_iload dL_law_251 rfl (q := 253) rfl ?_
    refine z_iconst (v := 4) dL_law_253 rfl (q := 254) rfl ?_
    refine z_icmp_ge (tgt := 497) dL_law_254 (by decide) (q := 257) rfl (fun h254 => ?_) (fun h254 => absurd (nI_le (a := 4) (b := k) (by omega) (by omega)) h254)
    exact law_end hI ⟨by omega, by omega⟩
  | succ m ih =>
    intro k hk0 X e6 e7 e8 e9 e10 e11 hI
    have h4 := hI.1
    refine z_iload dL_law_251 rfl (q := 253) rfl ?_
    refine z_iconst (v := 4) dL_law_253 rfl (q := 254) rfl ?_
    refine z_icmp_ge (tgt := 497) dL_law_254 (by decide) (q := 257) rfl (fun h254 => absurd h254 (nI_ge (a := k) (b := 4) (by omega) (by omega))) (fun h254 => ?_)
    refine z_iload_n (i := 2) dL_law_257 rfl rfl (q := 258) rfl ?_
    refine z_if_eq (tgt := 497) dL_law_258 (by decide) (q := 261) rfl (fun h258 => absurd h258 (by decide)) (fun h258 => ?_)
    refine z_aload_n (i := 0) dL_law_261 rfl rfl (q := 262) rfl ?_
    refine z_iconst (v := 3) dL_law_262 rfl (q := 263) rfl ?_
    refine z_iload dL_law_263 rfl (q := 265) rfl ?_
    refine z_iadd dL_law_265 (q := 266) rfl ?_
    rw [show (3 : Int32) + nI (k) = nI (3 + k) from nI_add (3) (k)]
    refine z_iconst (v := 2) dL_law_266 rfl (q := 267) rfl ?_
    refine z_callSP (i := (3 + k)) (m := 2) dL_law_267 kL_141 rfl hL (by omega) (by omega) (by omega) rfl (zle rfl) ⟨zle rfl, zle rfl⟩ ⟨by omega, by omega⟩ (q := 270) rfl (fun v267 hv267 => ?_)
    refine z_istore dL_law_270 (zle rfl) rfl (q := 272) rfl ?_
    refine z_aload_n (i := 0) dL_law_272 rfl rfl (q := 273) rfl ?_
    refine z_sipush (v := 150) dL_law_273 rfl (q := 276) rfl ?_
    refine z_iload dL_law_276 rfl (q := 278) rfl ?_
    refine z_iadd dL_law_278 (q := 279) rfl ?_
    rw [show (150 : Int32) + nI (k) = nI (150 + k) from nI_add (150) (k)]
    refine z_iconst (v := 2) dL_law_279 rfl (q := 280) rfl ?_
    refine z_callSP (i := (150 + k)) (m := 2) dL_law_280 kL_141 rfl hL (by omega) (by omega) (by omega) rfl (zle rfl) ⟨zle rfl, zle rfl⟩ ⟨by omega, by omega⟩ (q := 283) rfl (fun v280 hv280 => ?_)
    refine z_if_ne (tgt := 298) dL_law_283 (by decide) (q := 286) rfl (fun h283 => ?_) (fun h283 => ?_)
    · refine z_aload_n (i := 1) dL_law_298 rfl rfl (q := 299) rfl ?_
      refine z_iload_n (i := 3) dL_law_299 rfl rfl (q := 300) rfl ?_
      refine z_iload dL_law_300 rfl (q := 302) rfl ?_
      refine z_iload dL_law_302 rfl (q := 304) rfl ?_
      refine z_callSD (As := [_, _, _, _]) dL_law_304 kL_183 (l_sprA (t := v267) hI (keep0_refl X) hv267) rfl (zle rfl) ⟨zle rfl, zle rfl⟩ ⟨by omega, by omega⟩ (q := 307) rfl (fun X4 hm => ?_)
      refine z_istore_n (i := 2) dL_law_307 rfl (zle rfl) rfl (q := 308) rfl ?_
      exact law_308_A hL hm.1 (by omega) ⟨by omega, by omega⟩ (fun X5 _ _ _ _ _ _ hI5 => Z.widen (by omega) (by omega) (ih (k + 1) (by omega) X5 _ _ _ _ _ _ hI5))
    · refine z_aload_n (i := 1) dL_law_286 rfl rfl (q := 287) rfl ?_
      refine z_iload_n (i := 3) dL_law_287 rfl rfl (q := 288) rfl ?_
      refine z_iload dL_law_288 rfl (q := 290) rfl ?_
      refine z_iload dL_law_290 rfl (q := 292) rfl ?_
      refine z_callSD (As := [_, _, _, _]) dL_law_292 kL_179 (l_tidA (t := v267) hI (keep0_refl X) hv267) rfl (zle rfl) ⟨zle rfl, zle rfl⟩ ⟨by omega, by omega⟩ (q := 295) rfl (fun X4 hm => ?_)
      refine z_goto (tgt := 307) dL_law_295 (by decide) ?_
      refine z_istore_n (i := 2) dL_law_307 rfl (zle rfl) rfl (q := 308) rfl ?_
      exact law_308_A hL hm.1 (by omega) ⟨by omega, by omega⟩ (fun X5 _ _ _ _ _ _ hI5 => Z.widen (by omega) (by omega) (ih (k + 1) (by omega) X5 _ _ _ _ _ _ hI5))
set_option maxRecDepth 100000 in
set_option maxHeartbeats 4000000 in
theorem law_223_A {n nw : Nat} {e5 e6 e7 e8 e9 e10 e11 : Option Value} (hL : G.L ≤ 260) (hI : inv X n nw) : Z G mL_law room_1 2000 20000 223 [some (.ref zSI), some (.ref 0), some (.int 1), some (.int (nI n)), some (.int (-1)), e5, e6, e7, e8, e9, e10, e11] [] (zw X [] O) PL := by
  obtain ⟨hr1, hr2⟩ := hroom
  have h4 := hI.1
  refine z_iload_n (i := 2) dL_law_223 rfl rfl (q := 224) rfl ?_
  refine z_if_eq (tgt := 246) dL_law_224 (by decide) (q := 227) rfl (fun h224 => absurd h224 (by decide)) (fun h224 => ?_)
  refine z_aload_n (i := 1) dL_law_227 rfl rfl (q := 228) rfl ?_
  refine z_iload_n (i := 3) dL_law_228 rfl rfl (q := 229) rfl ?_
  refine z_callSA (As := [_, _]) dL_law_229 kL_171 (c_L_areOn (n := n) hI (keep0_refl X)) rfl (zle rfl) ⟨zle rfl, zle rfl⟩ ⟨by omega, by omega⟩ (q := 232) rfl (fun hE229 X229 hk229 => ?_)
  refine z_if_eq (tgt := 246) dL_law_232 (by decide) (q := 235) rfl (fun h232 => absurd h232 (by decide)) (fun h232 => ?_)
  refine z_aload_n (i := 1) dL_law_235 rfl rfl (q := 236) rfl ?_
  refine z_callSA (As := [_]) dL_law_236 kL_175 (c_L_areWays hI hk229) rfl (zle rfl) ⟨zle rfl, zle rfl⟩ ⟨by omega, by omega⟩ (q := 239) rfl (fun hE236 X236 hk236 => ?_)
  refine z_if_eq (tgt := 246) dL_law_239 (by decide) (q := 242) rfl (fun h239 => absurd h239 (by decide)) (fun h239 => ?_)
  refine z_iconst (v := 1) dL_law_242 rfl (q := 243) rfl ?_
  refine z_goto (tgt := 247) dL_law_243 (by decide) ?_
  refine z_istore_n (i := 2) dL_law_247 rfl (zle rfl) rfl (q := 248) rfl ?_
  refine z_iconst (v := 0) dL_law_248 rfl (q := 249) rfl ?_
  refine z_istore dL_law_249 (zle rfl) rfl (q := 251) rfl ?_
  exact Z.widen (k2 := 3000 + 1000 * 0) (n2 := 30000 + 10000 * 0) (by omega) (by omega) (law_251_A hL 4 0 (by omega) _ _ _ _ _ _ _ (inv_keep hk236 hI))
set_option maxRecDepth 100000 in
set_option maxHeartbeats 4000000 in
theorem law_308_B {n nw k k0 n0 lk : Nat} {z6 : Int32} {e7 e8 e9 e10 e11 : Option Value} (hL : G.L ≤ 260) (hI : inv X n nw) (hk4 : k < 4) (hlk : lk < n) (hll : ¬ X.2.1 4 lk = 0) (hr : k0 ≤ 8000 ∧ n0 ≤ 80000) (kk : ∀ (X5 : zX) (e6 e7 e8 e9 e10 e11 : Option Value), inv X5 n nw → ¬ X5.2.1 4 lk = 0 → Z G mL_law room_1 (k0 + 500) (n0 + 5000) 251 [some (.ref zSI), some (.ref 0), some (.int 1), some (.int (nI n)), some (.int (nI lk)), some (.int (nI (k + 1))), e6, e7, e8, e9, e10, e11] [] (zw X5 [] O) PL) : Z G mL_law room_1 k0 n0 308 [some (.ref zSI), some (.ref 0), some (.int 1), some (.int (nI n)), some (.int (nI lk)), some (.int (nI k)), some (.int z6), e7, e8, e9, e10, e11] [] (zw X [] O) PL := by
  obtain ⟨hr1, hr2⟩ := hroom
  have h4 := hI.1
  refine z_iload_n (i := 3) dL_law_308 rfl rfl (q := 309) rfl ?_
  refine z_if_le (tgt := 473) dL_law_309 (by decide) (q := 312) rfl (fun h309 => absurd h309 (nI_nle (show 0 < n by omega) (by omega))) (fun h309 => ?_)
  refine z_aload_n (i := 0) dL_law_312 rfl rfl (q := 313) rfl ?_
  refine z_sipush (v := 160) dL_law_313 rfl (q := 316) rfl ?_
  refine z_iload dL_law_316 rfl (q := 318) rfl ?_
  refine z_iadd dL_law_318 (q := 319) rfl ?_
  rw [show (160 : Int32) + nI (k) = nI (160 + k) from nI_add (160) (k)]
  refine z_iload_n (i := 3) dL_law_319 rfl rfl (q := 320) rfl ?_
  refine z_callSP (i := (160 + k)) (m := n) dL_law_320 kL_141 rfl hL (by omega) (by omega) (by omega) rfl (zle rfl) ⟨zle rfl, zle rfl⟩ ⟨by omega, by omega⟩ (q := 323) rfl (fun v320 hv320 => ?_)
  refine z_istore dL_law_323 (zle rfl) rfl (q := 325) rfl ?_
  refine z_aload_n (i := 0) dL_law_325 rfl rfl (q := 326) rfl ?_
  refine z_sipush (v := 170) dL_law_326 rfl (q := 329) rfl ?_
  refine z_iload dL_law_329 rfl (q := 331) rfl ?_
  refine z_iadd dL_law_331 (q := 332) rfl ?_
  rw [show (170 : Int32) + nI (k) = nI (170 + k) from nI_add (170) (k)]
  refine z_sipush (v := 201) dL_law_332 rfl (q := 335) rfl ?_
  refine z_callSP (i := (170 + k)) (m := 201) dL_law_335 kL_141 rfl hL (by omega) (by omega) (by omega) rfl (zle rfl) ⟨zle rfl, zle rfl⟩ ⟨by omega, by omega⟩ (q := 338) rfl (fun v335 hv335 => ?_)
  refine z_istore dL_law_338 (zle rfl) rfl (q := 340) rfl ?_
  refine z_aload_n (i := 0) dL_law_340 rfl rfl (q := 341) rfl ?_
  refine z_sipush (v := 180) dL_law_341 rfl (q := 344) rfl ?_
  refine z_iload dL_law_344 rfl (q := 346) rfl ?_
  refine z_iadd dL_law_346 (q := 347) rfl ?_
  rw [show (180 : Int32) + nI (k) = nI (180 + k) from nI_add (180) (k)]
  refine z_bipush (v := 121) dL_law_347 rfl (q := 349) rfl ?_
  refine z_callSP (i := (180 + k)) (m := 121) dL_law_349 kL_141 rfl hL (by omega) (by omega) (by omega) rfl (zle rfl) ⟨zle rfl, zle rfl⟩ ⟨by omega, by omega⟩ (q := 352) rfl (fun v349 hv349 => ?_)
  refine z_istore dL_law_352 (zle rfl) rfl (q := 354) rfl ?_
  refine z_aload_n (i := 1) dL_law_354 rfl rfl (q := 355) rfl ?_
  refine z_iconst (v := 2) dL_law_355 rfl (q := 356) rfl ?_
  refine z_iload dL_law_356 rfl (q := 358) rfl ?_
  refine z_iload dL_law_358 rfl (q := 360) rfl ?_
  refine z_iload dL_law_360 rfl (q := 362) rfl ?_
  refine z_callSWA (As := [_, _, _, _, _]) dL_law_362 kL_151 (a_reason (k := v320) (l := nI v335) (t := nI v349) hI (keep0_refl X) hv320) rfl (zle rfl) ⟨zle rfl, zle rfl⟩ ⟨by omega, by omega⟩ (q := 365) rfl (fun hE362 X362 hk362 => ?_)
  refine z_istore dL_law_365 (zle rfl) rfl (q := 367) rfl ?_
  refine z_aload_n (i := 1) dL_law_367 rfl rfl (q := 368) rfl ?_
  refine z_iconst (v := 2) dL_law_368 rfl (q := 369) rfl ?_
  refine z_iload dL_law_369 rfl (q := 371) rfl ?_
  refine z_iload dL_law_371 rfl (q := 373) rfl ?_
  refine z_iload dL_law_373 rfl (q := 375) rfl ?_
  refine z_iconst (v := 0) dL_law_375 rfl (q := 376) rfl ?_
  refine z_callSWI (As := [_, _, _, _, _, _]) dL_law_376 kL_145 (d_move (k := v320) (l := v335) (t := v349) hI hk362 hv320 (by omega) (by omega)) mvP_int rfl (zle rfl) ⟨zle rfl, zle rfl⟩ ⟨by omega, by omega⟩ (q := 379) rfl (fun v376 w376 hw376 => ?_)
  obtain ⟨v, X3, h9, rfl, hI3, he4, hc⟩ := hw376
  cases h9
  rcases hc with ⟨hr, hv⟩ | ⟨hr, hv⟩ | ⟨hr, hv⟩ | ⟨hr, hv, hx, hy⟩
  · subst hv
    rw [hr]
    refine z_istore dL_law_379 (zle rfl) rfl (q := 381) rfl ?_
    refine z_iload_n (i := 2) dL_law_381 rfl rfl (q := 382) rfl ?_
    refine z_if_eq (tgt := 471) dL_law_382 (by decide) (q := 385) rfl (fun h382 => absurd h382 (by decide)) (fun h382 => ?_)
    refine z_iload dL_law_385 rfl (q := 387) rfl ?_
    refine z_iload dL_law_387 rfl (q := 389) rfl ?_
    refine z_bipush (v := 108) dL_law_389 rfl (q := 391) rfl ?_
    refine z_icmp_ne (tgt := 400) dL_law_391 (by decide) (q := 394) rfl (fun h391 => absurd h391 (by decide)) (fun h391 => ?_)
    refine z_sipush (v := (-2003)) dL_law_394 rfl (q := 397) rfl ?_
    refine z_goto (tgt := 428) dL_law_397 (by decide) ?_
    refine z_icmp_ne (tgt := 471) dL_law_428 (by decide) (q := 431) rfl (fun h428 => absurd h428 (by decide)) (fun h428 => ?_)
    refine z_iload dL_law_431 rfl (q := 433) rfl ?_
    refine z_bipush (v := 110) dL_law_433 rfl (q := 435) rfl ?_
    refine z_icmp_ne (tgt := 467) dL_law_435 (by decide) (q := 438) rfl (fun h435 => ?_) (fun h435 => absurd h435 (by decide))
    refine z_iconst (v := 1) dL_law_467 rfl (q := 468) rfl ?_
    refine z_goto (tgt := 472) dL_law_468 (by decide) ?_
    refine z_istore_n (i := 2) dL_law_472 rfl (zle rfl) rfl (q := 473) rfl ?_
    refine z_iload_n (i := 2) dL_law_473 rfl rfl (q := 474) rfl ?_
    refine z_if_eq (tgt := 489) dL_law_474 (by decide) (q := 477) rfl (fun h474 => absurd h474 (by decide)) (fun h474 => ?_)
    refine z_aload_n (i := 1) dL_law_477 rfl rfl (q := 478) rfl ?_
    refine z_iload_n (i := 3) dL_law_478 rfl rfl (q := 479) rfl ?_
    refine z_callSA (As := [_, _]) dL_law_479 kL_171 (c_L_areOn (n := n) hI3 (keep0_refl X3)) rfl (zle rfl) ⟨zle rfl, zle rfl⟩ ⟨by omega, by omega⟩ (q := 482) rfl (fun hE479 X479 hk479 => ?_)
    refine z_if_eq (tgt := 489) dL_law_482 (by decide) (q := 485) rfl (fun h482 => absurd h482 (by decide)) (fun h482 => ?_)
    refine z_iconst (v := 1) dL_law_485 rfl (q := 486) rfl ?_
    refine z_goto (tgt := 490) dL_law_486 (by decide) ?_
    refine z_istore_n (i := 2) dL_law_490 rfl (zle rfl) rfl (q := 491) rfl ?_
    refine z_iinc (v := nI (k + 1)) dL_law_491 rfl (nI_add _ _) (zle rfl) rfl (q := 494) rfl ?_
    refine z_goto (tgt := 251) dL_law_494 (by decide) ?_
    exact Z.widen (by omega) (by omega) (kk _ _ _ _ _ _ _ (inv_keep hk479 hI3) (by rw [(hk479.1 4 (by decide)).2, he4]; exact hll))
  · subst hv
    rw [hr]
    refine z_istore dL_law_379 (zle rfl) rfl (q := 381) rfl ?_
    refine z_iload_n (i := 2) dL_law_381 rfl rfl (q := 382) rfl ?_
    refine z_if_eq (tgt := 471) dL_law_382 (by decide) (q := 385) rfl (fun h382 => absurd h382 (by decide)) (fun h382 => ?_)
    refine z_iload dL_law_385 rfl (q := 387) rfl ?_
    refine z_iload dL_law_387 rfl (q := 389) rfl ?_
    refine z_bipush (v := 108) dL_law_389 rfl (q := 391) rfl ?_
    refine z_icmp_ne (tgt := 400) dL_law_391 (by decide) (q := 394) rfl (fun h391 => ?_) (fun h391 => absurd h391 (by decide))
    refine z_iload dL_law_400 rfl (q := 402) rfl ?_
    refine z_bipush (v := 115) dL_law_402 rfl (q := 404) rfl ?_
    refine z_icmp_ne (tgt := 413) dL_law_404 (by decide) (q := 407) rfl (fun h404 => absurd h404 (by decide)) (fun h404 => ?_)
    refine z_sipush (v := (-2002)) dL_law_407 rfl (q := 410) rfl ?_
    refine z_goto (tgt := 428) dL_law_410 (by decide) ?_
    refine z_icmp_ne (tgt := 471) dL_law_428 (by decide) (q := 431) rfl (fun h428 => absurd h428 (by decide)) (fun h428 => ?_)
    refine z_iload dL_law_431 rfl (q := 433) rfl ?_
    refine z_bipush (v := 110) dL_law_433 rfl (q := 435) rfl ?_
    refine z_icmp_ne (tgt := 467) dL_law_435 (by decide) (q := 438) rfl (fun h435 => ?_) (fun h435 => absurd h435 (by decide))
    refine z_iconst (v := 1) dL_law_467 rfl (q := 468) rfl ?_
    refine z_goto (tgt := 472) dL_law_468 (by decide) ?_
    refine z_istore_n (i := 2) dL_law_472 rfl (zle rfl) rfl (q := 473) rfl ?_
    refine z_iload_n (i := 2) dL_law_473 rfl rfl (q := 474) rfl ?_
    refine z_if_eq (tgt := 489) dL_law_474 (by decide) (q := 477) rfl (fun h474 => absurd h474 (by decide)) (fun h474 => ?_)
    refine z_aload_n (i := 1) dL_law_477 rfl rfl (q := 478) rfl ?_
    refine z_iload_n (i := 3) dL_law_478 rfl rfl (q := 479) rfl ?_
    refine z_callSA (As := [_, _]) dL_law_479 kL_171 (c_L_areOn (n := n) hI3 (keep0_refl X3)) rfl (zle rfl) ⟨zle rfl, zle rfl⟩ ⟨by omega, by omega⟩ (q := 482) rfl (fun hE479 X479 hk479 => ?_)
    refine z_if_eq (tgt := 489) dL_law_482 (by decide) (q := 485) rfl (fun h482 => absurd h482 (by decide)) (fun h482 => ?_)
    refine z_iconst (v := 1) dL_law_485 rfl (q := 486) rfl ?_
    refine z_goto (tgt := 490) dL_law_486 (by decide) ?_
    refine z_istore_n (i := 2) dL_law_490 rfl (zle rfl) rfl (q := 491) rfl ?_
    refine z_iinc (v := nI (k + 1)) dL_law_491 rfl (nI_add _ _) (zle rfl) rfl (q := 494) rfl ?_
    refine z_goto (tgt := 251) dL_law_494 (by decide) ?_
    exact Z.widen (by omega) (by omega) (kk _ _ _ _ _ _ _ (inv_keep hk479 hI3) (by rw [(hk479.1 4 (by decide)).2, he4]; exact hll))
  · subst hv
    rw [hr]
    refine z_istore dL_law_379 (zle rfl) rfl (q := 381) rfl ?_
    refine z_iload_n (i := 2) dL_law_381 rfl rfl (q := 382) rfl ?_
    refine z_if_eq (tgt := 471) dL_law_382 (by decide) (q := 385) rfl (fun h382 => absurd h382 (by decide)) (fun h382 => ?_)
    refine z_iload dL_law_385 rfl (q := 387) rfl ?_
    refine z_iload dL_law_387 rfl (q := 389) rfl ?_
    refine z_bipush (v := 108) dL_law_389 rfl (q := 391) rfl ?_
    refine z_icmp_ne (tgt := 400) dL_law_391 (by decide) (q := 394) rfl (fun h391 => ?_) (fun h391 => absurd h391 (by decide))
    refine z_iload dL_law_400 rfl (q := 402) rfl ?_
    refine z_bipush (v := 115) dL_law_402 rfl (q := 404) rfl ?_
    refine z_icmp_ne (tgt := 413) dL_law_404 (by decide) (q := 407) rfl (fun h404 => ?_) (fun h404 => absurd h404 (by decide))
    refine z_iload dL_law_413 rfl (q := 415) rfl ?_
    refine z_bipush (v := 111) dL_law_415 rfl (q := 417) rfl ?_
    refine z_icmp_ne (tgt := 426) dL_law_417 (by decide) (q := 420) rfl (fun h417 => absurd h417 (by decide)) (fun h417 => ?_)
    refine z_sipush (v := (-2004)) dL_law_420 rfl (q := 423) rfl ?_
    refine z_goto (tgt := 428) dL_law_423 (by decide) ?_
    refine z_icmp_ne (tgt := 471) dL_law_428 (by decide) (q := 431) rfl (fun h428 => absurd h428 (by decide)) (fun h428 => ?_)
    refine z_iload dL_law_431 rfl (q := 433) rfl ?_
    refine z_bipush (v := 110) dL_law_433 rfl (q := 435) rfl ?_
    refine z_icmp_ne (tgt := 467) dL_law_435 (by decide) (q := 438) rfl (fun h435 => ?_) (fun h435 => absurd h435 (by decide))
    refine z_iconst (v := 1) dL_law_467 rfl (q := 468) rfl ?_
    refine z_goto (tgt := 472) dL_law_468 (by decide) ?_
    refine z_istore_n (i := 2) dL_law_472 rfl (zle rfl) rfl (q := 473) rfl ?_
    refine z_iload_n (i := 2) dL_law_473 rfl rfl (q := 474) rfl ?_
    refine z_if_eq (tgt := 489) dL_law_474 (by decide) (q := 477) rfl (fun h474 => absurd h474 (by decide)) (fun h474 => ?_)
    refine z_aload_n (i := 1) dL_law_477 rfl rfl (q := 478) rfl ?_
    refine z_iload_n (i := 3) dL_law_478 rfl rfl (q := 479) rfl ?_
    refine z_callSA (As := [_, _]) dL_law_479 kL_171 (c_L_areOn (n := n) hI3 (keep0_refl X3)) rfl (zle rfl) ⟨zle rfl, zle rfl⟩ ⟨by omega, by omega⟩ (q := 482) rfl (fun hE479 X479 hk479 => ?_)
    refine z_if_eq (tgt := 489) dL_law_482 (by decide) (q := 485) rfl (fun h482 => absurd h482 (by decide)) (fun h482 => ?_)
    refine z_iconst (v := 1) dL_law_485 rfl (q := 486) rfl ?_
    refine z_goto (tgt := 490) dL_law_486 (by decide) ?_
    refine z_istore_n (i := 2) dL_law_490 rfl (zle rfl) rfl (q := 491) rfl ?_
    refine z_iinc (v := nI (k + 1)) dL_law_491 rfl (nI_add _ _) (zle rfl) rfl (q := 494) rfl ?_
    refine z_goto (tgt := 251) dL_law_494 (by decide) ?_
    exact Z.widen (by omega) (by omega) (kk _ _ _ _ _ _ _ (inv_keep hk479 hI3) (by rw [(hk479.1 4 (by decide)).2, he4]; exact hll))
  · skip
    rw [hr]
    refine z_istore dL_law_379 (zle rfl) rfl (q := 381) rfl ?_
    refine z_iload_n (i := 2) dL_law_381 rfl rfl (q := 382) rfl ?_
    refine z_if_eq (tgt := 471) dL_law_382 (by decide) (q := 385) rfl (fun h382 => absurd h382 (by decide)) (fun h382 => ?_)
    refine z_iload dL_law_385 rfl (q := 387) rfl ?_
    refine z_iload dL_law_387 rfl (q := 389) rfl ?_
    refine z_bipush (v := 108) dL_law_389 rfl (q := 391) rfl ?_
    refine z_icmp_ne (tgt := 400) dL_law_391 (by decide) (q := 394) rfl (fun h391 => ?_) (fun h391 => absurd h391 (by decide))
    refine z_iload dL_law_400 rfl (q := 402) rfl ?_
    refine z_bipush (v := 115) dL_law_402 rfl (q := 404) rfl ?_
    refine z_icmp_ne (tgt := 413) dL_law_404 (by decide) (q := 407) rfl (fun h404 => ?_) (fun h404 => absurd h404 (by decide))
    refine z_iload dL_law_413 rfl (q := 415) rfl ?_
    refine z_bipush (v := 111) dL_law_415 rfl (q := 417) rfl ?_
    refine z_icmp_ne (tgt := 426) dL_law_417 (by decide) (q := 420) rfl (fun h417 => ?_) (fun h417 => absurd h417 (by decide))
    refine z_iload dL_law_426 rfl (q := 428) rfl ?_
    refine z_icmp_ne (tgt := 471) dL_law_428 (by decide) (q := 431) rfl (fun h428 => absurd h428 (fun h9 => h9 rfl)) (fun h428 => ?_)
    refine z_iload dL_law_431 rfl (q := 433) rfl ?_
    refine z_bipush (v := 110) dL_law_433 rfl (q := 435) rfl ?_
    refine z_icmp_ne (tgt := 467) dL_law_435 (by decide) (q := 438) rfl (fun h435 => absurd h435 (by decide)) (fun h435 => ?_)
    refine z_iload dL_law_438 rfl (q := 440) rfl ?_
    refine z_if_lt (tgt := 471) dL_law_440 (by decide) (q := 443) rfl (fun h440 => absurd h440 hv) (fun h440 => ?_)
    refine z_aload_n (i := 1) dL_law_443 rfl rfl (q := 444) rfl ?_
    refine z_iload dL_law_444 rfl (q := 446) rfl ?_
    refine z_iconst (v := 0) dL_law_446 rfl (q := 447) rfl ?_
    refine z_callSA (As := [_, _, _]) dL_law_447 kL_154 (l_start (k := v320) (t := 0) hI3 (keep0_refl X3) hv320 (by decide)) rfl (zle rfl) ⟨zle rfl, zle rfl⟩ ⟨by omega, by omega⟩ (q := 450) rfl (fun hE447 X447 hk447 => ?_)
    refine z_iload dL_law_450 rfl (q := 452) rfl ?_
    refine z_icmp_ne (tgt := 471) dL_law_452 (by decide) (q := 455) rfl (fun h452 => absurd h452 (fun h9 => h9 hx)) (fun h452 => ?_)
    refine z_aload_n (i := 1) dL_law_455 rfl rfl (q := 456) rfl ?_
    refine z_iload dL_law_456 rfl (q := 458) rfl ?_
    refine z_iconst (v := 1) dL_law_458 rfl (q := 459) rfl ?_
    refine z_callSA (As := [_, _, _]) dL_law_459 kL_154 (l_start (k := v320) (t := 1) hI3 hk447 hv320 (by decide)) rfl (zle rfl) ⟨zle rfl, zle rfl⟩ ⟨by omega, by omega⟩ (q := 462) rfl (fun hE459 X459 hk459 => ?_)
    refine z_iload dL_law_462 rfl (q := 464) rfl ?_
    refine z_icmp_ne (tgt := 471) dL_law_464 (by decide) (q := 467) rfl (fun h464 => absurd h464 (fun h9 => h9 hy)) (fun h464 => ?_)
    refine z_iconst (v := 1) dL_law_467 rfl (q := 468) rfl ?_
    refine z_goto (tgt := 472) dL_law_468 (by decide) ?_
    refine z_istore_n (i := 2) dL_law_472 rfl (zle rfl) rfl (q := 473) rfl ?_
    refine z_iload_n (i := 2) dL_law_473 rfl rfl (q := 474) rfl ?_
    refine z_if_eq (tgt := 489) dL_law_474 (by decide) (q := 477) rfl (fun h474 => absurd h474 (by decide)) (fun h474 => ?_)
    refine z_aload_n (i := 1) dL_law_477 rfl rfl (q := 478) rfl ?_
    refine z_iload_n (i := 3) dL_law_478 rfl rfl (q := 479) rfl ?_
    refine z_callSA (As := [_, _]) dL_law_479 kL_171 (c_L_areOn (n := n) hI3 hk459) rfl (zle rfl) ⟨zle rfl, zle rfl⟩ ⟨by omega, by omega⟩ (q := 482) rfl (fun hE479 X479 hk479 => ?_)
    refine z_if_eq (tgt := 489) dL_law_482 (by decide) (q := 485) rfl (fun h482 => absurd h482 (by decide)) (fun h482 => ?_)
    refine z_iconst (v := 1) dL_law_485 rfl (q := 486) rfl ?_
    refine z_goto (tgt := 490) dL_law_486 (by decide) ?_
    refine z_istore_n (i := 2) dL_law_490 rfl (zle rfl) rfl (q := 491) rfl ?_
    refine z_iinc (v := nI (k + 1)) dL_law_491 rfl (nI_add _ _) (zle rfl) rfl (q := 494) rfl ?_
    refine z_goto (tgt := 251) dL_law_494 (by decide) ?_
    exact Z.widen (by omega) (by omega) (kk _ _ _ _ _ _ _ (inv_keep hk479 hI3) (by rw [(hk479.1 4 (by decide)).2, he4]; exact hll))
set_option maxRecDepth 100000 in
set_option maxHeartbeats 4000000 in
theorem law_251_B {n nw lk : Nat} (hL : G.L ≤ 260) (hlk : lk < n) : ∀ (m k : Nat), k + m = 4 → ∀ (X : zX) (e6 e7 e8 e9 e10 e11 : Option Value), inv X n nw → ¬ X.2.1 4 lk = 0 → Z G mL_law room_1 (3000 + 1000 * k) (30000 + 10000 * k) 251 [some (.ref zSI), some (.ref 0), some (.int 1), some (.int (nI n)), some (.int (nI lk)), some (.int (nI k)), e6, e7, e8, e9, e10, e11] [] (zw X [] O) PL := by
  obtain ⟨hr1, hr2⟩ := hroom
  intro m
  induction m with
  | zero =>
    intro k hk0 X e6 e7 e8 e9 e10 e11 hI hll
    have h4 := hI.1
    refine z_iload dL_law_251 rfl (q := 253) rfl ?_
    refine z_iconst (v := 4) dL_law_253 rfl (q := 254) rfl ?_
    refine z_icmp_ge (tgt := 497) dL_law_254 (by decide) (q := 257) rfl (fun h254 => ?_) (fun h254 => absurd (nI_le (a := 4) (b := k) (by omega) (by omega)) h254)
    exact law_end hI ⟨by omega, by omega⟩
  | succ m ih =>
    intro k hk0 X e6 e7 e8 e9 e10 e11 hI hll
    have h4 := hI.1
    refine z_iload dL_law_251 rfl (q := 253) rfl ?_
    refine z_iconst (v := 4) dL_law_253 rfl (q := 254) rfl ?_
    refine z_icmp_ge (tgt := 497) dL_law_254 (by decide) (q := 257) rfl (fun h254 => absurd h254 (nI_ge (a := k) (b := 4) (by omega) (by omega))) (fun h254 => ?_)
    refine z_iload_n (i := 2) dL_law_257 rfl rfl (q := 258) rfl ?_
    refine z_if_eq (tgt := 497) dL_law_258 (by decide) (q := 261) rfl (fun h258 => absurd h258 (by decide)) (fun h258 => ?_)
    refine z_aload_n (i := 0) dL_law_261 rfl rfl (q := 262) rfl ?_
    refine z_iconst (v := 3) dL_law_262 rfl (q := 263) rfl ?_
    refine z_iload dL_law_263 rfl (q := 265) rfl ?_
    refine z_iadd dL_law_265 (q := 266) rfl ?_
    rw [show (3 : Int32) + nI (k) = nI (3 + k) from nI_add (3) (k)]
    refine z_iconst (v := 2) dL_law_266 rfl (q := 267) rfl ?_
    refine z_callSP (i := (3 + k)) (m := 2) dL_law_267 kL_141 rfl hL (by omega) (by omega) (by omega) rfl (zle rfl) ⟨zle rfl, zle rfl⟩ ⟨by omega, by omega⟩ (q := 270) rfl (fun v267 hv267 => ?_)
    refine z_istore dL_law_270 (zle rfl) rfl (q := 272) rfl ?_
    refine z_aload_n (i := 0) dL_law_272 rfl rfl (q := 273) rfl ?_
    refine z_sipush (v := 150) dL_law_273 rfl (q := 276) rfl ?_
    refine z_iload dL_law_276 rfl (q := 278) rfl ?_
    refine z_iadd dL_law_278 (q := 279) rfl ?_
    rw [show (150 : Int32) + nI (k) = nI (150 + k) from nI_add (150) (k)]
    refine z_iconst (v := 2) dL_law_279 rfl (q := 280) rfl ?_
    refine z_callSP (i := (150 + k)) (m := 2) dL_law_280 kL_141 rfl hL (by omega) (by omega) (by omega) rfl (zle rfl) ⟨zle rfl, zle rfl⟩ ⟨by omega, by omega⟩ (q := 283) rfl (fun v280 hv280 => ?_)
    refine z_if_ne (tgt := 298) dL_law_283 (by decide) (q := 286) rfl (fun h283 => ?_) (fun h283 => ?_)
    · refine z_aload_n (i := 1) dL_law_298 rfl rfl (q := 299) rfl ?_
      refine z_iload_n (i := 3) dL_law_299 rfl rfl (q := 300) rfl ?_
      refine z_iload dL_law_300 rfl (q := 302) rfl ?_
      refine z_iload dL_law_302 rfl (q := 304) rfl ?_
      refine z_callSD (As := [_, _, _, _]) dL_law_304 kL_183 (l_sprB (t := v267) hI (keep0_refl X) hv267 hlk hll) rfl (zle rfl) ⟨zle rfl, zle rfl⟩ ⟨by omega, by omega⟩ (q := 307) rfl (fun X4 hm => ?_)
      refine z_istore_n (i := 2) dL_law_307 rfl (zle rfl) rfl (q := 308) rfl ?_
      exact law_308_B hL hm.1 (by omega) hlk (by rw [hm.2]; exact hll) ⟨by omega, by omega⟩ (fun X5 _ _ _ _ _ _ hI5 hl5 => Z.widen (by omega) (by omega) (ih (k + 1) (by omega) X5 _ _ _ _ _ _ hI5 hl5))
    · refine z_aload_n (i := 1) dL_law_286 rfl rfl (q := 287) rfl ?_
      refine z_iload_n (i := 3) dL_law_287 rfl rfl (q := 288) rfl ?_
      refine z_iload dL_law_288 rfl (q := 290) rfl ?_
      refine z_iload dL_law_290 rfl (q := 292) rfl ?_
      refine z_callSD (As := [_, _, _, _]) dL_law_292 kL_179 (l_tidB (t := v267) hI (keep0_refl X) hv267 hlk hll) rfl (zle rfl) ⟨zle rfl, zle rfl⟩ ⟨by omega, by omega⟩ (q := 295) rfl (fun X4 hm => ?_)
      refine z_goto (tgt := 307) dL_law_295 (by decide) ?_
      refine z_istore_n (i := 2) dL_law_307 rfl (zle rfl) rfl (q := 308) rfl ?_
      exact law_308_B hL hm.1 (by omega) hlk (by rw [hm.2]; exact hll) ⟨by omega, by omega⟩ (fun X5 _ _ _ _ _ _ hI5 hl5 => Z.widen (by omega) (by omega) (ih (k + 1) (by omega) X5 _ _ _ _ _ _ hI5 hl5))
set_option maxRecDepth 100000 in
set_option maxHeartbeats 4000000 in
theorem law_223_B {n nw lk : Nat} {e5 e6 e7 e8 e9 e10 e11 : Option Value} (hL : G.L ≤ 260) (hI : inv X n nw) (hlk : lk < n) (hll : ¬ X.2.1 4 lk = 0) : Z G mL_law room_1 2000 20000 223 [some (.ref zSI), some (.ref 0), some (.int 1), some (.int (nI n)), some (.int (nI lk)), e5, e6, e7, e8, e9, e10, e11] [] (zw X [] O) PL := by
  obtain ⟨hr1, hr2⟩ := hroom
  have h4 := hI.1
  refine z_iload_n (i := 2) dL_law_223 rfl rfl (q := 224) rfl ?_
  refine z_if_eq (tgt := 246) dL_law_224 (by decide) (q := 227) rfl (fun h224 => absurd h224 (by decide)) (fun h224 => ?_)
  refine z_aload_n (i := 1) dL_law_227 rfl rfl (q := 228) rfl ?_
  refine z_iload_n (i := 3) dL_law_228 rfl rfl (q := 229) rfl ?_
  refine z_callSA (As := [_, _]) dL_law_229 kL_171 (c_L_areOn (n := n) hI (keep0_refl X)) rfl (zle rfl) ⟨zle rfl, zle rfl⟩ ⟨by omega, by omega⟩ (q := 232) rfl (fun hE229 X229 hk229 => ?_)
  refine z_if_eq (tgt := 246) dL_law_232 (by decide) (q := 235) rfl (fun h232 => absurd h232 (by decide)) (fun h232 => ?_)
  refine z_aload_n (i := 1) dL_law_235 rfl rfl (q := 236) rfl ?_
  refine z_callSA (As := [_]) dL_law_236 kL_175 (c_L_areWays hI hk229) rfl (zle rfl) ⟨zle rfl, zle rfl⟩ ⟨by omega, by omega⟩ (q := 239) rfl (fun hE236 X236 hk236 => ?_)
  refine z_if_eq (tgt := 246) dL_law_239 (by decide) (q := 242) rfl (fun h239 => absurd h239 (by decide)) (fun h239 => ?_)
  refine z_iconst (v := 1) dL_law_242 rfl (q := 243) rfl ?_
  refine z_goto (tgt := 247) dL_law_243 (by decide) ?_
  refine z_istore_n (i := 2) dL_law_247 rfl (zle rfl) rfl (q := 248) rfl ?_
  refine z_iconst (v := 0) dL_law_248 rfl (q := 249) rfl ?_
  refine z_istore dL_law_249 (zle rfl) rfl (q := 251) rfl ?_
  exact Z.widen (k2 := 3000 + 1000 * 0) (n2 := 30000 + 10000 * 0) (by omega) (by omega) (law_251_B hL hlk 4 0 (by omega) _ _ _ _ _ _ _ (inv_keep hk236 hI) (by rw [(hk236.1 4 (by decide)).2]; exact hll))
set_option maxRecDepth 100000 in
set_option maxHeartbeats 4000000 in
theorem law_176 {n nw k0 n0 : Nat} {e4 e5 e6 e7 e8 e9 e10 e11 : Option Value} (hL : G.L ≤ 260) (hI : inv X n nw) (hl : nolk X n) (hr : k0 ≤ 1900 ∧ n0 ≤ 19000) : Z G mL_law room_1 k0 n0 176 [some (.ref zSI), some (.ref 0), some (.int 1), some (.int (nI n)), e4, e5, e6, e7, e8, e9, e10, e11] [] (zw X [] O) PL := by
  obtain ⟨hr1, hr2⟩ := hroom
  have h4 := hI.1
  refine z_iconst (v := (-1)) dL_law_176 rfl (q := 177) rfl ?_
  refine z_istore dL_law_177 (zle rfl) rfl (q := 179) rfl ?_
  refine z_iload_n (i := 3) dL_law_179 rfl rfl (q := 180) rfl ?_
  refine z_if_le (tgt := 223) dL_law_180 (by decide) (q := 183) rfl (fun h180 => ?_) (fun h180 => ?_)
  · exact Z.widen (by omega) (by omega) (law_223_A hL hI)
  · have hn : 0 < n := by
      rcases Nat.eq_zero_or_pos n with h9 | h9
      · exact absurd (by rw [h9]; exact Int32.le_refl 0) h180
      · exact h9
    refine z_aload_n (i := 0) dL_law_183 rfl rfl (q := 184) rfl ?_
    refine z_iconst (v := 1) dL_law_184 rfl (q := 185) rfl ?_
    refine z_iconst (v := 3) dL_law_185 rfl (q := 186) rfl ?_
    refine z_callSP (i := 1) (m := 3) dL_law_186 kL_141 rfl hL (by omega) (by omega) (by omega) rfl (zle rfl) ⟨zle rfl, zle rfl⟩ ⟨by omega, by omega⟩ (q := 189) rfl (fun v186 hv186 => ?_)
    refine z_if_ne (tgt := 223) dL_law_189 (by decide) (q := 192) rfl (fun h189 => ?_) (fun h189 => ?_)
    · exact Z.widen (by omega) (by omega) (law_223_A hL hI)
    · refine z_aload_n (i := 0) dL_law_192 rfl rfl (q := 193) rfl ?_
      refine z_iconst (v := 2) dL_law_193 rfl (q := 194) rfl ?_
      refine z_iload_n (i := 3) dL_law_194 rfl rfl (q := 195) rfl ?_
      refine z_callSP (i := 2) (m := n) dL_law_195 kL_141 rfl hL (by omega) (by omega) (by omega) rfl (zle rfl) ⟨zle rfl, zle rfl⟩ ⟨by omega, by omega⟩ (q := 198) rfl (fun v195 hv195 => ?_)
      refine z_istore dL_law_198 (zle rfl) rfl (q := 200) rfl ?_
      refine z_iload_n (i := 2) dL_law_200 rfl rfl (q := 201) rfl ?_
      refine z_if_eq (tgt := 221) dL_law_201 (by decide) (q := 204) rfl (fun h201 => absurd h201 (by decide)) (fun h201 => ?_)
      refine z_aload_n (i := 1) dL_law_204 rfl rfl (q := 205) rfl ?_
      refine z_iconst (v := 1) dL_law_205 rfl (q := 206) rfl ?_
      refine z_iload dL_law_206 rfl (q := 208) rfl ?_
      refine z_iconst (v := 1) dL_law_208 rfl (q := 209) rfl ?_
      refine z_iconst (v := 0) dL_law_209 rfl (q := 210) rfl ?_
      refine z_iconst (v := 0) dL_law_210 rfl (q := 211) rfl ?_
      refine z_callSWD (As := [_, _, _, _, _, _]) dL_law_211 kL_145 (d_lock (k := v195) hI hl hv195) rfl (zle rfl) ⟨zle rfl, zle rfl⟩ ⟨by omega, by omega⟩ (q := 214) rfl (fun X3 hm => ?_)
      refine z_if_ne (tgt := 221) dL_law_214 (by decide) (q := 217) rfl (fun h214 => absurd h214 (by decide)) (fun h214 => ?_)
      refine z_iconst (v := 1) dL_law_217 rfl (q := 218) rfl ?_
      refine z_goto (tgt := 222) dL_law_218 (by decide) ?_
      refine z_istore_n (i := 2) dL_law_222 rfl (zle rfl) rfl (q := 223) rfl ?_
      exact Z.widen (by omega) (by omega) (law_223_B hL hm.1 hv195 hm.2)
set_option maxRecDepth 100000 in
set_option maxHeartbeats 4000000 in
theorem law_60 {n : Nat} (hL : G.L ≤ 260) : ∀ (m k : Nat), k + m = 7 → ∀ (X : zX) (e5 e6 e7 e8 e9 e10 e11 : Option Value), inv X n k → nolk X n → Z G mL_law room_1 (1000 + 10 * k) (10000 + 100 * k) 60 [some (.ref zSI), some (.ref 0), some (.int 1), some (.int (nI n)), some (.int (nI k)), e5, e6, e7, e8, e9, e10, e11] [] (zw X [] O) PL := by
  obtain ⟨hr1, hr2⟩ := hroom
  intro m
  induction m with
  | zero =>
    intro k hk0 X e5 e6 e7 e8 e9 e10 e11 hI hl
    have h4 := hI.1
    refine z_iload dL_law_60 rfl (q := 62) rfl ?_
    refine z_iconst (v := 1) dL_law_62 rfl (q := 63) rfl ?_
    refine z_aload_n (i := 0) dL_law_63 rfl rfl (q := 64) rfl ?_
    refine z_iconst (v := 0) dL_law_64 rfl (q := 65) rfl ?_
    refine z_bipush (v := 7) dL_law_65 rfl (q := 67) rfl ?_
    refine z_callSP (i := 0) (m := 7) dL_law_67 kL_141 rfl hL (by omega) (by omega) (by omega) rfl (zle rfl) ⟨zle rfl, zle rfl⟩ ⟨by omega, by omega⟩ (q := 70) rfl (fun v67 hv67 => ?_)
    refine z_iadd dL_law_70 (q := 71) rfl ?_
    rw [show (1 : Int32) + nI (v67) = nI (1 + v67) from nI_add (1) (v67)]
    refine z_icmp_ge (tgt := 176) dL_law_71 (by decide) (q := 74) rfl (fun h71 => ?_) (fun h71 => absurd (nI_le (a := 1 + v67) (b := k) (by omega) (by omega)) h71)
    exact law_176 hL hI hl ⟨by omega, by omega⟩
  | succ m ih =>
    intro k hk0 X e5 e6 e7 e8 e9 e10 e11 hI hl
    have h4 := hI.1
    refine z_iload dL_law_60 rfl (q := 62) rfl ?_
    refine z_iconst (v := 1) dL_law_62 rfl (q := 63) rfl ?_
    refine z_aload_n (i := 0) dL_law_63 rfl rfl (q := 64) rfl ?_
    refine z_iconst (v := 0) dL_law_64 rfl (q := 65) rfl ?_
    refine z_bipush (v := 7) dL_law_65 rfl (q := 67) rfl ?_
    refine z_callSP (i := 0) (m := 7) dL_law_67 kL_141 rfl hL (by omega) (by omega) (by omega) rfl (zle rfl) ⟨zle rfl, zle rfl⟩ ⟨by omega, by omega⟩ (q := 70) rfl (fun v67 hv67 => ?_)
    refine z_iadd dL_law_70 (q := 71) rfl ?_
    rw [show (1 : Int32) + nI (v67) = nI (1 + v67) from nI_add (1) (v67)]
    refine z_icmp_ge (tgt := 176) dL_law_71 (by decide) (q := 74) rfl (fun h71 => ?_) (fun h71 => ?_)
    · exact law_176 hL hI hl ⟨by omega, by omega⟩
    · refine z_iload_n (i := 3) dL_law_74 rfl rfl (q := 75) rfl ?_
      refine z_iconst (v := 1) dL_law_75 rfl (q := 76) rfl ?_
      refine z_icmp_le (tgt := 176) dL_law_76 (by decide) (q := 79) rfl (fun h76 => ?_) (fun h76 => ?_)
      · exact law_176 hL hI hl ⟨by omega, by omega⟩
      · have hn : 1 < n := by
          rcases Nat.lt_or_ge 1 n with h9 | h9
          · exact h9
          · exact absurd (nI_le (a := n) (b := 1) h9 (by omega)) h76
        refine z_aload_n (i := 0) dL_law_79 rfl rfl (q := 80) rfl ?_
        refine z_bipush (v := 100) dL_law_80 rfl (q := 82) rfl ?_
        refine z_iconst (v := 3) dL_law_82 rfl (q := 83) rfl ?_
        refine z_iload dL_law_83 rfl (q := 85) rfl ?_
        refine z_imul dL_law_85 (q := 86) rfl ?_
        rw [show (3 : Int32) * nI (k) = nI (3 * k) from nI_mul (3) (k)]
        refine z_iadd dL_law_86 (q := 87) rfl ?_
        rw [show (100 : Int32) + nI ((3 * k)) = nI (100 + (3 * k)) from nI_add (100) ((3 * k))]
        refine z_iload_n (i := 3) dL_law_87 rfl rfl (q := 88) rfl ?_
        refine z_callSP (i := (100 + (3 * k))) (m := n) dL_law_88 kL_141 rfl hL (by omega) (by omega) (by omega) rfl (zle rfl) ⟨zle rfl, zle rfl⟩ ⟨by omega, by omega⟩ (q := 91) rfl (fun v88 hv88 => ?_)
        refine z_istore dL_law_91 (zle rfl) rfl (q := 93) rfl ?_
        refine z_iload dL_law_93 rfl (q := 95) rfl ?_
        refine z_iconst (v := 1) dL_law_95 rfl (q := 96) rfl ?_
        refine z_iadd dL_law_96 (q := 97) rfl ?_
        rw [show nI (v88) + (1 : Int32) = nI (v88 + 1) from nI_add (v88) (1)]
        refine z_aload_n (i := 0) dL_law_97 rfl rfl (q := 98) rfl ?_
        refine z_bipush (v := 101) dL_law_98 rfl (q := 100) rfl ?_
        refine z_iconst (v := 3) dL_law_100 rfl (q := 101) rfl ?_
        refine z_iload dL_law_101 rfl (q := 103) rfl ?_
        refine z_imul dL_law_103 (q := 104) rfl ?_
        rw [show (3 : Int32) * nI (k) = nI (3 * k) from nI_mul (3) (k)]
        refine z_iadd dL_law_104 (q := 105) rfl ?_
        rw [show (101 : Int32) + nI ((3 * k)) = nI (101 + (3 * k)) from nI_add (101) ((3 * k))]
        refine z_iload_n (i := 3) dL_law_105 rfl rfl (q := 106) rfl ?_
        refine z_iconst (v := 1) dL_law_106 rfl (q := 107) rfl ?_
        refine z_isub dL_law_107 (q := 108) rfl ?_
        rw [show nI (n) - (1 : Int32) = nI (n - 1) from nI_sub (a := n) (b := 1) (by omega)]
        refine z_callSP (i := (101 + (3 * k))) (m := (n - 1)) dL_law_108 kL_141 rfl hL (by omega) (by omega) (by omega) rfl (zle rfl) ⟨zle rfl, zle rfl⟩ ⟨by omega, by omega⟩ (q := 111) rfl (fun v108 hv108 => ?_)
        refine z_iadd dL_law_111 (q := 112) rfl ?_
        rw [show nI ((v88 + 1)) + nI (v108) = nI ((v88 + 1) + v108) from nI_add ((v88 + 1)) (v108)]
        refine z_iload_n (i := 3) dL_law_112 rfl rfl (q := 113) rfl ?_
        refine z_irem dL_law_113 (nI_ne0 (by omega) (by omega)) (q := 114) rfl ?_
        rw [show nI (((v88 + 1) + v108)) - nI (((v88 + 1) + v108)) / nI (n) * nI (n) = nI (((v88 + 1) + v108) % n) from nI_remm (a := ((v88 + 1) + v108)) (m := n) (by omega) (by omega)]
        refine z_istore dL_law_114 (zle rfl) rfl (q := 116) rfl ?_
        refine z_iload_n (i := 2) dL_law_116 rfl rfl (q := 117) rfl ?_
        refine z_if_eq (tgt := 168) dL_law_117 (by decide) (q := 120) rfl (fun h117 => absurd h117 (by decide)) (fun h117 => ?_)
        refine z_aload_n (i := 1) dL_law_120 rfl rfl (q := 121) rfl ?_
        refine z_iconst (v := 5) dL_law_121 rfl (q := 122) rfl ?_
        refine z_aload_n (i := 0) dL_law_122 rfl rfl (q := 123) rfl ?_
        refine z_bipush (v := 102) dL_law_123 rfl (q := 125) rfl ?_
        refine z_iconst (v := 3) dL_law_125 rfl (q := 126) rfl ?_
        refine z_iload dL_law_126 rfl (q := 128) rfl ?_
        refine z_imul dL_law_128 (q := 129) rfl ?_
        rw [show (3 : Int32) * nI (k) = nI (3 * k) from nI_mul (3) (k)]
        refine z_iadd dL_law_129 (q := 130) rfl ?_
        rw [show (102 : Int32) + nI ((3 * k)) = nI (102 + (3 * k)) from nI_add (102) ((3 * k))]
        refine z_bipush (v := 6) dL_law_130 rfl (q := 132) rfl ?_
        refine z_callSP (i := (102 + (3 * k))) (m := 6) dL_law_132 kL_141 rfl hL (by omega) (by omega) (by omega) rfl (zle rfl) ⟨zle rfl, zle rfl⟩ ⟨by omega, by omega⟩ (q := 135) rfl (fun v132 hv132 => ?_)
        refine z_callSF (As := [_]) dL_law_135 kL_190 (c_L_kind (k := v132) hv132) rfl (zle rfl) ⟨zle rfl, zle rfl⟩ ⟨by omega, by omega⟩ (q := 138) rfl ?_
        refine z_iload dL_law_138 rfl (q := 140) rfl ?_
        refine z_iload dL_law_140 rfl (q := 142) rfl ?_
        refine z_iconst (v := 1) dL_law_142 rfl (q := 143) rfl ?_
        refine z_aload_n (i := 0) dL_law_143 rfl rfl (q := 144) rfl ?_
        refine z_sipush (v := 130) dL_law_144 rfl (q := 147) rfl ?_
        refine z_iload dL_law_147 rfl (q := 149) rfl ?_
        refine z_iadd dL_law_149 (q := 150) rfl ?_
        rw [show (130 : Int32) + nI (k) = nI (130 + k) from nI_add (130) (k)]
        refine z_bipush (v := 9) dL_law_150 rfl (q := 152) rfl ?_
        refine z_callSP (i := (130 + k)) (m := 9) dL_law_152 kL_141 rfl hL (by omega) (by omega) (by omega) rfl (zle rfl) ⟨zle rfl, zle rfl⟩ ⟨by omega, by omega⟩ (q := 155) rfl (fun v152 hv152 => ?_)
        refine z_iadd dL_law_155 (q := 156) rfl ?_
        rw [show (1 : Int32) + nI (v152) = nI (1 + v152) from nI_add (1) (v152)]
        refine z_callSWD (As := [_, _, _, _, _, _]) dL_law_156 kL_145 (d_wish (a := v88) (b := (((v88 + 1) + v108) % n)) (q := v132) (f := (1 + v152)) hI hl (by omega) hv88 (Nat.mod_lt _ (by omega)) (mod_ne hv88 hv108) hv132 (by omega) (by omega)) rfl (zle rfl) ⟨zle rfl, zle rfl⟩ ⟨by omega, by omega⟩ (q := 159) rfl (fun X3 hm => ?_)
        refine z_iload dL_law_159 rfl (q := 161) rfl ?_
        refine z_icmp_ne (tgt := 168) dL_law_161 (by decide) (q := 164) rfl (fun h161 => absurd h161 (fun h9 => h9 rfl)) (fun h161 => ?_)
        refine z_iconst (v := 1) dL_law_164 rfl (q := 165) rfl ?_
        refine z_goto (tgt := 169) dL_law_165 (by decide) ?_
        refine z_istore_n (i := 2) dL_law_169 rfl (zle rfl) rfl (q := 170) rfl ?_
        refine z_iinc (v := nI (k + 1)) dL_law_170 rfl (nI_add _ _) (zle rfl) rfl (q := 173) rfl ?_
        refine z_goto (tgt := 60) dL_law_173 (by decide) ?_
        exact Z.widen (by omega) (by omega) (ih (k + 1) (by omega) X3 _ _ _ _ _ _ _ hm.1 hm.2)
set_option maxRecDepth 100000 in
set_option maxHeartbeats 4000000 in
theorem law_start (hL : G.L ≤ 260) : Z G mL_law room_1 0 0 0 (zent [.ref zSI] 12) [] [] (fun r _ => r = .inl (some (.int 1))) := by
  obtain ⟨hr1, hr2⟩ := hroom
  refine Z.eql (zl2 := [some (.ref zSI), none, none, none, none, none, none, none, none, none, none, none]) rfl ?_
  refine z_new dL_law_0 nL_16 (zle rfl) ⟨zle rfl, zle rfl⟩ (q := 3) rfl ?_
  refine Z.eqst (st2 := [.ref 0]) rfl ?_
  refine z_dup dL_law_3 rfl (q := 4) rfl ?_
  refine z_callIF (As := []) dL_law_4 kL_170 (c_init_x (w := []) rfl) rfl rfl (zle rfl) ⟨zle rfl, zle rfl⟩ ⟨zle rfl, zle rfl⟩ (q := 7) rfl ?_
  refine Z.eqw (w2 := zw X00 [] ()) rfl ?_
  refine z_astore_n (i := 1) dL_law_7 rfl (zle rfl) rfl (q := 8) rfl ?_
  refine z_aload_n (i := 1) dL_law_8 rfl rfl (q := 9) rfl ?_
  refine z_iconst (v := 0) dL_law_9 rfl (q := 10) rfl ?_
  refine z_callSA (As := [_, _]) dL_law_10 kL_171 (c_L_areOn (n := 0) inv0 (keep0_refl X00)) rfl (zle rfl) ⟨zle rfl, zle rfl⟩ ⟨by omega, by omega⟩ (q := 13) rfl (fun hE10 X10 hk10 => ?_)
  refine z_if_eq (tgt := 47) dL_law_13 (by decide) (q := 16) rfl (fun h13 => absurd h13 (by decide)) (fun h13 => ?_)
  refine z_aload_n (i := 1) dL_law_16 rfl rfl (q := 17) rfl ?_
  refine z_callSA (As := [_]) dL_law_17 kL_175 (c_L_areWays inv0 hk10) rfl (zle rfl) ⟨zle rfl, zle rfl⟩ ⟨by omega, by omega⟩ (q := 20) rfl (fun hE17 X17 hk17 => ?_)
  refine z_if_eq (tgt := 47) dL_law_20 (by decide) (q := 23) rfl (fun h20 => absurd h20 (by decide)) (fun h20 => ?_)
  refine z_aload_n (i := 1) dL_law_23 rfl rfl (q := 24) rfl ?_
  refine z_iconst (v := 0) dL_law_24 rfl (q := 25) rfl ?_
  refine z_iconst (v := 0) dL_law_25 rfl (q := 26) rfl ?_
  refine z_iconst (v := (-1)) dL_law_26 rfl (q := 27) rfl ?_
  refine z_callSD (As := [_, _, _, _]) dL_law_27 kL_179 (l_tidA (n := 0) (t := 0) inv0 hk17 (by decide)) rfl (zle rfl) ⟨zle rfl, zle rfl⟩ ⟨by omega, by omega⟩ (q := 30) rfl (fun X4 hm => ?_)
  refine z_if_eq (tgt := 47) dL_law_30 (by decide) (q := 33) rfl (fun h30 => absurd h30 (by decide)) (fun h30 => ?_)
  refine z_aload_n (i := 1) dL_law_33 rfl rfl (q := 34) rfl ?_
  refine z_iconst (v := 0) dL_law_34 rfl (q := 35) rfl ?_
  refine z_iconst (v := 1) dL_law_35 rfl (q := 36) rfl ?_
  refine z_iconst (v := (-1)) dL_law_36 rfl (q := 37) rfl ?_
  refine z_callSD (As := [_, _, _, _]) dL_law_37 kL_183 (l_sprA (n := 0) (t := 1) hm.1 (keep0_refl X4) (by decide)) rfl (zle rfl) ⟨zle rfl, zle rfl⟩ ⟨by omega, by omega⟩ (q := 40) rfl (fun X5 hm5 => ?_)
  refine z_if_eq (tgt := 47) dL_law_40 (by decide) (q := 43) rfl (fun h40 => absurd h40 (by decide)) (fun h40 => ?_)
  refine z_iconst (v := 1) dL_law_43 rfl (q := 44) rfl ?_
  refine z_goto (tgt := 48) dL_law_44 (by decide) ?_
  refine z_istore_n (i := 2) dL_law_48 rfl (zle rfl) rfl (q := 49) rfl ?_
  refine z_aload_n (i := 1) dL_law_49 rfl rfl (q := 50) rfl ?_
  refine z_aload_n (i := 0) dL_law_50 rfl rfl (q := 51) rfl ?_
  refine z_bipush (v := 10) dL_law_51 rfl (q := 53) rfl ?_
  refine z_callSI (As := [_, _, _]) dL_law_53 kL_186 (c_L_lay hL hm5.1) layP_int rfl (zle rfl) ⟨zle rfl, zle rfl⟩ ⟨by omega, by omega⟩ (q := 56) rfl (fun v53 w53 hw53 => ?_)
  obtain ⟨n, X6, h9, rfl, hI6, hl6⟩ := hw53
  cases h9
  refine z_istore_n (i := 3) dL_law_56 rfl (zle rfl) rfl (q := 57) rfl ?_
  refine z_iconst (v := 0) dL_law_57 rfl (q := 58) rfl ?_
  refine z_istore dL_law_58 (zle rfl) rfl (q := 60) rfl ?_
  exact Z.widen (k2 := 1000 + 10 * 0) (n2 := 10000 + 100 * 0) (by omega) (by omega) (law_60 hL 7 0 (by omega) X6 _ _ _ _ _ _ _ hI6 hl6)
end
