section
variable {G : zG} {X X1 X2 X3 : zX} {Y : zY} {O : zO}
set_option maxRecDepth 100000 in
set_option maxHeartbeats 4000000 in
theorem ev_c {n nw t c g s : Nat} {o : Nat → Nat} (hI : inv X n nw) (ht : t < 2) (hv : evR X t n o (some (c, g, s))) : c ≤ 8000 := by
  have hc : cdE X t n o g s := hv.2.1
  have hcc : c = coE X t n o g s := hv.2.2.1
  have hl := cd_le hI ht hv.1 hc
  have hl2 := (limN_eq ht).2
  rw [hcc]
  exact coE_le hI ht hv.1 (by omega) (by omega)
set_option maxRecDepth 100000 in
set_option maxHeartbeats 4000000 in
theorem sp_in_0 {n nw k k0 n0 : Nat} {lo : Int32} {f g : Nat → Int32} {P : zRes → zWorld → Prop} (hI : inv X n nw) (hkn : k < n) (hgk : g k = X.2.1 (2 * 0) k) (hr : k0 + 8 ≤ 80 ∧ n0 + 48 ≤ 480) : ∀ (m j : Nat), j + m = n → ∀ (X1 : zX) (a : Int32), keep0 X X1 → (∀ (X2 : zX) (e8 : Option Value), keep0 X X2 → Z G mL_isSpread (zrm 17 80 480) (k0 + 8) (n0 + 48) 96 [some (.ref 0), some (.int (nI n)), some (.int 0), some (.int lo), some (.ref 77), some (.ref 78), some (.int (nI k)), some (.int (rcnt (lessP X 0 k) j m a)), e8, none, none, none, none] [] (zw X2 (ar2 f g) O) P) → Z G mL_isSpread (zrm 17 80 480) (k0 + 2 * j) (n0 + 12 * j) 37 [some (.ref 0), some (.int (nI n)), some (.int 0), some (.int lo), some (.ref 77), some (.ref 78), some (.int (nI k)), some (.int a), some (.int (nI j)), none, none, none, none] [] (zw X1 (ar2 f g) O) P := by
  have h4 := hI.1
  intro m
  induction m with
  | zero =>
    intro j hj X1 a hk kk
    refine z_iload dL_isSpread_37 rfl (q := 39) rfl ?_
    refine z_iload_n (i := 1) dL_isSpread_39 rfl rfl (q := 40) rfl ?_
    refine z_icmp_ge (tgt := 96) dL_isSpread_40 (by decide) (q := 43) rfl (fun h40 => ?_) (fun h40 => absurd (nI_le (show n ≤ j by omega) (by omega)) h40)
    exact Z.widen (by omega) (by omega) (kk _ _ hk)
  | succ m ih =>
    intro j hj X1 a hk kk
    refine z_iload dL_isSpread_37 rfl (q := 39) rfl ?_
    refine z_iload_n (i := 1) dL_isSpread_39 rfl rfl (q := 40) rfl ?_
    refine z_icmp_ge (tgt := 96) dL_isSpread_40 (by decide) (q := 43) rfl (fun h40 => absurd h40 (nI_ge (show j < n by omega) (by omega))) (fun h40 => ?_)
    refine z_iload dL_isSpread_43 rfl (q := 45) rfl ?_
    refine z_aload_n (i := 0) dL_isSpread_45 rfl rfl (q := 46) rfl ?_
    refine z_iload dL_isSpread_46 rfl (q := 48) rfl ?_
    refine z_iload_n (i := 2) dL_isSpread_48 rfl rfl (q := 49) rfl ?_
    refine z_callSA (As := [_, _, _]) dL_isSpread_49 kL_154 (l_start (k := j) (t := 0) hI hk (by omega) (by decide)) rfl (zle rfl) ⟨zle rfl, zle rfl⟩ (zroom (by omega) (by omega)) (q := 52) rfl (fun hE49 X49 hk49 => ?_)
    refine z_aload dL_isSpread_52 rfl (q := 54) rfl ?_
    refine z_iload dL_isSpread_54 rfl (q := 56) rfl ?_
    refine z_iald dL_isSpread_56 (wy_1 _ _ _ _ _) (zin (by omega) (by decide)) (q := 57) rfl ?_
    rw [nI_clamp (n := k) (by omega), hgk]
    refine z_icmp_lt (tgt := 82) dL_isSpread_57 (by decide) (q := 60) rfl (fun h57 => ?_) (fun h57 => ?_)
    · refine z_iconst (v := 1) dL_isSpread_82 rfl (q := 83) rfl ?_
      refine z_goto (tgt := 87) dL_isSpread_83 (by decide) ?_
      refine z_iadd dL_isSpread_87 (q := 88) rfl ?_
      refine z_istore dL_isSpread_88 (zle rfl) rfl (q := 90) rfl ?_
      refine z_iinc (v := nI (j + 1)) dL_isSpread_90 rfl (nI_add _ _) (zle rfl) rfl (q := 93) rfl ?_
      refine z_goto (tgt := 37) dL_isSpread_93 (by decide) ?_
      have hp : lessP X 0 k j := Or.inl h57
      exact Z.widen (by omega) (by omega) (ih (j + 1) (by omega) _ (a + 1) hk49 (fun X2 e8 hk2 => by rw [← rcnt_t hp]; exact kk X2 e8 hk2))
    · refine z_aload_n (i := 0) dL_isSpread_60 rfl rfl (q := 61) rfl ?_
      refine z_iload dL_isSpread_61 rfl (q := 63) rfl ?_
      refine z_iload_n (i := 2) dL_isSpread_63 rfl rfl (q := 64) rfl ?_
      refine z_callSA (As := [_, _, _]) dL_isSpread_64 kL_154 (l_start (k := j) (t := 0) hI hk49 (by omega) (by decide)) rfl (zle rfl) ⟨zle rfl, zle rfl⟩ (zroom (by omega) (by omega)) (q := 67) rfl (fun hE64 X64 hk64 => ?_)
      refine z_aload dL_isSpread_67 rfl (q := 69) rfl ?_
      refine z_iload dL_isSpread_69 rfl (q := 71) rfl ?_
      refine z_iald dL_isSpread_71 (wy_1 _ _ _ _ _) (zin (by omega) (by decide)) (q := 72) rfl ?_
      rw [nI_clamp (n := k) (by omega), hgk]
      refine z_icmp_ne (tgt := 86) dL_isSpread_72 (by decide) (q := 75) rfl (fun h72 => ?_) (fun h72 => ?_)
      · refine z_iconst (v := 0) dL_isSpread_86 rfl (q := 87) rfl ?_
        refine z_iadd dL_isSpread_87 (q := 88) rfl ?_
        refine Z.eqst (st2 := [.int a]) (by rw [Int32.add_zero]) ?_
        refine z_istore dL_isSpread_88 (zle rfl) rfl (q := 90) rfl ?_
        refine z_iinc (v := nI (j + 1)) dL_isSpread_90 rfl (nI_add _ _) (zle rfl) rfl (q := 93) rfl ?_
        refine z_goto (tgt := 37) dL_isSpread_93 (by decide) ?_
        have hp : ¬ lessP X 0 k j := fun h9 => h9.elim h57 fun h8 => h72 h8.1
        exact Z.widen (by omega) (by omega) (ih (j + 1) (by omega) _ a hk64 (fun X2 e8 hk2 => by rw [← rcnt_f hp]; exact kk X2 e8 hk2))
      · refine z_iload dL_isSpread_75 rfl (q := 77) rfl ?_
        refine z_iload dL_isSpread_77 rfl (q := 79) rfl ?_
        refine z_icmp_ge (tgt := 86) dL_isSpread_79 (by decide) (q := 82) rfl (fun h79 => ?_) (fun h79 => ?_)
        · refine z_iconst (v := 0) dL_isSpread_86 rfl (q := 87) rfl ?_
          refine z_iadd dL_isSpread_87 (q := 88) rfl ?_
          refine Z.eqst (st2 := [.int a]) (by rw [Int32.add_zero]) ?_
          refine z_istore dL_isSpread_88 (zle rfl) rfl (q := 90) rfl ?_
          refine z_iinc (v := nI (j + 1)) dL_isSpread_90 rfl (nI_add _ _) (zle rfl) rfl (q := 93) rfl ?_
          refine z_goto (tgt := 37) dL_isSpread_93 (by decide) ?_
          have hp : ¬ lessP X 0 k j := fun h9 => h9.elim h57 fun h8 => absurd h8.2 (Int32.not_lt.mpr h79)
          exact Z.widen (by omega) (by omega) (ih (j + 1) (by omega) _ a hk64 (fun X2 e8 hk2 => by rw [← rcnt_f hp]; exact kk X2 e8 hk2))
        · refine z_iconst (v := 1) dL_isSpread_82 rfl (q := 83) rfl ?_
          refine z_goto (tgt := 87) dL_isSpread_83 (by decide) ?_
          refine z_iadd dL_isSpread_87 (q := 88) rfl ?_
          refine z_istore dL_isSpread_88 (zle rfl) rfl (q := 90) rfl ?_
          refine z_iinc (v := nI (j + 1)) dL_isSpread_90 rfl (nI_add _ _) (zle rfl) rfl (q := 93) rfl ?_
          refine z_goto (tgt := 37) dL_isSpread_93 (by decide) ?_
          have hp : lessP X 0 k j := Or.inr ⟨h72, Int32.not_le.mp h79⟩
          exact Z.widen (by omega) (by omega) (ih (j + 1) (by omega) _ (a + 1) hk64 (fun X2 e8 hk2 => by rw [← rcnt_t hp]; exact kk X2 e8 hk2))
set_option maxRecDepth 100000 in
set_option maxHeartbeats 4000000 in
theorem sp_out_0 {n nw : Nat} {lo : Int32} {o : Nat → Nat} {P : zRes → zWorld → Prop} (hI : inv X n nw) (ho : ordR X 0 n o) (kk : ∀ (X2 : zX) (f g : Nat → Int32) (e6 e7 e8 : Option Value), keep0 X X2 → (∀ p, p < n → f p = nI (o p)) → (∀ j, j < n → g j = X.2.1 (2 * 0) j) → Z G mL_isSpread (zrm 17 80 480) 38 224 109 [some (.ref 0), some (.int (nI n)), some (.int 0), some (.int lo), some (.ref 77), some (.ref 78), e6, e7, e8, none, none, none, none] [] (zw X2 (ar2 f g) O) P) : ∀ (m k : Nat), k + m = n → ∀ (X1 : zX) (f g : Nat → Int32) (e7 e8 : Option Value), keep0 X X1 → (∀ p, p < n → o p < k → f p = nI (o p)) → (∀ j, j < k → g j = X.2.1 (2 * 0) j) → Z G mL_isSpread (zrm 17 80 480) (2 + 9 * k) (8 + 54 * k) 13 [some (.ref 0), some (.int (nI n)), some (.int 0), some (.int lo), some (.ref 77), some (.ref 78), some (.int (nI k)), e7, e8, none, none, none, none] [] (zw X1 (ar2 f g) O) P := by
  have h4 := hI.1
  intro m
  induction m with
  | zero =>
    intro k hk0 X1 f g e7 e8 hk hf hg
    refine z_iload dL_isSpread_13 rfl (q := 15) rfl ?_
    refine z_iload_n (i := 1) dL_isSpread_15 rfl rfl (q := 16) rfl ?_
    refine z_icmp_ge (tgt := 109) dL_isSpread_16 (by decide) (q := 19) rfl (fun h16 => ?_) (fun h16 => absurd (nI_le (show n ≤ k by omega) (by omega)) h16)
    exact Z.widen (by omega) (by omega) (kk _ _ _ _ _ _ hk (fun p hp => hf p hp (by have := ho.1 p hp; omega)) (fun j hj => hg j (by omega)))
  | succ m ih =>
    intro k hk0 X1 f g e7 e8 hk hf hg
    obtain ⟨p, hp, hok⟩ := ho.2.2 k (by omega)
    have hrk := rank_eq hI (by decide) ho hp
    rw [hok] at hrk
    refine z_iload dL_isSpread_13 rfl (q := 15) rfl ?_
    refine z_iload_n (i := 1) dL_isSpread_15 rfl rfl (q := 16) rfl ?_
    refine z_icmp_ge (tgt := 109) dL_isSpread_16 (by decide) (q := 19) rfl (fun h16 => absurd h16 (nI_ge (show k < n by omega) (by omega))) (fun h16 => ?_)
    refine z_aload dL_isSpread_19 rfl (q := 21) rfl ?_
    refine z_iload dL_isSpread_21 rfl (q := 23) rfl ?_
    refine z_aload_n (i := 0) dL_isSpread_23 rfl rfl (q := 24) rfl ?_
    refine z_iload dL_isSpread_24 rfl (q := 26) rfl ?_
    refine z_iload_n (i := 2) dL_isSpread_26 rfl rfl (q := 27) rfl ?_
    refine z_callSA (As := [_, _, _]) dL_isSpread_27 kL_154 (l_start (k := k) (t := 0) hI hk (by omega) (by decide)) rfl (zle rfl) ⟨zle rfl, zle rfl⟩ (zroom (by omega) (by omega)) (q := 30) rfl (fun hE27 X27 hk27 => ?_)
    refine z_iast dL_isSpread_30 (wy_1 _ _ _ _ _) (zin (by omega) (by decide)) (q := 31) rfl ?_
    refine Z.eqw (wys_1 _ _ _ _ _ _) ?_
    rw [nI_clamp (n := k) (by omega)]
    refine z_iconst (v := 0) dL_isSpread_31 rfl (q := 32) rfl ?_
    refine z_istore dL_isSpread_32 (zle rfl) rfl (q := 34) rfl ?_
    refine z_iconst (v := 0) dL_isSpread_34 rfl (q := 35) rfl ?_
    refine z_istore dL_isSpread_35 (zle rfl) rfl (q := 37) rfl ?_
    refine Z.widen (k2 := 2 + 9 * k + 1 + 2 * 0) (n2 := 8 + 54 * k + 6 + 12 * 0) (by omega) (by omega) (sp_in_0 hI (k := k) (by omega) pk_us ⟨by omega, by omega⟩ n 0 (by omega) _ 0 hk27 (fun X2 e8 hk2 => ?_))
    rw [hrk]
    refine z_aload dL_isSpread_96 rfl (q := 98) rfl ?_
    refine z_iload dL_isSpread_98 rfl (q := 100) rfl ?_
    refine z_iload dL_isSpread_100 rfl (q := 102) rfl ?_
    refine z_iast dL_isSpread_102 (wy_0 _ _ _ _) (zin (show p < 4 by omega) (by decide)) (q := 103) rfl ?_
    refine Z.eqw (wys_0 _ _ _ _ _) ?_
    rw [nI_clamp (n := p) (by omega)]
    refine z_iinc (v := nI (k + 1)) dL_isSpread_103 rfl (nI_add _ _) (zle rfl) rfl (q := 106) rfl ?_
    refine z_goto (tgt := 13) dL_isSpread_106 (by decide) ?_
    exact Z.widen (by omega) (by omega) (ih (k + 1) (by omega) _ _ _ _ _ hk2 (row_up ho hf hp hok) (up_lt hg rfl))
set_option maxRecDepth 100000 in
set_option maxHeartbeats 4000000 in
theorem sp_end_0 {n nw c gp s : Nat} {lo : Int32} {o : Nat → Nat} {f g : Nat → Int32} {e7 : Option Value} {P : zRes → zWorld → Prop} (hI : inv X n nw) (hv : evR X 0 n o (some (c, gp, s))) (hm : spR X 0 n o c gp s X3) (hs : inv X3 n nw ∧ True) (hf : ∀ p, p < n → f p = nI (o p)) (hg : ∀ j, j < n → g j = X.2.1 (2 * 0) j) : ∀ (m k : Nat), k + m = n → ∀ (X1 : zX) (a : Int32), keep0 X3 X1 → (∀ (X2 : zX) (e12 : Option Value), keep0 X3 X2 → Z G mL_isSpread (zrm 17 80 480) 57 338 321 [some (.ref 0), some (.int (nI n)), some (.int 0), some (.int lo), some (.ref 77), some (.ref 78), some (.int (nI c)), e7, none, some (.int (nI gp)), some (.int 1), some (.int (rsum (fun k => iabs (X3.2.1 (2 * 0) k - X.2.1 (2 * 0) k)) k m a)), e12] [] (zw X2 (ar2 f g) O) P) → Z G mL_isSpread (zrm 17 80 480) (41 + 4 * k) (242 + 24 * k) 230 [some (.ref 0), some (.int (nI n)), some (.int 0), some (.int lo), some (.ref 77), some (.ref 78), some (.int (nI c)), e7, none, some (.int (nI gp)), some (.int 1), some (.int a), some (.int (nI k))] [] (zw X1 (ar2 f g) O) P := by
  have h4 := hI.1
  intro m
  induction m with
  | zero =>
    intro k hk0 X1 a hk kk
    refine z_iload dL_isSpread_230 rfl (q := 232) rfl ?_
    refine z_iload_n (i := 1) dL_isSpread_232 rfl rfl (q := 233) rfl ?_
    refine z_icmp_ge (tgt := 321) dL_isSpread_233 (by decide) (q := 236) rfl (fun h233 => ?_) (fun h233 => absurd (nI_le (show n ≤ k by omega) (by omega)) h233)
    exact Z.widen (by omega) (by omega) (kk _ _ hk)
  | succ m ih =>
    intro k hk0 X1 a hk kk
    cases k with
    | zero =>
      refine z_iload dL_isSpread_230 rfl (q := 232) rfl ?_
      refine z_iload_n (i := 1) dL_isSpread_232 rfl rfl (q := 233) rfl ?_
      refine z_icmp_ge (tgt := 321) dL_isSpread_233 (by decide) (q := 236) rfl (fun h233 => absurd h233 (nI_ge (show 0 < n by omega) (by omega))) (fun h233 => ?_)
      refine z_iload dL_isSpread_236 rfl (q := 238) rfl ?_
      refine z_aload_n (i := 0) dL_isSpread_238 rfl rfl (q := 239) rfl ?_
      refine z_iload dL_isSpread_239 rfl (q := 241) rfl ?_
      refine z_iload_n (i := 2) dL_isSpread_241 rfl rfl (q := 242) rfl ?_
      refine z_callSA (As := [_, _, _]) dL_isSpread_242 kL_154 (l_start (k := 0) (t := 0) hs.1 hk (by omega) (by decide)) rfl (zle rfl) ⟨zle rfl, zle rfl⟩ (zroom (by omega) (by omega)) (q := 245) rfl (fun hE242 X242 hk242 => ?_)
      refine z_aload dL_isSpread_245 rfl (q := 247) rfl ?_
      refine z_iload dL_isSpread_247 rfl (q := 249) rfl ?_
      refine z_iald dL_isSpread_249 (wy_1 _ _ _ _ _) (zin (by omega) (by decide)) (q := 250) rfl ?_
      rw [nI_clamp (n := 0) (by omega), hg (0) (by omega)]
      refine z_isub dL_isSpread_250 (q := 251) rfl ?_
      refine z_abs dL_isSpread_251 kL_161 (zle rfl) ⟨zle rfl, zle rfl, (by show _ ≤ 80; omega), (by show _ ≤ 480; omega)⟩ (q := 254) rfl ?_
      refine z_iadd dL_isSpread_254 (q := 255) rfl ?_
      refine z_istore dL_isSpread_255 (zle rfl) rfl (q := 257) rfl ?_
      refine z_iload dL_isSpread_257 rfl (q := 259) rfl ?_
      refine z_if_eq (tgt := 312) dL_isSpread_259 (by decide) (q := 262) rfl (fun h259 => absurd h259 (by decide)) (fun h259 => ?_)
      refine z_iload dL_isSpread_262 rfl (q := 264) rfl ?_
      refine z_if_eq (tgt := 308) dL_isSpread_264 (by decide) (q := 267) rfl (fun h264 => ?_) (fun h264 => absurd rfl h264)
      refine z_iconst (v := 1) dL_isSpread_308 rfl (q := 309) rfl ?_
      refine z_goto (tgt := 313) dL_isSpread_309 (by decide) ?_
      refine z_istore dL_isSpread_313 (zle rfl) rfl (q := 315) rfl ?_
      refine z_iinc (v := nI (0 + 1)) dL_isSpread_315 rfl (nI_add _ _) (zle rfl) rfl (q := 318) rfl ?_
      refine z_goto (tgt := 230) dL_isSpread_318 (by decide) ?_
      exact Z.widen (by omega) (by omega) (ih (0 + 1) (by omega) _ _ hk242 kk)
    | succ k =>
      refine z_iload dL_isSpread_230 rfl (q := 232) rfl ?_
      refine z_iload_n (i := 1) dL_isSpread_232 rfl rfl (q := 233) rfl ?_
      refine z_icmp_ge (tgt := 321) dL_isSpread_233 (by decide) (q := 236) rfl (fun h233 => absurd h233 (nI_ge (show k + 1 < n by omega) (by omega))) (fun h233 => ?_)
      refine z_iload dL_isSpread_236 rfl (q := 238) rfl ?_
      refine z_aload_n (i := 0) dL_isSpread_238 rfl rfl (q := 239) rfl ?_
      refine z_iload dL_isSpread_239 rfl (q := 241) rfl ?_
      refine z_iload_n (i := 2) dL_isSpread_241 rfl rfl (q := 242) rfl ?_
      refine z_callSA (As := [_, _, _]) dL_isSpread_242 kL_154 (l_start (k := k + 1) (t := 0) hs.1 hk (by omega) (by decide)) rfl (zle rfl) ⟨zle rfl, zle rfl⟩ (zroom (by omega) (by omega)) (q := 245) rfl (fun hE242 X242 hk242 => ?_)
      refine z_aload dL_isSpread_245 rfl (q := 247) rfl ?_
      refine z_iload dL_isSpread_247 rfl (q := 249) rfl ?_
      refine z_iald dL_isSpread_249 (wy_1 _ _ _ _ _) (zin (by omega) (by decide)) (q := 250) rfl ?_
      rw [nI_clamp (n := k + 1) (by omega), hg (k + 1) (by omega)]
      refine z_isub dL_isSpread_250 (q := 251) rfl ?_
      refine z_abs dL_isSpread_251 kL_161 (zle rfl) ⟨zle rfl, zle rfl, (by show _ ≤ 80; omega), (by show _ ≤ 480; omega)⟩ (q := 254) rfl ?_
      refine z_iadd dL_isSpread_254 (q := 255) rfl ?_
      refine z_istore dL_isSpread_255 (zle rfl) rfl (q := 257) rfl ?_
      refine z_iload dL_isSpread_257 rfl (q := 259) rfl ?_
      refine z_if_eq (tgt := 312) dL_isSpread_259 (by decide) (q := 262) rfl (fun h259 => absurd h259 (by decide)) (fun h259 => ?_)
      refine z_iload dL_isSpread_262 rfl (q := 264) rfl ?_
      refine z_if_eq (tgt := 308) dL_isSpread_264 (by decide) (q := 267) rfl (fun h264 => absurd h264 (nI_ne0 (by omega) (by omega))) (fun h264 => ?_)
      refine z_aload_n (i := 0) dL_isSpread_267 rfl rfl (q := 268) rfl ?_
      refine z_aload dL_isSpread_268 rfl (q := 270) rfl ?_
      refine z_iload dL_isSpread_270 rfl (q := 272) rfl ?_
      refine z_iald dL_isSpread_272 (wy_0 _ _ _ _) (zin (by omega) (by decide)) (q := 273) rfl ?_
      rw [nI_clamp (n := k + 1) (by omega), hf (k + 1) (by omega)]
      refine z_iload_n (i := 2) dL_isSpread_273 rfl rfl (q := 274) rfl ?_
      refine z_callSA (As := [_, _, _]) dL_isSpread_274 kL_154 (l_start (k := o (k + 1)) (t := 0) hs.1 hk242 (hv.1.1 _ (by omega)) (by decide)) rfl (zle rfl) ⟨zle rfl, zle rfl⟩ (zroom (by omega) (by omega)) (q := 277) rfl (fun hE274 X274 hk274 => ?_)
      refine z_aload_n (i := 0) dL_isSpread_277 rfl rfl (q := 278) rfl ?_
      refine z_aload dL_isSpread_278 rfl (q := 280) rfl ?_
      refine z_iload dL_isSpread_280 rfl (q := 282) rfl ?_
      refine z_iconst (v := 1) dL_isSpread_282 rfl (q := 283) rfl ?_
      refine z_isub dL_isSpread_283 (q := 284) rfl ?_
      rw [nI_pred]
      refine z_iald dL_isSpread_284 (wy_0 _ _ _ _) (zin (show k < 4 by omega) (by decide)) (q := 285) rfl ?_
      rw [nI_clamp (n := k) (by omega), hf k (by omega)]
      refine z_iload_n (i := 2) dL_isSpread_285 rfl rfl (q := 286) rfl ?_
      refine z_callSA (As := [_, _, _]) dL_isSpread_286 kL_154 (l_start (k := o (k)) (t := 0) hs.1 hk274 (hv.1.1 _ (by omega)) (by decide)) rfl (zle rfl) ⟨zle rfl, zle rfl⟩ (zroom (by omega) (by omega)) (q := 289) rfl (fun hE286 X286 hk286 => ?_)
      refine z_aload_n (i := 0) dL_isSpread_289 rfl rfl (q := 290) rfl ?_
      refine z_aload dL_isSpread_290 rfl (q := 292) rfl ?_
      refine z_iload dL_isSpread_292 rfl (q := 294) rfl ?_
      refine z_iconst (v := 1) dL_isSpread_294 rfl (q := 295) rfl ?_
      refine z_isub dL_isSpread_295 (q := 296) rfl ?_
      rw [nI_pred]
      refine z_iald dL_isSpread_296 (wy_0 _ _ _ _) (zin (show k < 4 by omega) (by decide)) (q := 297) rfl ?_
      rw [nI_clamp (n := k) (by omega), hf k (by omega)]
      refine z_iload_n (i := 2) dL_isSpread_297 rfl rfl (q := 298) rfl ?_
      refine z_callSA (As := [_, _, _]) dL_isSpread_298 kL_158 (l_size (k := o (k)) (t := 0) hs.1 hk286 (hv.1.1 _ (by omega)) (by decide)) rfl (zle rfl) ⟨zle rfl, zle rfl⟩ (zroom (by omega) (by omega)) (q := 301) rfl (fun hE298 X298 hk298 => ?_)
      refine z_iadd dL_isSpread_301 (q := 302) rfl ?_
      refine z_iload dL_isSpread_302 rfl (q := 304) rfl ?_
      refine z_iadd dL_isSpread_304 (q := 305) rfl ?_
      refine z_icmp_ne (tgt := 312) dL_isSpread_305 (by decide) (q := 308) rfl (fun h305 => absurd h305 (fun h9 => h9 (sp_gap hI (by decide) hv hm (p := k) (by omega)))) (fun h305 => ?_)
      refine z_iconst (v := 1) dL_isSpread_308 rfl (q := 309) rfl ?_
      refine z_goto (tgt := 313) dL_isSpread_309 (by decide) ?_
      refine z_istore dL_isSpread_313 (zle rfl) rfl (q := 315) rfl ?_
      refine z_iinc (v := nI (k + 1 + 1)) dL_isSpread_315 rfl (nI_add _ _) (zle rfl) rfl (q := 318) rfl ?_
      refine z_goto (tgt := 230) dL_isSpread_318 (by decide) ?_
      exact Z.widen (by omega) (by omega) (ih (k + 1 + 1) (by omega) _ _ hk298 kk)
set_option maxRecDepth 100000 in
set_option maxHeartbeats 4000000 in
theorem c_L_isSpread_0A {n nw : Nat} (hI : inv X n nw) (hk : keep0 X X1) : ZM G mL_isSpread 17 80 480 [.ref 0, .int (nI n), .int 0, .int (-1)] (zw X1 [] O) (nxP X n nw O) := by
  have h4 := hI.1
  obtain ⟨o, ho⟩ := ord_ex (t := 0) hI (by decide)
  refine nx_drop ?_
  refine ZM.go pL rfl rfl (zle rfl) (zl := [some (.ref 0), some (.int (nI n)), some (.int 0), some (.int (-1)), none, none, none, none, none, none, none, none, none]) rfl ?_
  refine z_iconst (v := 4) dL_isSpread_0 rfl (q := 1) rfl ?_
  refine z_newa (t := 0) (N := 4) (a0 := (4, .inl (fun _ => 0))) (ty := .int) dL_isSpread_1 wa_int rfl rfl (fun _ => rfl) (fun C h => by cases h) (by decide) rfl (zle rfl) (by rw [zw_len]; decide) (zroom (by omega) (by omega)) (q := 3) rfl ?_
  refine Z.eqw (w2 := zw X1 [Sum.inl (0, 4, .inl (fun _ => 0))] O) rfl ?_
  refine Z.eqst (st2 := [.ref 77]) rfl ?_
  refine z_astore dL_isSpread_3 (zle rfl) rfl (q := 5) rfl ?_
  refine z_iconst (v := 4) dL_isSpread_5 rfl (q := 6) rfl ?_
  refine z_newa (t := 0) (N := 4) (a0 := (4, .inl (fun _ => 0))) (ty := .int) dL_isSpread_6 wa_int rfl rfl (fun _ => rfl) (fun C h => by cases h) (by decide) rfl (zle rfl) (by rw [zw_len]; decide) (zroom (by omega) (by omega)) (q := 8) rfl ?_
  refine Z.eqw (w2 := zw X1 (ar2 (fun _ => 0) (fun _ => 0)) O) rfl ?_
  refine Z.eqst (st2 := [.ref 78]) rfl ?_
  refine z_astore dL_isSpread_8 (zle rfl) rfl (q := 10) rfl ?_
  refine z_iconst (v := 0) dL_isSpread_10 rfl (q := 11) rfl ?_
  refine z_istore dL_isSpread_11 (zle rfl) rfl (q := 13) rfl ?_
  refine Z.widen (k2 := 2 + 9 * 0) (n2 := 8 + 54 * 0) (by decide) (by decide) (sp_out_0 hI ho (fun X2 f g e6 e7 e8 hk hf hg => ?_) n 0 (by omega) _ _ _ _ _ hk (fun p _ h => absurd h (Nat.not_lt_zero _)) (fun j hj => absurd hj (Nat.not_lt_zero j)))
  refine z_aload_n (i := 0) dL_isSpread_109 rfl rfl (q := 110) rfl ?_
  refine z_bipush (v := 13) dL_isSpread_110 rfl (q := 112) rfl ?_
  refine z_iload_n (i := 2) dL_isSpread_112 rfl rfl (q := 113) rfl ?_
  refine z_callSF (As := [_]) dL_isSpread_113 kL_148 (c_L_axis (t := 0) (by decide)) rfl (zle rfl) ⟨zle rfl, zle rfl⟩ (zroom (by omega) (by omega)) (q := 116) rfl ?_
  refine z_iconst (v := 0) dL_isSpread_116 rfl (q := 117) rfl ?_
  refine z_iconst (v := 0) dL_isSpread_117 rfl (q := 118) rfl ?_
  refine z_callSWA (As := [_, _, _, _, _]) dL_isSpread_118 kL_151 (a_evenCost (t := 0) hI hk (by decide)) rfl (zle rfl) ⟨zle rfl, zle rfl⟩ (zroom (by omega) (by omega)) (q := 121) rfl (fun hE118 X118 hk118 => ?_)
  obtain ⟨⟨o2, b⟩, hv2⟩ := hE118
  have hv : evR X 0 n o b := evR_congr (ordR_uniq hI (by decide) hv2.1 ho) ho hv2
  rw [← ev_val hI (by decide) hv]
  rcases b with _ | ⟨c, gp, s⟩
  · refine Z.eqst (st2 := [.int (-2005)]) rfl ?_
    refine z_istore dL_isSpread_121 (zle rfl) rfl (q := 123) rfl ?_
    refine z_aload_n (i := 0) dL_isSpread_123 rfl rfl (q := 124) rfl ?_
    refine z_callVF (As := []) dL_isSpread_124 kL_166 c_X8_moved (wo_x _ _ _) rfl rfl (zle rfl) ⟨zle rfl, zle rfl⟩ (zroom (by omega) (by omega)) (q := 127) rfl ?_
    rw [hk118.2]
    refine z_lstore dL_isSpread_127 (zle rfl) rfl (q := 129) rfl ?_
    refine z_aload_n (i := 0) dL_isSpread_129 rfl rfl (q := 130) rfl ?_
    refine z_bipush (v := 8) dL_isSpread_130 rfl (q := 132) rfl ?_
    refine z_iload_n (i := 2) dL_isSpread_132 rfl rfl (q := 133) rfl ?_
    refine z_callSF (As := [_]) dL_isSpread_133 kL_148 (c_L_axis (t := 0) (by decide)) rfl (zle rfl) ⟨zle rfl, zle rfl⟩ (zroom (by omega) (by omega)) (q := 136) rfl ?_
    refine z_iconst (v := 0) dL_isSpread_136 rfl (q := 137) rfl ?_
    refine z_iconst (v := 0) dL_isSpread_137 rfl (q := 138) rfl ?_
    refine z_iconst (v := 0) dL_isSpread_138 rfl (q := 139) rfl ?_
    refine z_callSWD (As := [_, _, _, _, _, _]) dL_isSpread_139 kL_145 (d_spread (t := 0) hI hk118 (by decide) hv) rfl (zle rfl) ⟨zle rfl, zle rfl⟩ (zroom (by omega) (by omega)) (q := 142) rfl (fun X3 hm => ?_)
    refine z_istore dL_isSpread_142 (zle rfl) rfl (q := 144) rfl ?_
    refine z_iload dL_isSpread_144 rfl (q := 146) rfl ?_
    refine z_sipush (v := (-2005)) dL_isSpread_146 rfl (q := 149) rfl ?_
    refine z_icmp_ne (tgt := 176) dL_isSpread_149 (by decide) (q := 152) rfl (fun h149 => absurd h149 (by decide)) (fun h149 => ?_)
    refine z_iload dL_isSpread_152 rfl (q := 154) rfl ?_
    refine z_sipush (v := (-2005)) dL_isSpread_154 rfl (q := 157) rfl ?_
    refine z_icmp_ne (tgt := 174) dL_isSpread_157 (by decide) (q := 160) rfl (fun h157 => absurd h157 (by decide)) (fun h157 => ?_)
    refine z_aload_n (i := 0) dL_isSpread_160 rfl rfl (q := 161) rfl ?_
    refine z_callVF (As := []) dL_isSpread_161 kL_166 c_X8_moved (wo_x _ _ _) rfl rfl (zle rfl) ⟨zle rfl, zle rfl⟩ (zroom (by omega) (by omega)) (q := 164) rfl ?_
    rw [hm.2]
    refine z_lload dL_isSpread_164 rfl (q := 166) rfl ?_
    refine z_lcmp dL_isSpread_166 (q := 167) rfl ?_
    refine z_if_ne (tgt := 174) dL_isSpread_167 (by decide) (q := 170) rfl (fun h167 => absurd h167 (fun h9 => h9 (lg_self _))) (fun h167 => ?_)
    refine z_iconst (v := 1) dL_isSpread_170 rfl (q := 171) rfl ?_
    refine z_goto (tgt := 175) dL_isSpread_171 (by decide) ?_
    exact z_zret dL_isSpread_175 rfl (by first | rfl | assumption | decide) (zroom (by omega) (by omega)) ⟨rfl, _, _, rfl, inv_keep hm hI, (hm.1 4 (by decide)).2⟩
  · refine Z.eqst (st2 := [.int (nI c)]) rfl ?_
    refine z_istore dL_isSpread_121 (zle rfl) rfl (q := 123) rfl ?_
    refine z_aload_n (i := 0) dL_isSpread_123 rfl rfl (q := 124) rfl ?_
    refine z_callVF (As := []) dL_isSpread_124 kL_166 c_X8_moved (wo_x _ _ _) rfl rfl (zle rfl) ⟨zle rfl, zle rfl⟩ (zroom (by omega) (by omega)) (q := 127) rfl ?_
    rw [hk118.2]
    refine z_lstore dL_isSpread_127 (zle rfl) rfl (q := 129) rfl ?_
    refine z_aload_n (i := 0) dL_isSpread_129 rfl rfl (q := 130) rfl ?_
    refine z_bipush (v := 8) dL_isSpread_130 rfl (q := 132) rfl ?_
    refine z_iload_n (i := 2) dL_isSpread_132 rfl rfl (q := 133) rfl ?_
    refine z_callSF (As := [_]) dL_isSpread_133 kL_148 (c_L_axis (t := 0) (by decide)) rfl (zle rfl) ⟨zle rfl, zle rfl⟩ (zroom (by omega) (by omega)) (q := 136) rfl ?_
    refine z_iconst (v := 0) dL_isSpread_136 rfl (q := 137) rfl ?_
    refine z_iconst (v := 0) dL_isSpread_137 rfl (q := 138) rfl ?_
    refine z_iconst (v := 0) dL_isSpread_138 rfl (q := 139) rfl ?_
    refine z_callSWD (As := [_, _, _, _, _, _]) dL_isSpread_139 kL_145 (d_spread (t := 0) hI hk118 (by decide) hv) rfl (zle rfl) ⟨zle rfl, zle rfl⟩ (zroom (by omega) (by omega)) (q := 142) rfl (fun X3 hm => ?_)
    have hs := sp_facts hI (by decide) hv hm
    refine z_istore dL_isSpread_142 (zle rfl) rfl (q := 144) rfl ?_
    refine z_iload dL_isSpread_144 rfl (q := 146) rfl ?_
    refine z_sipush (v := (-2005)) dL_isSpread_146 rfl (q := 149) rfl ?_
    refine z_icmp_ne (tgt := 176) dL_isSpread_149 (by decide) (q := 152) rfl (fun h149 => ?_) (fun h149 => absurd h149 (nI_n2005 (ev_c hI (by decide) hv)))
    refine z_iload dL_isSpread_176 rfl (q := 178) rfl ?_
    refine z_if_lt (tgt := 221) dL_isSpread_178 (by decide) (q := 181) rfl (fun h178 => absurd h178 (nI_pos (by have := hs.2.2.2.2.1; omega))) (fun h178 => ?_)
    refine z_iload_n (i := 1) dL_isSpread_181 rfl rfl (q := 182) rfl ?_
    refine z_iconst (v := 1) dL_isSpread_182 rfl (q := 183) rfl ?_
    refine z_icmp_le (tgt := 221) dL_isSpread_183 (by decide) (q := 186) rfl (fun h183 => absurd h183 (nI_ge (a := 1) (b := n) (by have := hs.2.2.2.2.2.2.1; omega) (by omega))) (fun h183 => ?_)
    refine z_aload_n (i := 0) dL_isSpread_186 rfl rfl (q := 187) rfl ?_
    refine z_callVF (As := []) dL_isSpread_187 kL_166 c_X8_moved (wo_x _ _ _) rfl rfl (zle rfl) ⟨zle rfl, zle rfl⟩ (zroom (by omega) (by omega)) (q := 190) rfl ?_
    refine z_lload dL_isSpread_190 rfl (q := 192) rfl ?_
    refine z_iload dL_isSpread_192 rfl (q := 194) rfl ?_
    refine z_i2l dL_isSpread_194 (q := 195) rfl ?_
    refine z_ladd dL_isSpread_195 (q := 196) rfl ?_
    refine z_lcmp dL_isSpread_196 (q := 197) rfl ?_
    refine z_if_ne (tgt := 221) dL_isSpread_197 (by decide) (q := 200) rfl (fun h197 => absurd h197 (fun h9 => h9 (sp_mv hm (keep0_refl X3)))) (fun h197 => ?_)
    refine z_iload_n (i := 3) dL_isSpread_200 rfl rfl (q := 201) rfl ?_
    refine z_if_lt (tgt := 217) dL_isSpread_201 (by decide) (q := 204) rfl (fun h201 => ?_) (fun h201 => absurd h201 (by decide))
    refine z_iconst (v := 1) dL_isSpread_217 rfl (q := 218) rfl ?_
    refine z_goto (tgt := 222) dL_isSpread_218 (by decide) ?_
    refine z_istore dL_isSpread_222 (zle rfl) rfl (q := 224) rfl ?_
    refine z_iconst (v := 0) dL_isSpread_224 rfl (q := 225) rfl ?_
    refine z_istore dL_isSpread_225 (zle rfl) rfl (q := 227) rfl ?_
    refine z_iconst (v := 0) dL_isSpread_227 rfl (q := 228) rfl ?_
    refine z_istore dL_isSpread_228 (zle rfl) rfl (q := 230) rfl ?_
    refine Z.widen (k2 := 41 + 4 * 0) (n2 := 242 + 24 * 0) (by omega) (by omega) (sp_end_0 hI hv hm ⟨hs.1, trivial⟩ hf hg n 0 (by omega) _ 0 (keep0_refl X3) (fun X5 e12 hk5 => ?_))
    refine z_iload dL_isSpread_321 rfl (q := 323) rfl ?_
    refine z_if_eq (tgt := 370) dL_isSpread_323 (by decide) (q := 326) rfl (fun h323 => absurd h323 (by decide)) (fun h323 => ?_)
    refine z_iload dL_isSpread_326 rfl (q := 328) rfl ?_
    refine z_iload dL_isSpread_328 rfl (q := 330) rfl ?_
    refine z_icmp_ne (tgt := 370) dL_isSpread_330 (by decide) (q := 333) rfl (fun h330 => absurd h330 (fun h9 => h9 hs.2.2.2.1)) (fun h330 => ?_)
    refine z_aload_n (i := 0) dL_isSpread_333 rfl rfl (q := 334) rfl ?_
    refine z_bipush (v := 13) dL_isSpread_334 rfl (q := 336) rfl ?_
    refine z_iload_n (i := 2) dL_isSpread_336 rfl rfl (q := 337) rfl ?_
    refine z_callSF (As := [_]) dL_isSpread_337 kL_148 (c_L_axis (t := 0) (by decide)) rfl (zle rfl) ⟨zle rfl, zle rfl⟩ (zroom (by omega) (by omega)) (q := 340) rfl ?_
    refine z_iconst (v := 0) dL_isSpread_340 rfl (q := 341) rfl ?_
    refine z_iconst (v := 0) dL_isSpread_341 rfl (q := 342) rfl ?_
    refine z_callSWA (As := [_, _, _, _, _]) dL_isSpread_342 kL_151 (a_evenCost (t := 0) hs.1 hk5 (by decide)) rfl (zle rfl) ⟨zle rfl, zle rfl⟩ (zroom (by omega) (by omega)) (q := 345) rfl (fun hE342 X342 hk342 => ?_)
    refine z_if_ne (tgt := 370) dL_isSpread_345 (by decide) (q := 348) rfl (fun h345 => absurd h345 (fun h9 => h9 (sp_ev0 hI (by decide) hv hm))) (fun h345 => ?_)
    refine z_aload_n (i := 0) dL_isSpread_348 rfl rfl (q := 349) rfl ?_
    refine z_bipush (v := 8) dL_isSpread_349 rfl (q := 351) rfl ?_
    refine z_iload_n (i := 2) dL_isSpread_351 rfl rfl (q := 352) rfl ?_
    refine z_callSF (As := [_]) dL_isSpread_352 kL_148 (c_L_axis (t := 0) (by decide)) rfl (zle rfl) ⟨zle rfl, zle rfl⟩ (zroom (by omega) (by omega)) (q := 355) rfl ?_
    refine z_iconst (v := 0) dL_isSpread_355 rfl (q := 356) rfl ?_
    refine z_iconst (v := 0) dL_isSpread_356 rfl (q := 357) rfl ?_
    refine z_iconst (v := 0) dL_isSpread_357 rfl (q := 358) rfl ?_
    refine z_callSWD (As := [_, _, _, _, _, _]) dL_isSpread_358 kL_145 (d_spread (t := 0) hs.1 hk342 (by decide) hs.2.1) rfl (zle rfl) ⟨zle rfl, zle rfl⟩ (zroom (by omega) (by omega)) (q := 361) rfl (fun X4 hm4 => ?_)
    have hs4 := sp_facts hs.1 (by decide) hs.2.1 hm4
    refine z_iload dL_isSpread_361 rfl (q := 363) rfl ?_
    refine z_icmp_ne (tgt := 370) dL_isSpread_363 (by decide) (q := 366) rfl (fun h363 => absurd h363 (fun h9 => h9 rfl)) (fun h363 => ?_)
    refine z_iconst (v := 1) dL_isSpread_366 rfl (q := 367) rfl ?_
    refine z_goto (tgt := 371) dL_isSpread_367 (by decide) ?_
    exact z_zret dL_isSpread_371 rfl (by first | rfl | assumption | decide) (zroom (by omega) (by omega)) ⟨rfl, _, _, rfl, hs4.1, (sp_rows hm4 4 (by decide) (by decide)).trans (sp_rows hm 4 (by decide) (by decide))⟩
set_option maxRecDepth 100000 in
set_option maxHeartbeats 4000000 in
theorem c_L_isSpread_0B {n nw lk : Nat} (hI : inv X n nw) (hk : keep0 X X1) (hlk : lk < n) (hll : ¬ X.2.1 4 lk = 0) : ZM G mL_isSpread 17 80 480 [.ref 0, .int (nI n), .int 0, .int (nI lk)] (zw X1 [] O) (nxP X n nw O) := by
  have h4 := hI.1
  obtain ⟨o, ho⟩ := ord_ex (t := 0) hI (by decide)
  refine nx_drop ?_
  refine ZM.go pL rfl rfl (zle rfl) (zl := [some (.ref 0), some (.int (nI n)), some (.int 0), some (.int (nI lk)), none, none, none, none, none, none, none, none, none]) rfl ?_
  refine z_iconst (v := 4) dL_isSpread_0 rfl (q := 1) rfl ?_
  refine z_newa (t := 0) (N := 4) (a0 := (4, .inl (fun _ => 0))) (ty := .int) dL_isSpread_1 wa_int rfl rfl (fun _ => rfl) (fun C h => by cases h) (by decide) rfl (zle rfl) (by rw [zw_len]; decide) (zroom (by omega) (by omega)) (q := 3) rfl ?_
  refine Z.eqw (w2 := zw X1 [Sum.inl (0, 4, .inl (fun _ => 0))] O) rfl ?_
  refine Z.eqst (st2 := [.ref 77]) rfl ?_
  refine z_astore dL_isSpread_3 (zle rfl) rfl (q := 5) rfl ?_
  refine z_iconst (v := 4) dL_isSpread_5 rfl (q := 6) rfl ?_
  refine z_newa (t := 0) (N := 4) (a0 := (4, .inl (fun _ => 0))) (ty := .int) dL_isSpread_6 wa_int rfl rfl (fun _ => rfl) (fun C h => by cases h) (by decide) rfl (zle rfl) (by rw [zw_len]; decide) (zroom (by omega) (by omega)) (q := 8) rfl ?_
  refine Z.eqw (w2 := zw X1 (ar2 (fun _ => 0) (fun _ => 0)) O) rfl ?_
  refine Z.eqst (st2 := [.ref 78]) rfl ?_
  refine z_astore dL_isSpread_8 (zle rfl) rfl (q := 10) rfl ?_
  refine z_iconst (v := 0) dL_isSpread_10 rfl (q := 11) rfl ?_
  refine z_istore dL_isSpread_11 (zle rfl) rfl (q := 13) rfl ?_
  refine Z.widen (k2 := 2 + 9 * 0) (n2 := 8 + 54 * 0) (by decide) (by decide) (sp_out_0 hI ho (fun X2 f g e6 e7 e8 hk hf hg => ?_) n 0 (by omega) _ _ _ _ _ hk (fun p _ h => absurd h (Nat.not_lt_zero _)) (fun j hj => absurd hj (Nat.not_lt_zero j)))
  refine z_aload_n (i := 0) dL_isSpread_109 rfl rfl (q := 110) rfl ?_
  refine z_bipush (v := 13) dL_isSpread_110 rfl (q := 112) rfl ?_
  refine z_iload_n (i := 2) dL_isSpread_112 rfl rfl (q := 113) rfl ?_
  refine z_callSF (As := [_]) dL_isSpread_113 kL_148 (c_L_axis (t := 0) (by decide)) rfl (zle rfl) ⟨zle rfl, zle rfl⟩ (zroom (by omega) (by omega)) (q := 116) rfl ?_
  refine z_iconst (v := 0) dL_isSpread_116 rfl (q := 117) rfl ?_
  refine z_iconst (v := 0) dL_isSpread_117 rfl (q := 118) rfl ?_
  refine z_callSWA (As := [_, _, _, _, _]) dL_isSpread_118 kL_151 (a_evenCost (t := 0) hI hk (by decide)) rfl (zle rfl) ⟨zle rfl, zle rfl⟩ (zroom (by omega) (by omega)) (q := 121) rfl (fun hE118 X118 hk118 => ?_)
  obtain ⟨⟨o2, b⟩, hv2⟩ := hE118
  have hv : evR X 0 n o b := evR_congr (ordR_uniq hI (by decide) hv2.1 ho) ho hv2
  rw [← ev_val hI (by decide) hv]
  rcases b with _ | ⟨c, gp, s⟩
  · refine Z.eqst (st2 := [.int (-2005)]) rfl ?_
    refine z_istore dL_isSpread_121 (zle rfl) rfl (q := 123) rfl ?_
    refine z_aload_n (i := 0) dL_isSpread_123 rfl rfl (q := 124) rfl ?_
    refine z_callVF (As := []) dL_isSpread_124 kL_166 c_X8_moved (wo_x _ _ _) rfl rfl (zle rfl) ⟨zle rfl, zle rfl⟩ (zroom (by omega) (by omega)) (q := 127) rfl ?_
    rw [hk118.2]
    refine z_lstore dL_isSpread_127 (zle rfl) rfl (q := 129) rfl ?_
    refine z_aload_n (i := 0) dL_isSpread_129 rfl rfl (q := 130) rfl ?_
    refine z_bipush (v := 8) dL_isSpread_130 rfl (q := 132) rfl ?_
    refine z_iload_n (i := 2) dL_isSpread_132 rfl rfl (q := 133) rfl ?_
    refine z_callSF (As := [_]) dL_isSpread_133 kL_148 (c_L_axis (t := 0) (by decide)) rfl (zle rfl) ⟨zle rfl, zle rfl⟩ (zroom (by omega) (by omega)) (q := 136) rfl ?_
    refine z_iconst (v := 0) dL_isSpread_136 rfl (q := 137) rfl ?_
    refine z_iconst (v := 0) dL_isSpread_137 rfl (q := 138) rfl ?_
    refine z_iconst (v := 0) dL_isSpread_138 rfl (q := 139) rfl ?_
    refine z_callSWD (As := [_, _, _, _, _, _]) dL_isSpread_139 kL_145 (d_spread (t := 0) hI hk118 (by decide) hv) rfl (zle rfl) ⟨zle rfl, zle rfl⟩ (zroom (by omega) (by omega)) (q := 142) rfl (fun X3 hm => ?_)
    refine z_istore dL_isSpread_142 (zle rfl) rfl (q := 144) rfl ?_
    refine z_iload dL_isSpread_144 rfl (q := 146) rfl ?_
    refine z_sipush (v := (-2005)) dL_isSpread_146 rfl (q := 149) rfl ?_
    refine z_icmp_ne (tgt := 176) dL_isSpread_149 (by decide) (q := 152) rfl (fun h149 => absurd h149 (by decide)) (fun h149 => ?_)
    refine z_iload dL_isSpread_152 rfl (q := 154) rfl ?_
    refine z_sipush (v := (-2005)) dL_isSpread_154 rfl (q := 157) rfl ?_
    refine z_icmp_ne (tgt := 174) dL_isSpread_157 (by decide) (q := 160) rfl (fun h157 => absurd h157 (by decide)) (fun h157 => ?_)
    refine z_aload_n (i := 0) dL_isSpread_160 rfl rfl (q := 161) rfl ?_
    refine z_callVF (As := []) dL_isSpread_161 kL_166 c_X8_moved (wo_x _ _ _) rfl rfl (zle rfl) ⟨zle rfl, zle rfl⟩ (zroom (by omega) (by omega)) (q := 164) rfl ?_
    rw [hm.2]
    refine z_lload dL_isSpread_164 rfl (q := 166) rfl ?_
    refine z_lcmp dL_isSpread_166 (q := 167) rfl ?_
    refine z_if_ne (tgt := 174) dL_isSpread_167 (by decide) (q := 170) rfl (fun h167 => absurd h167 (fun h9 => h9 (lg_self _))) (fun h167 => ?_)
    refine z_iconst (v := 1) dL_isSpread_170 rfl (q := 171) rfl ?_
    refine z_goto (tgt := 175) dL_isSpread_171 (by decide) ?_
    exact z_zret dL_isSpread_175 rfl (by first | rfl | assumption | decide) (zroom (by omega) (by omega)) ⟨rfl, _, _, rfl, inv_keep hm hI, (hm.1 4 (by decide)).2⟩
  · refine Z.eqst (st2 := [.int (nI c)]) rfl ?_
    refine z_istore dL_isSpread_121 (zle rfl) rfl (q := 123) rfl ?_
    refine z_aload_n (i := 0) dL_isSpread_123 rfl rfl (q := 124) rfl ?_
    refine z_callVF (As := []) dL_isSpread_124 kL_166 c_X8_moved (wo_x _ _ _) rfl rfl (zle rfl) ⟨zle rfl, zle rfl⟩ (zroom (by omega) (by omega)) (q := 127) rfl ?_
    rw [hk118.2]
    refine z_lstore dL_isSpread_127 (zle rfl) rfl (q := 129) rfl ?_
    refine z_aload_n (i := 0) dL_isSpread_129 rfl rfl (q := 130) rfl ?_
    refine z_bipush (v := 8) dL_isSpread_130 rfl (q := 132) rfl ?_
    refine z_iload_n (i := 2) dL_isSpread_132 rfl rfl (q := 133) rfl ?_
    refine z_callSF (As := [_]) dL_isSpread_133 kL_148 (c_L_axis (t := 0) (by decide)) rfl (zle rfl) ⟨zle rfl, zle rfl⟩ (zroom (by omega) (by omega)) (q := 136) rfl ?_
    refine z_iconst (v := 0) dL_isSpread_136 rfl (q := 137) rfl ?_
    refine z_iconst (v := 0) dL_isSpread_137 rfl (q := 138) rfl ?_
    refine z_iconst (v := 0) dL_isSpread_138 rfl (q := 139) rfl ?_
    refine z_callSWD (As := [_, _, _, _, _, _]) dL_isSpread_139 kL_145 (d_spread (t := 0) hI hk118 (by decide) hv) rfl (zle rfl) ⟨zle rfl, zle rfl⟩ (zroom (by omega) (by omega)) (q := 142) rfl (fun X3 hm => ?_)
    have hs := sp_facts hI (by decide) hv hm
    refine z_istore dL_isSpread_142 (zle rfl) rfl (q := 144) rfl ?_
    refine z_iload dL_isSpread_144 rfl (q := 146) rfl ?_
    refine z_sipush (v := (-2005)) dL_isSpread_146 rfl (q := 149) rfl ?_
    refine z_icmp_ne (tgt := 176) dL_isSpread_149 (by decide) (q := 152) rfl (fun h149 => ?_) (fun h149 => absurd h149 (nI_n2005 (ev_c hI (by decide) hv)))
    refine z_iload dL_isSpread_176 rfl (q := 178) rfl ?_
    refine z_if_lt (tgt := 221) dL_isSpread_178 (by decide) (q := 181) rfl (fun h178 => absurd h178 (nI_pos (by have := hs.2.2.2.2.1; omega))) (fun h178 => ?_)
    refine z_iload_n (i := 1) dL_isSpread_181 rfl rfl (q := 182) rfl ?_
    refine z_iconst (v := 1) dL_isSpread_182 rfl (q := 183) rfl ?_
    refine z_icmp_le (tgt := 221) dL_isSpread_183 (by decide) (q := 186) rfl (fun h183 => absurd h183 (nI_ge (a := 1) (b := n) (by have := hs.2.2.2.2.2.2.1; omega) (by omega))) (fun h183 => ?_)
    refine z_aload_n (i := 0) dL_isSpread_186 rfl rfl (q := 187) rfl ?_
    refine z_callVF (As := []) dL_isSpread_187 kL_166 c_X8_moved (wo_x _ _ _) rfl rfl (zle rfl) ⟨zle rfl, zle rfl⟩ (zroom (by omega) (by omega)) (q := 190) rfl ?_
    refine z_lload dL_isSpread_190 rfl (q := 192) rfl ?_
    refine z_iload dL_isSpread_192 rfl (q := 194) rfl ?_
    refine z_i2l dL_isSpread_194 (q := 195) rfl ?_
    refine z_ladd dL_isSpread_195 (q := 196) rfl ?_
    refine z_lcmp dL_isSpread_196 (q := 197) rfl ?_
    refine z_if_ne (tgt := 221) dL_isSpread_197 (by decide) (q := 200) rfl (fun h197 => absurd h197 (fun h9 => h9 (sp_mv hm (keep0_refl X3)))) (fun h197 => ?_)
    refine z_iload_n (i := 3) dL_isSpread_200 rfl rfl (q := 201) rfl ?_
    refine z_if_lt (tgt := 217) dL_isSpread_201 (by decide) (q := 204) rfl (fun h201 => absurd h201 (nI_pos (by omega))) (fun h201 => ?_)
    refine z_aload_n (i := 0) dL_isSpread_204 rfl rfl (q := 205) rfl ?_
    refine z_iload_n (i := 3) dL_isSpread_205 rfl rfl (q := 206) rfl ?_
    refine z_iload_n (i := 2) dL_isSpread_206 rfl rfl (q := 207) rfl ?_
    refine z_callSA (As := [_, _, _]) dL_isSpread_207 kL_154 (l_start (k := lk) (t := 0) hs.1 (keep0_refl X3) (by omega) (by decide)) rfl (zle rfl) ⟨zle rfl, zle rfl⟩ (zroom (by omega) (by omega)) (q := 210) rfl (fun hE207 X207 hk207 => ?_)
    refine z_aload dL_isSpread_210 rfl (q := 212) rfl ?_
    refine z_iload_n (i := 3) dL_isSpread_212 rfl rfl (q := 213) rfl ?_
    refine z_iald dL_isSpread_213 (wy_1 _ _ _ _ _) (zin (by omega) (by decide)) (q := 214) rfl ?_
    rw [nI_clamp (n := lk) (by omega), hg lk hlk]
    refine z_icmp_ne (tgt := 221) dL_isSpread_214 (by decide) (q := 217) rfl (fun h214 => absurd h214 (fun h9 => h9 (hs.2.2.2.2.2.2.2.1 lk hlk hll))) (fun h214 => ?_)
    refine z_iconst (v := 1) dL_isSpread_217 rfl (q := 218) rfl ?_
    refine z_goto (tgt := 222) dL_isSpread_218 (by decide) ?_
    refine z_istore dL_isSpread_222 (zle rfl) rfl (q := 224) rfl ?_
    refine z_iconst (v := 0) dL_isSpread_224 rfl (q := 225) rfl ?_
    refine z_istore dL_isSpread_225 (zle rfl) rfl (q := 227) rfl ?_
    refine z_iconst (v := 0) dL_isSpread_227 rfl (q := 228) rfl ?_
    refine z_istore dL_isSpread_228 (zle rfl) rfl (q := 230) rfl ?_
    refine Z.widen (k2 := 41 + 4 * 0) (n2 := 242 + 24 * 0) (by omega) (by omega) (sp_end_0 hI hv hm ⟨hs.1, trivial⟩ hf hg n 0 (by omega) _ 0 hk207 (fun X5 e12 hk5 => ?_))
    refine z_iload dL_isSpread_321 rfl (q := 323) rfl ?_
    refine z_if_eq (tgt := 370) dL_isSpread_323 (by decide) (q := 326) rfl (fun h323 => absurd h323 (by decide)) (fun h323 => ?_)
    refine z_iload dL_isSpread_326 rfl (q := 328) rfl ?_
    refine z_iload dL_isSpread_328 rfl (q := 330) rfl ?_
    refine z_icmp_ne (tgt := 370) dL_isSpread_330 (by decide) (q := 333) rfl (fun h330 => absurd h330 (fun h9 => h9 hs.2.2.2.1)) (fun h330 => ?_)
    refine z_aload_n (i := 0) dL_isSpread_333 rfl rfl (q := 334) rfl ?_
    refine z_bipush (v := 13) dL_isSpread_334 rfl (q := 336) rfl ?_
    refine z_iload_n (i := 2) dL_isSpread_336 rfl rfl (q := 337) rfl ?_
    refine z_callSF (As := [_]) dL_isSpread_337 kL_148 (c_L_axis (t := 0) (by decide)) rfl (zle rfl) ⟨zle rfl, zle rfl⟩ (zroom (by omega) (by omega)) (q := 340) rfl ?_
    refine z_iconst (v := 0) dL_isSpread_340 rfl (q := 341) rfl ?_
    refine z_iconst (v := 0) dL_isSpread_341 rfl (q := 342) rfl ?_
    refine z_callSWA (As := [_, _, _, _, _]) dL_isSpread_342 kL_151 (a_evenCost (t := 0) hs.1 hk5 (by decide)) rfl (zle rfl) ⟨zle rfl, zle rfl⟩ (zroom (by omega) (by omega)) (q := 345) rfl (fun hE342 X342 hk342 => ?_)
    refine z_if_ne (tgt := 370) dL_isSpread_345 (by decide) (q := 348) rfl (fun h345 => absurd h345 (fun h9 => h9 (sp_ev0 hI (by decide) hv hm))) (fun h345 => ?_)
    refine z_aload_n (i := 0) dL_isSpread_348 rfl rfl (q := 349) rfl ?_
    refine z_bipush (v := 8) dL_isSpread_349 rfl (q := 351) rfl ?_
    refine z_iload_n (i := 2) dL_isSpread_351 rfl rfl (q := 352) rfl ?_
    refine z_callSF (As := [_]) dL_isSpread_352 kL_148 (c_L_axis (t := 0) (by decide)) rfl (zle rfl) ⟨zle rfl, zle rfl⟩ (zroom (by omega) (by omega)) (q := 355) rfl ?_
    refine z_iconst (v := 0) dL_isSpread_355 rfl (q := 356) rfl ?_
    refine z_iconst (v := 0) dL_isSpread_356 rfl (q := 357) rfl ?_
    refine z_iconst (v := 0) dL_isSpread_357 rfl (q := 358) rfl ?_
    refine z_callSWD (As := [_, _, _, _, _, _]) dL_isSpread_358 kL_145 (d_spread (t := 0) hs.1 hk342 (by decide) hs.2.1) rfl (zle rfl) ⟨zle rfl, zle rfl⟩ (zroom (by omega) (by omega)) (q := 361) rfl (fun X4 hm4 => ?_)
    have hs4 := sp_facts hs.1 (by decide) hs.2.1 hm4
    refine z_iload dL_isSpread_361 rfl (q := 363) rfl ?_
    refine z_icmp_ne (tgt := 370) dL_isSpread_363 (by decide) (q := 366) rfl (fun h363 => absurd h363 (fun h9 => h9 rfl)) (fun h363 => ?_)
    refine z_iconst (v := 1) dL_isSpread_366 rfl (q := 367) rfl ?_
    refine z_goto (tgt := 371) dL_isSpread_367 (by decide) ?_
    exact z_zret dL_isSpread_371 rfl (by first | rfl | assumption | decide) (zroom (by omega) (by omega)) ⟨rfl, _, _, rfl, hs4.1, (sp_rows hm4 4 (by decide) (by decide)).trans (sp_rows hm 4 (by decide) (by decide))⟩
set_option maxRecDepth 100000 in
set_option maxHeartbeats 4000000 in
theorem sp_in_1 {n nw k k0 n0 : Nat} {lo : Int32} {f g : Nat → Int32} {P : zRes → zWorld → Prop} (hI : inv X n nw) (hkn : k < n) (hgk : g k = X.2.1 (2 * 1) k) (hr : k0 + 8 ≤ 80 ∧ n0 + 48 ≤ 480) : ∀ (m j : Nat), j + m = n → ∀ (X1 : zX) (a : Int32), keep0 X X1 → (∀ (X2 : zX) (e8 : Option Value), keep0 X X2 → Z G mL_isSpread (zrm 17 80 480) (k0 + 8) (n0 + 48) 96 [some (.ref 0), some (.int (nI n)), some (.int 1), some (.int lo), some (.ref 77), some (.ref 78), some (.int (nI k)), some (.int (rcnt (lessP X 1 k) j m a)), e8, none, none, none, none] [] (zw X2 (ar2 f g) O) P) → Z G mL_isSpread (zrm 17 80 480) (k0 + 2 * j) (n0 + 12 * j) 37 [some (.ref 0), some (.int (nI n)), some (.int 1), some (.int lo), some (.ref 77), some (.ref 78), some (.int (nI k)), some (.int a), some (.int (nI j)), none, none, none, none] [] (zw X1 (ar2 f g) O) P := by
  have h4 := hI.1
  intro m
  induction m with
  | zero =>
    intro j hj X1 a hk kk
    refine z_iload dL_isSpread_37 rfl (q := 39) rfl ?_
    refine z_iload_n (i := 1) dL_isSpread_39 rfl rfl (q := 40) rfl ?_
    refine z_icmp_ge (tgt := 96) dL_isSpread_40 (by decide) (q := 43) rfl (fun h40 => ?_) (fun h40 => absurd (nI_le (show n ≤ j by omega) (by omega)) h40)
    exact Z.widen (by omega) (by omega) (kk _ _ hk)
  | succ m ih =>
    intro j hj X1 a hk kk
    refine z_iload dL_isSpread_37 rfl (q := 39) rfl ?_
    refine z_iload_n (i := 1) dL_isSpread_39 rfl rfl (q := 40) rfl ?_
    refine z_icmp_ge (tgt := 96) dL_isSpread_40 (by decide) (q := 43) rfl (fun h40 => absurd h40 (nI_ge (show j < n by omega) (by omega))) (fun h40 => ?_)
    refine z_iload dL_isSpread_43 rfl (q := 45) rfl ?_
    refine z_aload_n (i := 0) dL_isSpread_45 rfl rfl (q := 46) rfl ?_
    refine z_iload dL_isSpread_46 rfl (q := 48) rfl ?_
    refine z_iload_n (i := 2) dL_isSpread_48 rfl rfl (q := 49) rfl ?_
    refine z_callSA (As := [_, _, _]) dL_isSpread_49 kL_154 (l_start (k := j) (t := 1) hI hk (by omega) (by decide)) rfl (zle rfl) ⟨zle rfl, zle rfl⟩ (zroom (by omega) (by omega)) (q := 52) rfl (fun hE49 X49 hk49 => ?_)
    refine z_aload dL_isSpread_52 rfl (q := 54) rfl ?_
    refine z_iload dL_isSpread_54 rfl (q := 56) rfl ?_
    refine z_iald dL_isSpread_56 (wy_1 _ _ _ _ _) (zin (by omega) (by decide)) (q := 57) rfl ?_
    rw [nI_clamp (n := k) (by omega), hgk]
    refine z_icmp_lt (tgt := 82) dL_isSpread_57 (by decide) (q := 60) rfl (fun h57 => ?_) (fun h57 => ?_)
    · refine z_iconst (v := 1) dL_isSpread_82 rfl (q := 83) rfl ?_
      refine z_goto (tgt := 87) dL_isSpread_83 (by decide) ?_
      refine z_iadd dL_isSpread_87 (q := 88) rfl ?_
      refine z_istore dL_isSpread_88 (zle rfl) rfl (q := 90) rfl ?_
      refine z_iinc (v := nI (j + 1)) dL_isSpread_90 rfl (nI_add _ _) (zle rfl) rfl (q := 93) rfl ?_
      refine z_goto (tgt := 37) dL_isSpread_93 (by decide) ?_
      have hp : lessP X 1 k j := Or.inl h57
      exact Z.widen (by omega) (by omega) (ih (j + 1) (by omega) _ (a + 1) hk49 (fun X2 e8 hk2 => by rw [← rcnt_t hp]; exact kk X2 e8 hk2))
    · refine z_aload_n (i := 0) dL_isSpread_60 rfl rfl (q := 61) rfl ?_
      refine z_iload dL_isSpread_61 rfl (q := 63) rfl ?_
      refine z_iload_n (i := 2) dL_isSpread_63 rfl rfl (q := 64) rfl ?_
      refine z_callSA (As := [_, _, _]) dL_isSpread_64 kL_154 (l_start (k := j) (t := 1) hI hk49 (by omega) (by decide)) rfl (zle rfl) ⟨zle rfl, zle rfl⟩ (zroom (by omega) (by omega)) (q := 67) rfl (fun hE64 X64 hk64 => ?_)
      refine z_aload dL_isSpread_67 rfl (q := 69) rfl ?_
      refine z_iload dL_isSpread_69 rfl (q := 71) rfl ?_
      refine z_iald dL_isSpread_71 (wy_1 _ _ _ _ _) (zin (by omega) (by decide)) (q := 72) rfl ?_
      rw [nI_clamp (n := k) (by omega), hgk]
      refine z_icmp_ne (tgt := 86) dL_isSpread_72 (by decide) (q := 75) rfl (fun h72 => ?_) (fun h72 => ?_)
      · refine z_iconst (v := 0) dL_isSpread_86 rfl (q := 87) rfl ?_
        refine z_iadd dL_isSpread_87 (q := 88) rfl ?_
        refine Z.eqst (st2 := [.int a]) (by rw [Int32.add_zero]) ?_
        refine z_istore dL_isSpread_88 (zle rfl) rfl (q := 90) rfl ?_
        refine z_iinc (v := nI (j + 1)) dL_isSpread_90 rfl (nI_add _ _) (zle rfl) rfl (q := 93) rfl ?_
        refine z_goto (tgt := 37) dL_isSpread_93 (by decide) ?_
        have hp : ¬ lessP X 1 k j := fun h9 => h9.elim h57 fun h8 => h72 h8.1
        exact Z.widen (by omega) (by omega) (ih (j + 1) (by omega) _ a hk64 (fun X2 e8 hk2 => by rw [← rcnt_f hp]; exact kk X2 e8 hk2))
      · refine z_iload dL_isSpread_75 rfl (q := 77) rfl ?_
        refine z_iload dL_isSpread_77 rfl (q := 79) rfl ?_
        refine z_icmp_ge (tgt := 86) dL_isSpread_79 (by decide) (q := 82) rfl (fun h79 => ?_) (fun h79 => ?_)
        · refine z_iconst (v := 0) dL_isSpread_86 rfl (q := 87) rfl ?_
          refine z_iadd dL_isSpread_87 (q := 88) rfl ?_
          refine Z.eqst (st2 := [.int a]) (by rw [Int32.add_zero]) ?_
          refine z_istore dL_isSpread_88 (zle rfl) rfl (q := 90) rfl ?_
          refine z_iinc (v := nI (j + 1)) dL_isSpread_90 rfl (nI_add _ _) (zle rfl) rfl (q := 93) rfl ?_
          refine z_goto (tgt := 37) dL_isSpread_93 (by decide) ?_
          have hp : ¬ lessP X 1 k j := fun h9 => h9.elim h57 fun h8 => absurd h8.2 (Int32.not_lt.mpr h79)
          exact Z.widen (by omega) (by omega) (ih (j + 1) (by omega) _ a hk64 (fun X2 e8 hk2 => by rw [← rcnt_f hp]; exact kk X2 e8 hk2))
        · refine z_iconst (v := 1) dL_isSpread_82 rfl (q := 83) rfl ?_
          refine z_goto (tgt := 87) dL_isSpread_83 (by decide) ?_
          refine z_iadd dL_isSpread_87 (q := 88) rfl ?_
          refine z_istore dL_isSpread_88 (zle rfl) rfl (q := 90) rfl ?_
          refine z_iinc (v := nI (j + 1)) dL_isSpread_90 rfl (nI_add _ _) (zle rfl) rfl (q := 93) rfl ?_
          refine z_goto (tgt := 37) dL_isSpread_93 (by decide) ?_
          have hp : lessP X 1 k j := Or.inr ⟨h72, Int32.not_le.mp h79⟩
          exact Z.widen (by omega) (by omega) (ih (j + 1) (by omega) _ (a + 1) hk64 (fun X2 e8 hk2 => by rw [← rcnt_t hp]; exact kk X2 e8 hk2))
set_option maxRecDepth 100000 in
set_option maxHeartbeats 4000000 in
theorem sp_out_1 {n nw : Nat} {lo : Int32} {o : Nat → Nat} {P : zRes → zWorld → Prop} (hI : inv X n nw) (ho : ordR X 1 n o) (kk : ∀ (X2 : zX) (f g : Nat → Int32) (e6 e7 e8 : Option Value), keep0 X X2 → (∀ p, p < n → f p = nI (o p)) → (∀ j, j < n → g j = X.2.1 (2 * 1) j) → Z G mL_isSpread (zrm 17 80 480) 38 224 109 [some (.ref 0), some (.int (nI n)), some (.int 1), some (.int lo), some (.ref 77), some (.ref 78), e6, e7, e8, none, none, none, none] [] (zw X2 (ar2 f g) O) P) : ∀ (m k : Nat), k + m = n → ∀ (X1 : zX) (f g : Nat → Int32) (e7 e8 : Option Value), keep0 X X1 → (∀ p, p < n → o p < k → f p = nI (o p)) → (∀ j, j < k → g j = X.2.1 (2 * 1) j) → Z G mL_isSpread (zrm 17 80 480) (2 + 9 * k) (8 + 54 * k) 13 [some (.ref 0), some (.int (nI n)), some (.int 1), some (.int lo), some (.ref 77), some (.ref 78), some (.int (nI k)), e7, e8, none, none, none, none] [] (zw X1 (ar2 f g) O) P := by
  have h4 := hI.1
  intro m
  induction m with
  | zero =>
    intro k hk0 X1 f g e7 e8 hk hf hg
    refine z_iload dL_isSpread_13 rfl (q := 15) rfl ?_
    refine z_iload_n (i := 1) dL_isSpread_15 rfl rfl (q := 16) rfl ?_
    refine z_icmp_ge (tgt := 109) dL_isSpread_16 (by decide) (q := 19) rfl (fun h16 => ?_) (fun h16 => absurd (nI_le (show n ≤ k by omega) (by omega)) h16)
    exact Z.widen (by omega) (by omega) (kk _ _ _ _ _ _ hk (fun p hp => hf p hp (by have := ho.1 p hp; omega)) (fun j hj => hg j (by omega)))
  | succ m ih =>
    intro k hk0 X1 f g e7 e8 hk hf hg
    obtain ⟨p, hp, hok⟩ := ho.2.2 k (by omega)
    have hrk := rank_eq hI (by decide) ho hp
    rw [hok] at hrk
    refine z_iload dL_isSpread_13 rfl (q := 15) rfl ?_
    refine z_iload_n (i := 1) dL_isSpread_15 rfl rfl (q := 16) rfl ?_
    refine z_icmp_ge (tgt := 109) dL_isSpread_16 (by decide) (q := 19) rfl (fun h16 => absurd h16 (nI_ge (show k < n by omega) (by omega))) (fun h16 => ?_)
    refine z_aload dL_isSpread_19 rfl (q := 21) rfl ?_
    refine z_iload dL_isSpread_21 rfl (q := 23) rfl ?_
    refine z_aload_n (i := 0) dL_isSpread_23 rfl rfl (q := 24) rfl ?_
    refine z_iload dL_isSpread_24 rfl (q := 26) rfl ?_
    refine z_iload_n (i := 2) dL_isSpread_26 rfl rfl (q := 27) rfl ?_
    refine z_callSA (As := [_, _, _]) dL_isSpread_27 kL_154 (l_start (k := k) (t := 1) hI hk (by omega) (by decide)) rfl (zle rfl) ⟨zle rfl, zle rfl⟩ (zroom (by omega) (by omega)) (q := 30) rfl (fun hE27 X27 hk27 => ?_)
    refine z_iast dL_isSpread_30 (wy_1 _ _ _ _ _) (zin (by omega) (by decide)) (q := 31) rfl ?_
    refine Z.eqw (wys_1 _ _ _ _ _ _) ?_
    rw [nI_clamp (n := k) (by omega)]
    refine z_iconst (v := 0) dL_isSpread_31 rfl (q := 32) rfl ?_
    refine z_istore dL_isSpread_32 (zle rfl) rfl (q := 34) rfl ?_
    refine z_iconst (v := 0) dL_isSpread_34 rfl (q := 35) rfl ?_
    refine z_istore dL_isSpread_35 (zle rfl) rfl (q := 37) rfl ?_
    refine Z.widen (k2 := 2 + 9 * k + 1 + 2 * 0) (n2 := 8 + 54 * k + 6 + 12 * 0) (by omega) (by omega) (sp_in_1 hI (k := k) (by omega) pk_us ⟨by omega, by omega⟩ n 0 (by omega) _ 0 hk27 (fun X2 e8 hk2 => ?_))
    rw [hrk]
    refine z_aload dL_isSpread_96 rfl (q := 98) rfl ?_
    refine z_iload dL_isSpread_98 rfl (q := 100) rfl ?_
    refine z_iload dL_isSpread_100 rfl (q := 102) rfl ?_
    refine z_iast dL_isSpread_102 (wy_0 _ _ _ _) (zin (show p < 4 by omega) (by decide)) (q := 103) rfl ?_
    refine Z.eqw (wys_0 _ _ _ _ _) ?_
    rw [nI_clamp (n := p) (by omega)]
    refine z_iinc (v := nI (k + 1)) dL_isSpread_103 rfl (nI_add _ _) (zle rfl) rfl (q := 106) rfl ?_
    refine z_goto (tgt := 13) dL_isSpread_106 (by decide) ?_
    exact Z.widen (by omega) (by omega) (ih (k + 1) (by omega) _ _ _ _ _ hk2 (row_up ho hf hp hok) (up_lt hg rfl))
set_option maxRecDepth 100000 in
set_option maxHeartbeats 4000000 in
theorem sp_end_1 {n nw c gp s : Nat} {lo : Int32} {o : Nat → Nat} {f g : Nat → Int32} {e7 : Option Value} {P : zRes → zWorld → Prop} (hI : inv X n nw) (hv : evR X 1 n o (some (c, gp, s))) (hm : spR X 1 n o c gp s X3) (hs : inv X3 n nw ∧ True) (hf : ∀ p, p < n → f p = nI (o p)) (hg : ∀ j, j < n → g j = X.2.1 (2 * 1) j) : ∀ (m k : Nat), k + m = n → ∀ (X1 : zX) (a : Int32), keep0 X3 X1 → (∀ (X2 : zX) (e12 : Option Value), keep0 X3 X2 → Z G mL_isSpread (zrm 17 80 480) 57 338 321 [some (.ref 0), some (.int (nI n)), some (.int 1), some (.int lo), some (.ref 77), some (.ref 78), some (.int (nI c)), e7, none, some (.int (nI gp)), some (.int 1), some (.int (rsum (fun k => iabs (X3.2.1 (2 * 1) k - X.2.1 (2 * 1) k)) k m a)), e12] [] (zw X2 (ar2 f g) O) P) → Z G mL_isSpread (zrm 17 80 480) (41 + 4 * k) (242 + 24 * k) 230 [some (.ref 0), some (.int (nI n)), some (.int 1), some (.int lo), some (.ref 77), some (.ref 78), some (.int (nI c)), e7, none, some (.int (nI gp)), some (.int 1), some (.int a), some (.int (nI k))] [] (zw X1 (ar2 f g) O) P := by
  have h4 := hI.1
  intro m
  induction m with
  | zero =>
    intro k hk0 X1 a hk kk
    refine z_iload dL_isSpread_230 rfl (q := 232) rfl ?_
    refine z_iload_n (i := 1) dL_isSpread_232 rfl rfl (q := 233) rfl ?_
    refine z_icmp_ge (tgt := 321) dL_isSpread_233 (by decide) (q := 236) rfl (fun h233 => ?_) (fun h233 => absurd (nI_le (show n ≤ k by omega) (by omega)) h233)
    exact Z.widen (by omega) (by omega) (kk _ _ hk)
  | succ m ih =>
    intro k hk0 X1 a hk kk
    cases k with
    | zero =>
      refine z_iload dL_isSpread_230 rfl (q := 232) rfl ?_
      refine z_iload_n (i := 1) dL_isSpread_232 rfl rfl (q := 233) rfl ?_
      refine z_icmp_ge (tgt := 321) dL_isSpread_233 (by decide) (q := 236) rfl (fun h233 => absurd h233 (nI_ge (show 0 < n by omega) (by omega))) (fun h233 => ?_)
      refine z_iload dL_isSpread_236 rfl (q := 238) rfl ?_
      refine z_aload_n (i := 0) dL_isSpread_238 rfl rfl (q := 239) rfl ?_
      refine z_iload dL_isSpread_239 rfl (q := 241) rfl ?_
      refine z_iload_n (i := 2) dL_isSpread_241 rfl rfl (q := 242) rfl ?_
      refine z_callSA (As := [_, _, _]) dL_isSpread_242 kL_154 (l_start (k := 0) (t := 1) hs.1 hk (by omega) (by decide)) rfl (zle rfl) ⟨zle rfl, zle rfl⟩ (zroom (by omega) (by omega)) (q := 245) rfl (fun hE242 X242 hk242 => ?_)
      refine z_aload dL_isSpread_245 rfl (q := 247) rfl ?_
      refine z_iload dL_isSpread_247 rfl (q := 249) rfl ?_
      refine z_iald dL_isSpread_249 (wy_1 _ _ _ _ _) (zin (by omega) (by decide)) (q := 250) rfl ?_
      rw [nI_clamp (n := 0) (by omega), hg (0) (by omega)]
      refine z_isub dL_isSpread_250 (q := 251) rfl ?_
      refine z_abs dL_isSpread_251 kL_161 (zle rfl) ⟨zle rfl, zle rfl, (by show _ ≤ 80; omega), (by show _ ≤ 480; omega)⟩ (q := 254) rfl ?_
      refine z_iadd dL_isSpread_254 (q := 255) rfl ?_
      refine z_istore dL_isSpread_255 (zle rfl) rfl (q := 257) rfl ?_
      refine z_iload dL_isSpread_257 rfl (q := 259) rfl ?_
      refine z_if_eq (tgt := 312) dL_isSpread_259 (by decide) (q := 262) rfl (fun h259 => absurd h259 (by decide)) (fun h259 => ?_)
      refine z_iload dL_isSpread_262 rfl (q := 264) rfl ?_
      refine z_if_eq (tgt := 308) dL_isSpread_264 (by decide) (q := 267) rfl (fun h264 => ?_) (fun h264 => absurd rfl h264)
      refine z_iconst (v := 1) dL_isSpread_308 rfl (q := 309) rfl ?_
      refine z_goto (tgt := 313) dL_isSpread_309 (by decide) ?_
      refine z_istore dL_isSpread_313 (zle rfl) rfl (q := 315) rfl ?_
      refine z_iinc (v := nI (0 + 1)) dL_isSpread_315 rfl (nI_add _ _) (zle rfl) rfl (q := 318) rfl ?_
      refine z_goto (tgt := 230) dL_isSpread_318 (by decide) ?_
      exact Z.widen (by omega) (by omega) (ih (0 + 1) (by omega) _ _ hk242 kk)
    | succ k =>
      refine z_iload dL_isSpread_230 rfl (q := 232) rfl ?_
      refine z_iload_n (i := 1) dL_isSpread_232 rfl rfl (q := 233) rfl ?_
      refine z_icmp_ge (tgt := 321) dL_isSpread_233 (by decide) (q := 236) rfl (fun h233 => absurd h233 (nI_ge (show k + 1 < n by omega) (by omega))) (fun h233 => ?_)
      refine z_iload dL_isSpread_236 rfl (q := 238) rfl ?_
      refine z_aload_n (i := 0) dL_isSpread_238 rfl rfl (q := 239) rfl ?_
      refine z_iload dL_isSpread_239 rfl (q := 241) rfl ?_
      refine z_iload_n (i := 2) dL_isSpread_241 rfl rfl (q := 242) rfl ?_
      refine z_callSA (As := [_, _, _]) dL_isSpread_242 kL_154 (l_start (k := k + 1) (t := 1) hs.1 hk (by omega) (by decide)) rfl (zle rfl) ⟨zle rfl, zle rfl⟩ (zroom (by omega) (by omega)) (q := 245) rfl (fun hE242 X242 hk242 => ?_)
      refine z_aload dL_isSpread_245 rfl (q := 247) rfl ?_
      refine z_iload dL_isSpread_247 rfl (q := 249) rfl ?_
      refine z_iald dL_isSpread_249 (wy_1 _ _ _ _ _) (zin (by omega) (by decide)) (q := 250) rfl ?_
      rw [nI_clamp (n := k + 1) (by omega), hg (k + 1) (by omega)]
      refine z_isub dL_isSpread_250 (q := 251) rfl ?_
      refine z_abs dL_isSpread_251 kL_161 (zle rfl) ⟨zle rfl, zle rfl, (by show _ ≤ 80; omega), (by show _ ≤ 480; omega)⟩ (q := 254) rfl ?_
      refine z_iadd dL_isSpread_254 (q := 255) rfl ?_
      refine z_istore dL_isSpread_255 (zle rfl) rfl (q := 257) rfl ?_
      refine z_iload dL_isSpread_257 rfl (q := 259) rfl ?_
      refine z_if_eq (tgt := 312) dL_isSpread_259 (by decide) (q := 262) rfl (fun h259 => absurd h259 (by decide)) (fun h259 => ?_)
      refine z_iload dL_isSpread_262 rfl (q := 264) rfl ?_
      refine z_if_eq (tgt := 308) dL_isSpread_264 (by decide) (q := 267) rfl (fun h264 => absurd h264 (nI_ne0 (by omega) (by omega))) (fun h264 => ?_)
      refine z_aload_n (i := 0) dL_isSpread_267 rfl rfl (q := 268) rfl ?_
      refine z_aload dL_isSpread_268 rfl (q := 270) rfl ?_
      refine z_iload dL_isSpread_270 rfl (q := 272) rfl ?_
      refine z_iald dL_isSpread_272 (wy_0 _ _ _ _) (zin (by omega) (by decide)) (q := 273) rfl ?_
      rw [nI_clamp (n := k + 1) (by omega), hf (k + 1) (by omega)]
      refine z_iload_n (i := 2) dL_isSpread_273 rfl rfl (q := 274) rfl ?_
      refine z_callSA (As := [_, _, _]) dL_isSpread_274 kL_154 (l_start (k := o (k + 1)) (t := 1) hs.1 hk242 (hv.1.1 _ (by omega)) (by decide)) rfl (zle rfl) ⟨zle rfl, zle rfl⟩ (zroom (by omega) (by omega)) (q := 277) rfl (fun hE274 X274 hk274 => ?_)
      refine z_aload_n (i := 0) dL_isSpread_277 rfl rfl (q := 278) rfl ?_
      refine z_aload dL_isSpread_278 rfl (q := 280) rfl ?_
      refine z_iload dL_isSpread_280 rfl (q := 282) rfl ?_
      refine z_iconst (v := 1) dL_isSpread_282 rfl (q := 283) rfl ?_
      refine z_isub dL_isSpread_283 (q := 284) rfl ?_
      rw [nI_pred]
      refine z_iald dL_isSpread_284 (wy_0 _ _ _ _) (zin (show k < 4 by omega) (by decide)) (q := 285) rfl ?_
      rw [nI_clamp (n := k) (by omega), hf k (by omega)]
      refine z_iload_n (i := 2) dL_isSpread_285 rfl rfl (q := 286) rfl ?_
      refine z_callSA (As := [_, _, _]) dL_isSpread_286 kL_154 (l_start (k := o (k)) (t := 1) hs.1 hk274 (hv.1.1 _ (by omega)) (by decide)) rfl (zle rfl) ⟨zle rfl, zle rfl⟩ (zroom (by omega) (by omega)) (q := 289) rfl (fun hE286 X286 hk286 => ?_)
      refine z_aload_n (i := 0) dL_isSpread_289 rfl rfl (q := 290) rfl ?_
      refine z_aload dL_isSpread_290 rfl (q := 292) rfl ?_
      refine z_iload dL_isSpread_292 rfl (q := 294) rfl ?_
      refine z_iconst (v := 1) dL_isSpread_294 rfl (q := 295) rfl ?_
      refine z_isub dL_isSpread_295 (q := 296) rfl ?_
      rw [nI_pred]
      refine z_iald dL_isSpread_296 (wy_0 _ _ _ _) (zin (show k < 4 by omega) (by decide)) (q := 297) rfl ?_
      rw [nI_clamp (n := k) (by omega), hf k (by omega)]
      refine z_iload_n (i := 2) dL_isSpread_297 rfl rfl (q := 298) rfl ?_
      refine z_callSA (As := [_, _, _]) dL_isSpread_298 kL_158 (l_size (k := o (k)) (t := 1) hs.1 hk286 (hv.1.1 _ (by omega)) (by decide)) rfl (zle rfl) ⟨zle rfl, zle rfl⟩ (zroom (by omega) (by omega)) (q := 301) rfl (fun hE298 X298 hk298 => ?_)
      refine z_iadd dL_isSpread_301 (q := 302) rfl ?_
      refine z_iload dL_isSpread_302 rfl (q := 304) rfl ?_
      refine z_iadd dL_isSpread_304 (q := 305) rfl ?_
      refine z_icmp_ne (tgt := 312) dL_isSpread_305 (by decide) (q := 308) rfl (fun h305 => absurd h305 (fun h9 => h9 (sp_gap hI (by decide) hv hm (p := k) (by omega)))) (fun h305 => ?_)
      refine z_iconst (v := 1) dL_isSpread_308 rfl (q := 309) rfl ?_
      refine z_goto (tgt := 313) dL_isSpread_309 (by decide) ?_
      refine z_istore dL_isSpread_313 (zle rfl) rfl (q := 315) rfl ?_
      refine z_iinc (v := nI (k + 1 + 1)) dL_isSpread_315 rfl (nI_add _ _) (zle rfl) rfl (q := 318) rfl ?_
      refine z_goto (tgt := 230) dL_isSpread_318 (by decide) ?_
      exact Z.widen (by omega) (by omega) (ih (k + 1 + 1) (by omega) _ _ hk298 kk)
set_option maxRecDepth 100000 in
set_option maxHeartbeats 4000000 in
theorem c_L_isSpread_1A {n nw : Nat} (hI : inv X n nw) (hk : keep0 X X1) : ZM G mL_isSpread 17 80 480 [.ref 0, .int (nI n), .int 1, .int (-1)] (zw X1 [] O) (nxP X n nw O) := by
  have h4 := hI.1
  obtain ⟨o, ho⟩ := ord_ex (t := 1) hI (by decide)
  refine nx_drop ?_
  refine ZM.go pL rfl rfl (zle rfl) (zl := [some (.ref 0), some (.int (nI n)), some (.int 1), some (.int (-1)), none, none, none, none, none, none, none, none, none]) rfl ?_
  refine z_iconst (v := 4) dL_isSpread_0 rfl (q := 1) rfl ?_
  refine z_newa (t := 0) (N := 4) (a0 := (4, .inl (fun _ => 0))) (ty := .int) dL_isSpread_1 wa_int rfl rfl (fun _ => rfl) (fun C h => by cases h) (by decide) rfl (zle rfl) (by rw [zw_len]; decide) (zroom (by omega) (by omega)) (q := 3) rfl ?_
  refine Z.eqw (w2 := zw X1 [Sum.inl (0, 4, .inl (fun _ => 0))] O) rfl ?_
  refine Z.eqst (st2 := [.ref 77]) rfl ?_
  refine z_astore dL_isSpread_3 (zle rfl) rfl (q := 5) rfl ?_
  refine z_iconst (v := 4) dL_isSpread_5 rfl (q := 6) rfl ?_
  refine z_newa (t := 0) (N := 4) (a0 := (4, .inl (fun _ => 0))) (ty := .int) dL_isSpread_6 wa_int rfl rfl (fun _ => rfl) (fun C h => by cases h) (by decide) rfl (zle rfl) (by rw [zw_len]; decide) (zroom (by omega) (by omega)) (q := 8) rfl ?_
  refine Z.eqw (w2 := zw X1 (ar2 (fun _ => 0) (fun _ => 0)) O) rfl ?_
  refine Z.eqst (st2 := [.ref 78]) rfl ?_
  refine z_astore dL_isSpread_8 (zle rfl) rfl (q := 10) rfl ?_
  refine z_iconst (v := 0) dL_isSpread_10 rfl (q := 11) rfl ?_
  refine z_istore dL_isSpread_11 (zle rfl) rfl (q := 13) rfl ?_
  refine Z.widen (k2 := 2 + 9 * 0) (n2 := 8 + 54 * 0) (by decide) (by decide) (sp_out_1 hI ho (fun X2 f g e6 e7 e8 hk hf hg => ?_) n 0 (by omega) _ _ _ _ _ hk (fun p _ h => absurd h (Nat.not_lt_zero _)) (fun j hj => absurd hj (Nat.not_lt_zero j)))
  refine z_aload_n (i := 0) dL_isSpread_109 rfl rfl (q := 110) rfl ?_
  refine z_bipush (v := 13) dL_isSpread_110 rfl (q := 112) rfl ?_
  refine z_iload_n (i := 2) dL_isSpread_112 rfl rfl (q := 113) rfl ?_
  refine z_callSF (As := [_]) dL_isSpread_113 kL_148 (c_L_axis (t := 1) (by decide)) rfl (zle rfl) ⟨zle rfl, zle rfl⟩ (zroom (by omega) (by omega)) (q := 116) rfl ?_
  refine z_iconst (v := 0) dL_isSpread_116 rfl (q := 117) rfl ?_
  refine z_iconst (v := 0) dL_isSpread_117 rfl (q := 118) rfl ?_
  refine z_callSWA (As := [_, _, _, _, _]) dL_isSpread_118 kL_151 (a_evenCost (t := 1) hI hk (by decide)) rfl (zle rfl) ⟨zle rfl, zle rfl⟩ (zroom (by omega) (by omega)) (q := 121) rfl (fun hE118 X118 hk118 => ?_)
  obtain ⟨⟨o2, b⟩, hv2⟩ := hE118
  have hv : evR X 1 n o b := evR_congr (ordR_uniq hI (by decide) hv2.1 ho) ho hv2
  rw [← ev_val hI (by decide) hv]
  rcases b with _ | ⟨c, gp, s⟩
  · refine Z.eqst (st2 := [.int (-2005)]) rfl ?_
    refine z_istore dL_isSpread_121 (zle rfl) rfl (q := 123) rfl ?_
    refine z_aload_n (i := 0) dL_isSpread_123 rfl rfl (q := 124) rfl ?_
    refine z_callVF (As := []) dL_isSpread_124 kL_166 c_X8_moved (wo_x _ _ _) rfl rfl (zle rfl) ⟨zle rfl, zle rfl⟩ (zroom (by omega) (by omega)) (q := 127) rfl ?_
    rw [hk118.2]
    refine z_lstore dL_isSpread_127 (zle rfl) rfl (q := 129) rfl ?_
    refine z_aload_n (i := 0) dL_isSpread_129 rfl rfl (q := 130) rfl ?_
    refine z_bipush (v := 8) dL_isSpread_130 rfl (q := 132) rfl ?_
    refine z_iload_n (i := 2) dL_isSpread_132 rfl rfl (q := 133) rfl ?_
    refine z_callSF (As := [_]) dL_isSpread_133 kL_148 (c_L_axis (t := 1) (by decide)) rfl (zle rfl) ⟨zle rfl, zle rfl⟩ (zroom (by omega) (by omega)) (q := 136) rfl ?_
    refine z_iconst (v := 0) dL_isSpread_136 rfl (q := 137) rfl ?_
    refine z_iconst (v := 0) dL_isSpread_137 rfl (q := 138) rfl ?_
    refine z_iconst (v := 0) dL_isSpread_138 rfl (q := 139) rfl ?_
    refine z_callSWD (As := [_, _, _, _, _, _]) dL_isSpread_139 kL_145 (d_spread (t := 1) hI hk118 (by decide) hv) rfl (zle rfl) ⟨zle rfl, zle rfl⟩ (zroom (by omega) (by omega)) (q := 142) rfl (fun X3 hm => ?_)
    refine z_istore dL_isSpread_142 (zle rfl) rfl (q := 144) rfl ?_
    refine z_iload dL_isSpread_144 rfl (q := 146) rfl ?_
    refine z_sipush (v := (-2005)) dL_isSpread_146 rfl (q := 149) rfl ?_
    refine z_icmp_ne (tgt := 176) dL_isSpread_149 (by decide) (q := 152) rfl (fun h149 => absurd h149 (by decide)) (fun h149 => ?_)
    refine z_iload dL_isSpread_152 rfl (q := 154) rfl ?_
    refine z_sipush (v := (-2005)) dL_isSpread_154 rfl (q := 157) rfl ?_
    refine z_icmp_ne (tgt := 174) dL_isSpread_157 (by decide) (q := 160) rfl (fun h157 => absurd h157 (by decide)) (fun h157 => ?_)
    refine z_aload_n (i := 0) dL_isSpread_160 rfl rfl (q := 161) rfl ?_
    refine z_callVF (As := []) dL_isSpread_161 kL_166 c_X8_moved (wo_x _ _ _) rfl rfl (zle rfl) ⟨zle rfl, zle rfl⟩ (zroom (by omega) (by omega)) (q := 164) rfl ?_
    rw [hm.2]
    refine z_lload dL_isSpread_164 rfl (q := 166) rfl ?_
    refine z_lcmp dL_isSpread_166 (q := 167) rfl ?_
    refine z_if_ne (tgt := 174) dL_isSpread_167 (by decide) (q := 170) rfl (fun h167 => absurd h167 (fun h9 => h9 (lg_self _))) (fun h167 => ?_)
    refine z_iconst (v := 1) dL_isSpread_170 rfl (q := 171) rfl ?_
    refine z_goto (tgt := 175) dL_isSpread_171 (by decide) ?_
    exact z_zret dL_isSpread_175 rfl (by first | rfl | assumption | decide) (zroom (by omega) (by omega)) ⟨rfl, _, _, rfl, inv_keep hm hI, (hm.1 4 (by decide)).2⟩
  · refine Z.eqst (st2 := [.int (nI c)]) rfl ?_
    refine z_istore dL_isSpread_121 (zle rfl) rfl (q := 123) rfl ?_
    refine z_aload_n (i := 0) dL_isSpread_123 rfl rfl (q := 124) rfl ?_
    refine z_callVF (As := []) dL_isSpread_124 kL_166 c_X8_moved (wo_x _ _ _) rfl rfl (zle rfl) ⟨zle rfl, zle rfl⟩ (zroom (by omega) (by omega)) (q := 127) rfl ?_
    rw [hk118.2]
    refine z_lstore dL_isSpread_127 (zle rfl) rfl (q := 129) rfl ?_
    refine z_aload_n (i := 0) dL_isSpread_129 rfl rfl (q := 130) rfl ?_
    refine z_bipush (v := 8) dL_isSpread_130 rfl (q := 132) rfl ?_
    refine z_iload_n (i := 2) dL_isSpread_132 rfl rfl (q := 133) rfl ?_
    refine z_callSF (As := [_]) dL_isSpread_133 kL_148 (c_L_axis (t := 1) (by decide)) rfl (zle rfl) ⟨zle rfl, zle rfl⟩ (zroom (by omega) (by omega)) (q := 136) rfl ?_
    refine z_iconst (v := 0) dL_isSpread_136 rfl (q := 137) rfl ?_
    refine z_iconst (v := 0) dL_isSpread_137 rfl (q := 138) rfl ?_
    refine z_iconst (v := 0) dL_isSpread_138 rfl (q := 139) rfl ?_
    refine z_callSWD (As := [_, _, _, _, _, _]) dL_isSpread_139 kL_145 (d_spread (t := 1) hI hk118 (by decide) hv) rfl (zle rfl) ⟨zle rfl, zle rfl⟩ (zroom (by omega) (by omega)) (q := 142) rfl (fun X3 hm => ?_)
    have hs := sp_facts hI (by decide) hv hm
    refine z_istore dL_isSpread_142 (zle rfl) rfl (q := 144) rfl ?_
    refine z_iload dL_isSpread_144 rfl (q := 146) rfl ?_
    refine z_sipush (v := (-2005)) dL_isSpread_146 rfl (q := 149) rfl ?_
    refine z_icmp_ne (tgt := 176) dL_isSpread_149 (by decide) (q := 152) rfl (fun h149 => ?_) (fun h149 => absurd h149 (nI_n2005 (ev_c hI (by decide) hv)))
    refine z_iload dL_isSpread_176 rfl (q := 178) rfl ?_
    refine z_if_lt (tgt := 221) dL_isSpread_178 (by decide) (q := 181) rfl (fun h178 => absurd h178 (nI_pos (by have := hs.2.2.2.2.1; omega))) (fun h178 => ?_)
    refine z_iload_n (i := 1) dL_isSpread_181 rfl rfl (q := 182) rfl ?_
    refine z_iconst (v := 1) dL_isSpread_182 rfl (q := 183) rfl ?_
    refine z_icmp_le (tgt := 221) dL_isSpread_183 (by decide) (q := 186) rfl (fun h183 => absurd h183 (nI_ge (a := 1) (b := n) (by have := hs.2.2.2.2.2.2.1; omega) (by omega))) (fun h183 => ?_)
    refine z_aload_n (i := 0) dL_isSpread_186 rfl rfl (q := 187) rfl ?_
    refine z_callVF (As := []) dL_isSpread_187 kL_166 c_X8_moved (wo_x _ _ _) rfl rfl (zle rfl) ⟨zle rfl, zle rfl⟩ (zroom (by omega) (by omega)) (q := 190) rfl ?_
    refine z_lload dL_isSpread_190 rfl (q := 192) rfl ?_
    refine z_iload dL_isSpread_192 rfl (q := 194) rfl ?_
    refine z_i2l dL_isSpread_194 (q := 195) rfl ?_
    refine z_ladd dL_isSpread_195 (q := 196) rfl ?_
    refine z_lcmp dL_isSpread_196 (q := 197) rfl ?_
    refine z_if_ne (tgt := 221) dL_isSpread_197 (by decide) (q := 200) rfl (fun h197 => absurd h197 (fun h9 => h9 (sp_mv hm (keep0_refl X3)))) (fun h197 => ?_)
    refine z_iload_n (i := 3) dL_isSpread_200 rfl rfl (q := 201) rfl ?_
    refine z_if_lt (tgt := 217) dL_isSpread_201 (by decide) (q := 204) rfl (fun h201 => ?_) (fun h201 => absurd h201 (by decide))
    refine z_iconst (v := 1) dL_isSpread_217 rfl (q := 218) rfl ?_
    refine z_goto (tgt := 222) dL_isSpread_218 (by decide) ?_
    refine z_istore dL_isSpread_222 (zle rfl) rfl (q := 224) rfl ?_
    refine z_iconst (v := 0) dL_isSpread_224 rfl (q := 225) rfl ?_
    refine z_istore dL_isSpread_225 (zle rfl) rfl (q := 227) rfl ?_
    refine z_iconst (v := 0) dL_isSpread_227 rfl (q := 228) rfl ?_
    refine z_istore dL_isSpread_228 (zle rfl) rfl (q := 230) rfl ?_
    refine Z.widen (k2 := 41 + 4 * 0) (n2 := 242 + 24 * 0) (by omega) (by omega) (sp_end_1 hI hv hm ⟨hs.1, trivial⟩ hf hg n 0 (by omega) _ 0 (keep0_refl X3) (fun X5 e12 hk5 => ?_))
    refine z_iload dL_isSpread_321 rfl (q := 323) rfl ?_
    refine z_if_eq (tgt := 370) dL_isSpread_323 (by decide) (q := 326) rfl (fun h323 => absurd h323 (by decide)) (fun h323 => ?_)
    refine z_iload dL_isSpread_326 rfl (q := 328) rfl ?_
    refine z_iload dL_isSpread_328 rfl (q := 330) rfl ?_
    refine z_icmp_ne (tgt := 370) dL_isSpread_330 (by decide) (q := 333) rfl (fun h330 => absurd h330 (fun h9 => h9 hs.2.2.2.1)) (fun h330 => ?_)
    refine z_aload_n (i := 0) dL_isSpread_333 rfl rfl (q := 334) rfl ?_
    refine z_bipush (v := 13) dL_isSpread_334 rfl (q := 336) rfl ?_
    refine z_iload_n (i := 2) dL_isSpread_336 rfl rfl (q := 337) rfl ?_
    refine z_callSF (As := [_]) dL_isSpread_337 kL_148 (c_L_axis (t := 1) (by decide)) rfl (zle rfl) ⟨zle rfl, zle rfl⟩ (zroom (by omega) (by omega)) (q := 340) rfl ?_
    refine z_iconst (v := 0) dL_isSpread_340 rfl (q := 341) rfl ?_
    refine z_iconst (v := 0) dL_isSpread_341 rfl (q := 342) rfl ?_
    refine z_callSWA (As := [_, _, _, _, _]) dL_isSpread_342 kL_151 (a_evenCost (t := 1) hs.1 hk5 (by decide)) rfl (zle rfl) ⟨zle rfl, zle rfl⟩ (zroom (by omega) (by omega)) (q := 345) rfl (fun hE342 X342 hk342 => ?_)
    refine z_if_ne (tgt := 370) dL_isSpread_345 (by decide) (q := 348) rfl (fun h345 => absurd h345 (fun h9 => h9 (sp_ev0 hI (by decide) hv hm))) (fun h345 => ?_)
    refine z_aload_n (i := 0) dL_isSpread_348 rfl rfl (q := 349) rfl ?_
    refine z_bipush (v := 8) dL_isSpread_349 rfl (q := 351) rfl ?_
    refine z_iload_n (i := 2) dL_isSpread_351 rfl rfl (q := 352) rfl ?_
    refine z_callSF (As := [_]) dL_isSpread_352 kL_148 (c_L_axis (t := 1) (by decide)) rfl (zle rfl) ⟨zle rfl, zle rfl⟩ (zroom (by omega) (by omega)) (q := 355) rfl ?_
    refine z_iconst (v := 0) dL_isSpread_355 rfl (q := 356) rfl ?_
    refine z_iconst (v := 0) dL_isSpread_356 rfl (q := 357) rfl ?_
    refine z_iconst (v := 0) dL_isSpread_357 rfl (q := 358) rfl ?_
    refine z_callSWD (As := [_, _, _, _, _, _]) dL_isSpread_358 kL_145 (d_spread (t := 1) hs.1 hk342 (by decide) hs.2.1) rfl (zle rfl) ⟨zle rfl, zle rfl⟩ (zroom (by omega) (by omega)) (q := 361) rfl (fun X4 hm4 => ?_)
    have hs4 := sp_facts hs.1 (by decide) hs.2.1 hm4
    refine z_iload dL_isSpread_361 rfl (q := 363) rfl ?_
    refine z_icmp_ne (tgt := 370) dL_isSpread_363 (by decide) (q := 366) rfl (fun h363 => absurd h363 (fun h9 => h9 rfl)) (fun h363 => ?_)
    refine z_iconst (v := 1) dL_isSpread_366 rfl (q := 367) rfl ?_
    refine z_goto (tgt := 371) dL_isSpread_367 (by decide) ?_
    exact z_zret dL_isSpread_371 rfl (by first | rfl | assumption | decide) (zroom (by omega) (by omega)) ⟨rfl, _, _, rfl, hs4.1, (sp_rows hm4 4 (by decide) (by decide)).trans (sp_rows hm 4 (by decide) (by decide))⟩
set_option maxRecDepth 100000 in
set_option maxHeartbeats 4000000 in
theorem c_L_isSpread_1B {n nw lk : Nat} (hI : inv X n nw) (hk : keep0 X X1) (hlk : lk < n) (hll : ¬ X.2.1 4 lk = 0) : ZM G mL_isSpread 17 80 480 [.ref 0, .int (nI n), .int 1, .int (nI lk)] (zw X1 [] O) (nxP X n nw O) := by
  have h4 := hI.1
  obtain ⟨o, ho⟩ := ord_ex (t := 1) hI (by decide)
  refine nx_drop ?_
  refine ZM.go pL rfl rfl (zle rfl) (zl := [some (.ref 0), some (.int (nI n)), some (.int 1), some (.int (nI lk)), none, none, none, none, none, none, none, none, none]) rfl ?_
  refine z_iconst (v := 4) dL_isSpread_0 rfl (q := 1) rfl ?_
  refine z_newa (t := 0) (N := 4) (a0 := (4, .inl (fun _ => 0))) (ty := .int) dL_isSpread_1 wa_int rfl rfl (fun _ => rfl) (fun C h => by cases h) (by decide) rfl (zle rfl) (by rw [zw_len]; decide) (zroom (by omega) (by omega)) (q := 3) rfl ?_
  refine Z.eqw (w2 := zw X1 [Sum.inl (0, 4, .inl (fun _ => 0))] O) rfl ?_
  refine Z.eqst (st2 := [.ref 77]) rfl ?_
  refine z_astore dL_isSpread_3 (zle rfl) rfl (q := 5) rfl ?_
  refine z_iconst (v := 4) dL_isSpread_5 rfl (q := 6) rfl ?_
  refine z_newa (t := 0) (N := 4) (a0 := (4, .inl (fun _ => 0))) (ty := .int) dL_isSpread_6 wa_int rfl rfl (fun _ => rfl) (fun C h => by cases h) (by decide) rfl (zle rfl) (by rw [zw_len]; decide) (zroom (by omega) (by omega)) (q := 8) rfl ?_
  refine Z.eqw (w2 := zw X1 (ar2 (fun _ => 0) (fun _ => 0)) O) rfl ?_
  refine Z.eqst (st2 := [.ref 78]) rfl ?_
  refine z_astore dL_isSpread_8 (zle rfl) rfl (q := 10) rfl ?_
  refine z_iconst (v := 0) dL_isSpread_10 rfl (q := 11) rfl ?_
  refine z_istore dL_isSpread_11 (zle rfl) rfl (q := 13) rfl ?_
  refine Z.widen (k2 := 2 + 9 * 0) (n2 := 8 + 54 * 0) (by decide) (by decide) (sp_out_1 hI ho (fun X2 f g e6 e7 e8 hk hf hg => ?_) n 0 (by omega) _ _ _ _ _ hk (fun p _ h => absurd h (Nat.not_lt_zero _)) (fun j hj => absurd hj (Nat.not_lt_zero j)))
  refine z_aload_n (i := 0) dL_isSpread_109 rfl rfl (q := 110) rfl ?_
  refine z_bipush (v := 13) dL_isSpread_110 rfl (q := 112) rfl ?_
  refine z_iload_n (i := 2) dL_isSpread_112 rfl rfl (q := 113) rfl ?_
  refine z_callSF (As := [_]) dL_isSpread_113 kL_148 (c_L_axis (t := 1) (by decide)) rfl (zle rfl) ⟨zle rfl, zle rfl⟩ (zroom (by omega) (by omega)) (q := 116) rfl ?_
  refine z_iconst (v := 0) dL_isSpread_116 rfl (q := 117) rfl ?_
  refine z_iconst (v := 0) dL_isSpread_117 rfl (q := 118) rfl ?_
  refine z_callSWA (As := [_, _, _, _, _]) dL_isSpread_118 kL_151 (a_evenCost (t := 1) hI hk (by decide)) rfl (zle rfl) ⟨zle rfl, zle rfl⟩ (zroom (by omega) (by omega)) (q := 121) rfl (fun hE118 X118 hk118 => ?_)
  obtain ⟨⟨o2, b⟩, hv2⟩ := hE118
  have hv : evR X 1 n o b := evR_congr (ordR_uniq hI (by decide) hv2.1 ho) ho hv2
  rw [← ev_val hI (by decide) hv]
  rcases b with _ | ⟨c, gp, s⟩
  · refine Z.eqst (st2 := [.int (-2005)]) rfl ?_
    refine z_istore dL_isSpread_121 (zle rfl) rfl (q := 123) rfl ?_
    refine z_aload_n (i := 0) dL_isSpread_123 rfl rfl (q := 124) rfl ?_
    refine z_callVF (As := []) dL_isSpread_124 kL_166 c_X8_moved (wo_x _ _ _) rfl rfl (zle rfl) ⟨zle rfl, zle rfl⟩ (zroom (by omega) (by omega)) (q := 127) rfl ?_
    rw [hk118.2]
    refine z_lstore dL_isSpread_127 (zle rfl) rfl (q := 129) rfl ?_
    refine z_aload_n (i := 0) dL_isSpread_129 rfl rfl (q := 130) rfl ?_
    refine z_bipush (v := 8) dL_isSpread_130 rfl (q := 132) rfl ?_
    refine z_iload_n (i := 2) dL_isSpread_132 rfl rfl (q := 133) rfl ?_
    refine z_callSF (As := [_]) dL_isSpread_133 kL_148 (c_L_axis (t := 1) (by decide)) rfl (zle rfl) ⟨zle rfl, zle rfl⟩ (zroom (by omega) (by omega)) (q := 136) rfl ?_
    refine z_iconst (v := 0) dL_isSpread_136 rfl (q := 137) rfl ?_
    refine z_iconst (v := 0) dL_isSpread_137 rfl (q := 138) rfl ?_
    refine z_iconst (v := 0) dL_isSpread_138 rfl (q := 139) rfl ?_
    refine z_callSWD (As := [_, _, _, _, _, _]) dL_isSpread_139 kL_145 (d_spread (t := 1) hI hk118 (by decide) hv) rfl (zle rfl) ⟨zle rfl, zle rfl⟩ (zroom (by omega) (by omega)) (q := 142) rfl (fun X3 hm => ?_)
    refine z_istore dL_isSpread_142 (zle rfl) rfl (q := 144) rfl ?_
    refine z_iload dL_isSpread_144 rfl (q := 146) rfl ?_
    refine z_sipush (v := (-2005)) dL_isSpread_146 rfl (q := 149) rfl ?_
    refine z_icmp_ne (tgt := 176) dL_isSpread_149 (by decide) (q := 152) rfl (fun h149 => absurd h149 (by decide)) (fun h149 => ?_)
    refine z_iload dL_isSpread_152 rfl (q := 154) rfl ?_
    refine z_sipush (v := (-2005)) dL_isSpread_154 rfl (q := 157) rfl ?_
    refine z_icmp_ne (tgt := 174) dL_isSpread_157 (by decide) (q := 160) rfl (fun h157 => absurd h157 (by decide)) (fun h157 => ?_)
    refine z_aload_n (i := 0) dL_isSpread_160 rfl rfl (q := 161) rfl ?_
    refine z_callVF (As := []) dL_isSpread_161 kL_166 c_X8_moved (wo_x _ _ _) rfl rfl (zle rfl) ⟨zle rfl, zle rfl⟩ (zroom (by omega) (by omega)) (q := 164) rfl ?_
    rw [hm.2]
    refine z_lload dL_isSpread_164 rfl (q := 166) rfl ?_
    refine z_lcmp dL_isSpread_166 (q := 167) rfl ?_
    refine z_if_ne (tgt := 174) dL_isSpread_167 (by decide) (q := 170) rfl (fun h167 => absurd h167 (fun h9 => h9 (lg_self _))) (fun h167 => ?_)
    refine z_iconst (v := 1) dL_isSpread_170 rfl (q := 171) rfl ?_
    refine z_goto (tgt := 175) dL_isSpread_171 (by decide) ?_
    exact z_zret dL_isSpread_175 rfl (by first | rfl | assumption | decide) (zroom (by omega) (by omega)) ⟨rfl, _, _, rfl, inv_keep hm hI, (hm.1 4 (by decide)).2⟩
  · refine Z.eqst (st2 := [.int (nI c)]) rfl ?_
    refine z_istore dL_isSpread_121 (zle rfl) rfl (q := 123) rfl ?_
    refine z_aload_n (i := 0) dL_isSpread_123 rfl rfl (q := 124) rfl ?_
    refine z_callVF (As := []) dL_isSpread_124 kL_166 c_X8_moved (wo_x _ _ _) rfl rfl (zle rfl) ⟨zle rfl, zle rfl⟩ (zroom (by omega) (by omega)) (q := 127) rfl ?_
    rw [hk118.2]
    refine z_lstore dL_isSpread_127 (zle rfl) rfl (q := 129) rfl ?_
    refine z_aload_n (i := 0) dL_isSpread_129 rfl rfl (q := 130) rfl ?_
    refine z_bipush (v := 8) dL_isSpread_130 rfl (q := 132) rfl ?_
    refine z_iload_n (i := 2) dL_isSpread_132 rfl rfl (q := 133) rfl ?_
    refine z_callSF (As := [_]) dL_isSpread_133 kL_148 (c_L_axis (t := 1) (by decide)) rfl (zle rfl) ⟨zle rfl, zle rfl⟩ (zroom (by omega) (by omega)) (q := 136) rfl ?_
    refine z_iconst (v := 0) dL_isSpread_136 rfl (q := 137) rfl ?_
    refine z_iconst (v := 0) dL_isSpread_137 rfl (q := 138) rfl ?_
    refine z_iconst (v := 0) dL_isSpread_138 rfl (q := 139) rfl ?_
    refine z_callSWD (As := [_, _, _, _, _, _]) dL_isSpread_139 kL_145 (d_spread (t := 1) hI hk118 (by decide) hv) rfl (zle rfl) ⟨zle rfl, zle rfl⟩ (zroom (by omega) (by omega)) (q := 142) rfl (fun X3 hm => ?_)
    have hs := sp_facts hI (by decide) hv hm
    refine z_istore dL_isSpread_142 (zle rfl) rfl (q := 144) rfl ?_
    refine z_iload dL_isSpread_144 rfl (q := 146) rfl ?_
    refine z_sipush (v := (-2005)) dL_isSpread_146 rfl (q := 149) rfl ?_
    refine z_icmp_ne (tgt := 176) dL_isSpread_149 (by decide) (q := 152) rfl (fun h149 => ?_) (fun h149 => absurd h149 (nI_n2005 (ev_c hI (by decide) hv)))
    refine z_iload dL_isSpread_176 rfl (q := 178) rfl ?_
    refine z_if_lt (tgt := 221) dL_isSpread_178 (by decide) (q := 181) rfl (fun h178 => absurd h178 (nI_pos (by have := hs.2.2.2.2.1; omega))) (fun h178 => ?_)
    refine z_iload_n (i := 1) dL_isSpread_181 rfl rfl (q := 182) rfl ?_
    refine z_iconst (v := 1) dL_isSpread_182 rfl (q := 183) rfl ?_
    refine z_icmp_le (tgt := 221) dL_isSpread_183 (by decide) (q := 186) rfl (fun h183 => absurd h183 (nI_ge (a := 1) (b := n) (by have := hs.2.2.2.2.2.2.1; omega) (by omega))) (fun h183 => ?_)
    refine z_aload_n (i := 0) dL_isSpread_186 rfl rfl (q := 187) rfl ?_
    refine z_callVF (As := []) dL_isSpread_187 kL_166 c_X8_moved (wo_x _ _ _) rfl rfl (zle rfl) ⟨zle rfl, zle rfl⟩ (zroom (by omega) (by omega)) (q := 190) rfl ?_
    refine z_lload dL_isSpread_190 rfl (q := 192) rfl ?_
    refine z_iload dL_isSpread_192 rfl (q := 194) rfl ?_
    refine z_i2l dL_isSpread_194 (q := 195) rfl ?_
    refine z_ladd dL_isSpread_195 (q := 196) rfl ?_
    refine z_lcmp dL_isSpread_196 (q := 197) rfl ?_
    refine z_if_ne (tgt := 221) dL_isSpread_197 (by decide) (q := 200) rfl (fun h197 => absurd h197 (fun h9 => h9 (sp_mv hm (keep0_refl X3)))) (fun h197 => ?_)
    refine z_iload_n (i := 3) dL_isSpread_200 rfl rfl (q := 201) rfl ?_
    refine z_if_lt (tgt := 217) dL_isSpread_201 (by decide) (q := 204) rfl (fun h201 => absurd h201 (nI_pos (by omega))) (fun h201 => ?_)
    refine z_aload_n (i := 0) dL_isSpread_204 rfl rfl (q := 205) rfl ?_
    refine z_iload_n (i := 3) dL_isSpread_205 rfl rfl (q := 206) rfl ?_
    refine z_iload_n (i := 2) dL_isSpread_206 rfl rfl (q := 207) rfl ?_
    refine z_callSA (As := [_, _, _]) dL_isSpread_207 kL_154 (l_start (k := lk) (t := 1) hs.1 (keep0_refl X3) (by omega) (by decide)) rfl (zle rfl) ⟨zle rfl, zle rfl⟩ (zroom (by omega) (by omega)) (q := 210) rfl (fun hE207 X207 hk207 => ?_)
    refine z_aload dL_isSpread_210 rfl (q := 212) rfl ?_
    refine z_iload_n (i := 3) dL_isSpread_212 rfl rfl (q := 213) rfl ?_
    refine z_iald dL_isSpread_213 (wy_1 _ _ _ _ _) (zin (by omega) (by decide)) (q := 214) rfl ?_
    rw [nI_clamp (n := lk) (by omega), hg lk hlk]
    refine z_icmp_ne (tgt := 221) dL_isSpread_214 (by decide) (q := 217) rfl (fun h214 => absurd h214 (fun h9 => h9 (hs.2.2.2.2.2.2.2.1 lk hlk hll))) (fun h214 => ?_)
    refine z_iconst (v := 1) dL_isSpread_217 rfl (q := 218) rfl ?_
    refine z_goto (tgt := 222) dL_isSpread_218 (by decide) ?_
    refine z_istore dL_isSpread_222 (zle rfl) rfl (q := 224) rfl ?_
    refine z_iconst (v := 0) dL_isSpread_224 rfl (q := 225) rfl ?_
    refine z_istore dL_isSpread_225 (zle rfl) rfl (q := 227) rfl ?_
    refine z_iconst (v := 0) dL_isSpread_227 rfl (q := 228) rfl ?_
    refine z_istore dL_isSpread_228 (zle rfl) rfl (q := 230) rfl ?_
    refine Z.widen (k2 := 41 + 4 * 0) (n2 := 242 + 24 * 0) (by omega) (by omega) (sp_end_1 hI hv hm ⟨hs.1, trivial⟩ hf hg n 0 (by omega) _ 0 hk207 (fun X5 e12 hk5 => ?_))
    refine z_iload dL_isSpread_321 rfl (q := 323) rfl ?_
    refine z_if_eq (tgt := 370) dL_isSpread_323 (by decide) (q := 326) rfl (fun h323 => absurd h323 (by decide)) (fun h323 => ?_)
    refine z_iload dL_isSpread_326 rfl (q := 328) rfl ?_
    refine z_iload dL_isSpread_328 rfl (q := 330) rfl ?_
    refine z_icmp_ne (tgt := 370) dL_isSpread_330 (by decide) (q := 333) rfl (fun h330 => absurd h330 (fun h9 => h9 hs.2.2.2.1)) (fun h330 => ?_)
    refine z_aload_n (i := 0) dL_isSpread_333 rfl rfl (q := 334) rfl ?_
    refine z_bipush (v := 13) dL_isSpread_334 rfl (q := 336) rfl ?_
    refine z_iload_n (i := 2) dL_isSpread_336 rfl rfl (q := 337) rfl ?_
    refine z_callSF (As := [_]) dL_isSpread_337 kL_148 (c_L_axis (t := 1) (by decide)) rfl (zle rfl) ⟨zle rfl, zle rfl⟩ (zroom (by omega) (by omega)) (q := 340) rfl ?_
    refine z_iconst (v := 0) dL_isSpread_340 rfl (q := 341) rfl ?_
    refine z_iconst (v := 0) dL_isSpread_341 rfl (q := 342) rfl ?_
    refine z_callSWA (As := [_, _, _, _, _]) dL_isSpread_342 kL_151 (a_evenCost (t := 1) hs.1 hk5 (by decide)) rfl (zle rfl) ⟨zle rfl, zle rfl⟩ (zroom (by omega) (by omega)) (q := 345) rfl (fun hE342 X342 hk342 => ?_)
    refine z_if_ne (tgt := 370) dL_isSpread_345 (by decide) (q := 348) rfl (fun h345 => absurd h345 (fun h9 => h9 (sp_ev0 hI (by decide) hv hm))) (fun h345 => ?_)
    refine z_aload_n (i := 0) dL_isSpread_348 rfl rfl (q := 349) rfl ?_
    refine z_bipush (v := 8) dL_isSpread_349 rfl (q := 351) rfl ?_
    refine z_iload_n (i := 2) dL_isSpread_351 rfl rfl (q := 352) rfl ?_
    refine z_callSF (As := [_]) dL_isSpread_352 kL_148 (c_L_axis (t := 1) (by decide)) rfl (zle rfl) ⟨zle rfl, zle rfl⟩ (zroom (by omega) (by omega)) (q := 355) rfl ?_
    refine z_iconst (v := 0) dL_isSpread_355 rfl (q := 356) rfl ?_
    refine z_iconst (v := 0) dL_isSpread_356 rfl (q := 357) rfl ?_
    refine z_iconst (v := 0) dL_isSpread_357 rfl (q := 358) rfl ?_
    refine z_callSWD (As := [_, _, _, _, _, _]) dL_isSpread_358 kL_145 (d_spread (t := 1) hs.1 hk342 (by decide) hs.2.1) rfl (zle rfl) ⟨zle rfl, zle rfl⟩ (zroom (by omega) (by omega)) (q := 361) rfl (fun X4 hm4 => ?_)
    have hs4 := sp_facts hs.1 (by decide) hs.2.1 hm4
    refine z_iload dL_isSpread_361 rfl (q := 363) rfl ?_
    refine z_icmp_ne (tgt := 370) dL_isSpread_363 (by decide) (q := 366) rfl (fun h363 => absurd h363 (fun h9 => h9 rfl)) (fun h363 => ?_)
    refine z_iconst (v := 1) dL_isSpread_366 rfl (q := 367) rfl ?_
    refine z_goto (tgt := 371) dL_isSpread_367 (by decide) ?_
    exact z_zret dL_isSpread_371 rfl (by first | rfl | assumption | decide) (zroom (by omega) (by omega)) ⟨rfl, _, _, rfl, hs4.1, (sp_rows hm4 4 (by decide) (by decide)).trans (sp_rows hm 4 (by decide) (by decide))⟩
end
