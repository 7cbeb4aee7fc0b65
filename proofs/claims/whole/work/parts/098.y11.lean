section
variable {G : zG} {X X1 : zX} {Y : zY} {O : zO}
set_option maxRecDepth 100000 in
set_option maxHeartbeats 4000000 in
theorem nsum_single {g : Nat → Nat} {a : Nat} : ∀ (m i : Nat), i ≤ a → a < i + m → nsum (fun q => q = a) g i m = g a
  | 0, i, h1, h2 => absurd h2 (by omega)
  | m + 1, i, h1, h2 => by
    rw [nsum]
    by_cases e : i = a
    · rw [if_pos e, e, nsum_none _ _ (fun q hq _ => by omega), Nat.add_zero]
    · rw [if_neg e, Nat.zero_add]
      exact nsum_single m (i + 1) (by omega) (by omega)
/- the place of a shape in an order -/
set_option maxRecDepth 100000 in
set_option maxHeartbeats 4000000 in
theorem ord_pos {t n : Nat} {o : Nat → Nat} (h : ordR X t n o) : ∃ ps : Nat → Nat, (∀ j, j < n → ps j < n ∧ o (ps j) = j) ∧ ∀ p, p < n → ps (o p) = p := by
  have h2 : ∀ j, ∃ p, j < n → p < n ∧ o p = j := fun j => by
    rcases Nat.lt_or_ge j n with h3 | h3
    · obtain ⟨p, h4⟩ := h.2.2 j h3
      exact ⟨p, fun _ => h4⟩
    · exact ⟨0, fun h4 => absurd h4 (by omega)⟩
  have h3 : ∀ j, j < n → Classical.choose (h2 j) < n ∧ o (Classical.choose (h2 j)) = j := fun j hj => Classical.choose_spec (h2 j) hj
  refine ⟨fun j => Classical.choose (h2 j), h3, fun p hp => ?_⟩
  have h4 := h3 (o p) (h.1 p hp)
  rcases Nat.lt_trichotomy (Classical.choose (h2 (o p))) p with h5 | h5 | h5
  · exact absurd h4.2 (ordR_inj h h5 hp)
  · exact h5
  · exact absurd h4.2.symm (ordR_inj h h5 h4.1)
set_option maxRecDepth 100000 in
set_option maxHeartbeats 4000000 in
theorem nsum_pos {t n : Nat} {o ps g : Nat → Nat} (h : ordR X t n o) (h1 : ∀ j, j < n → ps j < n ∧ o (ps j) = j) (h2 : ∀ p, p < n → ps (o p) = p) : ∀ m, m ≤ n → nsum (fun k => ps k < m) g 0 n = nsum (fun _ => True) (fun p => g (o p)) 0 m
  | 0, _ => by rw [nsum_none _ _ (fun q _ _ h9 => absurd h9 (by omega))]; rfl
  | m + 1, hm => by
    rw [nsum_last, if_pos trivial, Nat.zero_add, ← nsum_pos h h1 h2 m (by omega)]
    rw [← nsum_or (p := fun k => ps k < m) (r := fun k => ps k = m) (s := fun k => ps k < m + 1) (fun q => ⟨by omega, by omega⟩) n 0]
    rw [nsum_congr (p := fun k => k = o m) (p2 := fun k => ps k = m) n 0 (fun q _ hq => ⟨fun h9 => by rw [← h9]; exact ((h1 q (by omega)).2).symm, fun h9 => by rw [h9]; exact h2 m (by omega)⟩), nsum_single n 0 (Nat.zero_le _) (by have := h.1 m (by omega); omega)]
set_option maxRecDepth 100000 in
set_option maxHeartbeats 4000000 in
theorem nsum_ones : ∀ (m i : Nat), nsum (fun _ => True) (fun _ => 1) i m = m
  | 0, _ => rfl
  | m + 1, i => by rw [nsum, if_pos trivial, nsum_ones m (i + 1)]; omega
/- the rank of a shape -/
set_option maxRecDepth 100000 in
set_option maxHeartbeats 4000000 in
abbrev lessP (X : zX) (t k j : Nat) : Prop := X.2.1 (2 * t) j < X.2.1 (2 * t) k ∨ X.2.1 (2 * t) j = X.2.1 (2 * t) k ∧ nI j < nI k
set_option maxRecDepth 100000 in
set_option maxHeartbeats 4000000 in
theorem rank_eq {n nw t p : Nat} {o : Nat → Nat} (hI : inv X n nw) (ht : t < 2) (h : ordR X t n o) (hp : p < n) : rcnt (lessP X t (o p)) 0 n 0 = nI p := by
  obtain ⟨ps, h1, h2⟩ := ord_pos h
  have h4 := hI.1
  have e : ∀ (m i a : Nat), rcnt (lessP X t (o p)) i m (nI a) = nI (a + nsum (lessP X t (o p)) (fun _ => 1) i m) := fun m => by
    induction m with
    | zero => intro i a; rfl
    | succ m ih =>
      intro i a
      rw [nsum]
      by_cases hq : lessP X t (o p) i
      · rw [rcnt_t hq, if_pos hq, nI_1, ih, Nat.add_assoc]
      · rw [rcnt_f hq, if_neg hq, ih, Nat.zero_add]
  have e2 := e n 0 0
  rw [Nat.zero_add] at e2
  refine e2.trans ?_
  congr 1
  rw [nsum_congr (p := fun k => ps k < p) n 0 (fun q _ hq => ?_), nsum_pos h h1 h2 p (by omega), nsum_ones]
  have hq2 : q < n := by omega
  have a1 := inv_axis hI ht hq2
  have a2 := inv_axis hI ht (h.1 p hp)
  have hop := h.1 p hp
  have hl : lessP X t (o p) q ↔ sN X t q * 4 + q < sN X t (o p) * 4 + o p := by
    unfold lessP
    rw [a1.1.1, a2.1.1, nI_ltI (by have := a1.1.2; omega) (by have := a2.1.2; omega), nI_eq (by have := a1.1.2; omega) (by have := a2.1.2; omega), nI_ltI (by omega) (by omega)]
    show sN X t q < sN X t (o p) ∨ sN X t q = sN X t (o p) ∧ q < o p ↔ _
    omega
  rw [hl]
  obtain ⟨g1, g2⟩ := h1 q hq2
  constructor
  · intro h5
    rcases Nat.lt_trichotomy (ps q) p with h6 | h6 | h6
    · exact h6
    · rw [← h6, g2] at h5; omega
    · have h7 := h.2.1 p (ps q) h6 g1
      rw [g2] at h7; omega
  · intro h5
    have h7 := h.2.1 (ps q) p h5 hp
    rw [g2] at h7; exact h7
set_option maxRecDepth 100000 in
set_option maxHeartbeats 4000000 in
theorem z_X9_ev_20 {n nw t k : Nat} {f : Nat → Int32} {e5 : Option Value} {P : zRes → zWorld → Prop} (hR : rel X Y n nw) (ht : t < 2) (hk : k < n) : ∀ (m i : Nat) (a : Int32), i + m = n → Z G mX9_findEvenest (zrm 3 0 0) 0 0 81 [some (.ref 77), some (.int (nI t)), some (.int (nI k)), some (.int (rcnt (lessP X t k) i m a)), some (.int (nI n)), e5] [] (zw X1 (yarr Y 15 f) O) P → Z G mX9_findEvenest (zrm 3 0 0) 0 0 20 [some (.ref 77), some (.int (nI t)), some (.int (nI k)), some (.int a), some (.int (nI i)), e5] [] (zw X1 (yarr Y 15 f) O) P := by
  have h4 := rel_4 hR
  intro m
  induction m with
  | zero =>
    intro i a hi hx
    rw [rcnt] at hx
    refine z_iload dX9_findEvenest_20 rfl (q := 22) rfl ?_
    refine z_aload_n (i := 0) dX9_findEvenest_22 rfl rfl (q := 23) rfl ?_
    refine z_get dX9_findEvenest_23 fX9_64 (wm _ _ _) rfl (q := 26) rfl ?_
    refine Z.eqst (st2 := [.int (nI n), .int (nI i)]) (congrArg (fun x => [Value.int x, Value.int (nI i)]) hR.1) ?_
    refine z_icmp_ge (tgt := 81) dX9_findEvenest_26 (by decide) (q := 29) rfl (fun h26 => ?_) (fun h26 => absurd (zge_t (by omega)) h26)
    rw [show i = n by omega]
    exact hx
  | succ m ih =>
    intro i a hi hx
    refine z_iload dX9_findEvenest_20 rfl (q := 22) rfl ?_
    refine z_aload_n (i := 0) dX9_findEvenest_22 rfl rfl (q := 23) rfl ?_
    refine z_get dX9_findEvenest_23 fX9_64 (wm _ _ _) rfl (q := 26) rfl ?_
    refine Z.eqst (st2 := [.int (nI n), .int (nI i)]) (congrArg (fun x => [Value.int x, Value.int (nI i)]) hR.1) ?_
    refine z_icmp_ge (tgt := 81) dX9_findEvenest_26 (by decide) (q := 29) rfl (fun h26 => absurd h26 (zge_f (by omega) (by omega))) (fun h26 => ?_)
    refine z_iload_n (i := 3) dX9_findEvenest_29 rfl rfl (q := 30) rfl ?_
    refine z_aload_n (i := 0) dX9_findEvenest_30 rfl rfl (q := 31) rfl ?_
    refine z_iload dX9_findEvenest_31 rfl (q := 33) rfl ?_
    refine z_iload_n (i := 1) dX9_findEvenest_33 rfl rfl (q := 34) rfl ?_
    refine z_callVF (As := [_, _]) dX9_findEvenest_34 kX9_75 (c_X9_at (rel_arr hR (by decide) f) (by omega) ht) (wm _ _ _) rfl rfl (zle rfl) ⟨zle rfl, zle rfl⟩ ⟨zle rfl, zle rfl⟩ (q := 37) rfl ?_
    refine z_aload_n (i := 0) dX9_findEvenest_37 rfl rfl (q := 38) rfl ?_
    refine z_iload_n (i := 2) dX9_findEvenest_38 rfl rfl (q := 39) rfl ?_
    refine z_iload_n (i := 1) dX9_findEvenest_39 rfl rfl (q := 40) rfl ?_
    refine z_callVF (As := [_, _]) dX9_findEvenest_40 kX9_75 (c_X9_at (rel_arr hR (by decide) f) hk ht) (wm _ _ _) rfl rfl (zle rfl) ⟨zle rfl, zle rfl⟩ ⟨zle rfl, zle rfl⟩ (q := 43) rfl ?_
    refine z_icmp_lt (tgt := 68) dX9_findEvenest_43 (by decide) (q := 46) rfl (fun h43 => ?_) (fun h43 => ?_)
    · refine z_iconst (v := 1) dX9_findEvenest_68 rfl (q := 69) rfl ?_
      refine z_goto (tgt := 73) dX9_findEvenest_69 (by decide) ?_
      refine z_iadd dX9_findEvenest_73 (q := 74) rfl ?_
      refine z_istore_n (i := 3) dX9_findEvenest_74 rfl (zle rfl) rfl (q := 75) rfl ?_
      refine z_iinc dX9_findEvenest_75 rfl rfl (zle rfl) rfl (q := 78) rfl ?_
      refine z_goto (tgt := 20) dX9_findEvenest_78 (by decide) ?_
      refine Z.eql (zl2 := [some (.ref 77), some (.int (nI t)), some (.int (nI k)), _, some (.int (nI (i + 1))), e5]) (by first | (rw [← nI_1 i]; done) | (rw [← nI_1 i]; rfl)) ?_
      rw [rcnt_t (Or.inl h43)] at hx
      exact ih (i + 1) _ (by omega) hx
    · refine z_aload_n (i := 0) dX9_findEvenest_46 rfl rfl (q := 47) rfl ?_
      refine z_iload dX9_findEvenest_47 rfl (q := 49) rfl ?_
      refine z_iload_n (i := 1) dX9_findEvenest_49 rfl rfl (q := 50) rfl ?_
      refine z_callVF (As := [_, _]) dX9_findEvenest_50 kX9_75 (c_X9_at (rel_arr hR (by decide) f) (by omega) ht) (wm _ _ _) rfl rfl (zle rfl) ⟨zle rfl, zle rfl⟩ ⟨zle rfl, zle rfl⟩ (q := 53) rfl ?_
      refine z_aload_n (i := 0) dX9_findEvenest_53 rfl rfl (q := 54) rfl ?_
      refine z_iload_n (i := 2) dX9_findEvenest_54 rfl rfl (q := 55) rfl ?_
      refine z_iload_n (i := 1) dX9_findEvenest_55 rfl rfl (q := 56) rfl ?_
      refine z_callVF (As := [_, _]) dX9_findEvenest_56 kX9_75 (c_X9_at (rel_arr hR (by decide) f) hk ht) (wm _ _ _) rfl rfl (zle rfl) ⟨zle rfl, zle rfl⟩ ⟨zle rfl, zle rfl⟩ (q := 59) rfl ?_
      refine z_icmp_ne (tgt := 72) dX9_findEvenest_59 (by decide) (q := 62) rfl (fun h59 => ?_) (fun h59 => ?_)
      · refine z_iconst (v := 0) dX9_findEvenest_72 rfl (q := 73) rfl ?_
        refine z_iadd dX9_findEvenest_73 (q := 74) rfl ?_
        refine z_istore_n (i := 3) dX9_findEvenest_74 rfl (zle rfl) rfl (q := 75) rfl ?_
        refine z_iinc dX9_findEvenest_75 rfl rfl (zle rfl) rfl (q := 78) rfl ?_
        refine z_goto (tgt := 20) dX9_findEvenest_78 (by decide) ?_
        rw [Int32.add_zero]
        refine Z.eql (zl2 := [some (.ref 77), some (.int (nI t)), some (.int (nI k)), _, some (.int (nI (i + 1))), e5]) (by first | (rw [← nI_1 i]; done) | (rw [← nI_1 i]; rfl)) ?_
        rw [rcnt_f (fun h9 => h9.elim h43 (fun h8 => h59 h8.1))] at hx
        exact ih (i + 1) _ (by omega) hx
      · refine z_iload dX9_findEvenest_62 rfl (q := 64) rfl ?_
        refine z_iload_n (i := 2) dX9_findEvenest_64 rfl rfl (q := 65) rfl ?_
        refine z_icmp_ge (tgt := 72) dX9_findEvenest_65 (by decide) (q := 68) rfl (fun h65 => ?_) (fun h65 => ?_)
        · refine z_iconst (v := 0) dX9_findEvenest_72 rfl (q := 73) rfl ?_
          refine z_iadd dX9_findEvenest_73 (q := 74) rfl ?_
          refine z_istore_n (i := 3) dX9_findEvenest_74 rfl (zle rfl) rfl (q := 75) rfl ?_
          refine z_iinc dX9_findEvenest_75 rfl rfl (zle rfl) rfl (q := 78) rfl ?_
          refine z_goto (tgt := 20) dX9_findEvenest_78 (by decide) ?_
          rw [Int32.add_zero]
          refine Z.eql (zl2 := [some (.ref 77), some (.int (nI t)), some (.int (nI k)), _, some (.int (nI (i + 1))), e5]) (by first | (rw [← nI_1 i]; done) | (rw [← nI_1 i]; rfl)) ?_
          rw [rcnt_f (fun h9 => h9.elim h43 (fun h8 => Int32.not_lt.mpr h65 h8.2))] at hx
          exact ih (i + 1) _ (by omega) hx
        · refine z_iconst (v := 1) dX9_findEvenest_68 rfl (q := 69) rfl ?_
          refine z_goto (tgt := 73) dX9_findEvenest_69 (by decide) ?_
          refine z_iadd dX9_findEvenest_73 (q := 74) rfl ?_
          refine z_istore_n (i := 3) dX9_findEvenest_74 rfl (zle rfl) rfl (q := 75) rfl ?_
          refine z_iinc dX9_findEvenest_75 rfl rfl (zle rfl) rfl (q := 78) rfl ?_
          refine z_goto (tgt := 20) dX9_findEvenest_78 (by decide) ?_
          refine Z.eql (zl2 := [some (.ref 77), some (.int (nI t)), some (.int (nI k)), _, some (.int (nI (i + 1))), e5]) (by first | (rw [← nI_1 i]; done) | (rw [← nI_1 i]; rfl)) ?_
          rw [rcnt_t (Or.inr ⟨h59, Int32.not_le.mp h65⟩)] at hx
          exact ih (i + 1) _ (by omega) hx
set_option maxRecDepth 100000 in
set_option maxHeartbeats 4000000 in
theorem z_X9_ev_7 {n nw t : Nat} {o : Nat → Nat} {P : zRes → zWorld → Prop} (hI : inv X n nw) (hR : rel X Y n nw) (ht : t < 2) (ho : ordR X t n o) : ∀ (m i : Nat) (f : Nat → Int32) (e3 e4 e5 : Option Value), i + m = n → (∀ p, p < n → o p < i → f p = nI (o p)) → (∀ (f : Nat → Int32) (e3 e4 e5 : Option Value), (∀ p, p < n → f p = nI (o p)) → Z G mX9_findEvenest (zrm 3 0 0) 0 0 94 [some (.ref 77), some (.int (nI t)), some (.int (nI n)), e3, e4, e5] [] (zw X1 (yarr Y 15 f) O) P) → Z G mX9_findEvenest (zrm 3 0 0) 0 0 7 [some (.ref 77), some (.int (nI t)), some (.int (nI i)), e3, e4, e5] [] (zw X1 (yarr Y 15 f) O) P := by
  have h4 := rel_4 hR
  intro m
  induction m with
  | zero =>
    intro i f e3 e4 e5 hi hf hx
    refine z_iload_n (i := 2) dX9_findEvenest_7 rfl rfl (q := 8) rfl ?_
    refine z_aload_n (i := 0) dX9_findEvenest_8 rfl rfl (q := 9) rfl ?_
    refine z_get dX9_findEvenest_9 fX9_64 (wm _ _ _) rfl (q := 12) rfl ?_
    refine Z.eqst (st2 := [.int (nI n), .int (nI i)]) (congrArg (fun x => [Value.int x, Value.int (nI i)]) hR.1) ?_
    refine z_icmp_ge (tgt := 94) dX9_findEvenest_12 (by decide) (q := 15) rfl (fun h12 => ?_) (fun h12 => absurd (zge_t (by omega)) h12)
    rw [show i = n by omega]
    exact hx f e3 e4 e5 (fun p hp => hf p hp (by rw [show i = n by omega]; exact ho.1 p hp))
  | succ m ih =>
    intro i f e3 e4 e5 hi hf hx
    refine z_iload_n (i := 2) dX9_findEvenest_7 rfl rfl (q := 8) rfl ?_
    refine z_aload_n (i := 0) dX9_findEvenest_8 rfl rfl (q := 9) rfl ?_
    refine z_get dX9_findEvenest_9 fX9_64 (wm _ _ _) rfl (q := 12) rfl ?_
    refine Z.eqst (st2 := [.int (nI n), .int (nI i)]) (congrArg (fun x => [Value.int x, Value.int (nI i)]) hR.1) ?_
    refine z_icmp_ge (tgt := 94) dX9_findEvenest_12 (by decide) (q := 15) rfl (fun h12 => absurd h12 (zge_f (by omega) (by omega))) (fun h12 => ?_)
    refine z_iconst (v := 0) dX9_findEvenest_15 rfl (q := 16) rfl ?_
    refine z_istore_n (i := 3) dX9_findEvenest_16 rfl (zle rfl) rfl (q := 17) rfl ?_
    refine z_iconst (v := 0) dX9_findEvenest_17 rfl (q := 18) rfl ?_
    refine z_istore dX9_findEvenest_18 (zle rfl) rfl (q := 20) rfl ?_
    refine z_X9_ev_20 hR ht (k := i) (by omega) n 0 0 (by omega) ?_
    refine z_aload_n (i := 0) dX9_findEvenest_81 rfl rfl (q := 82) rfl ?_
    refine z_get dX9_findEvenest_82 fX9_57 (wm _ _ _) rfl (q := 85) rfl ?_
    refine z_iload_n (i := 3) dX9_findEvenest_85 rfl rfl (q := 86) rfl ?_
    refine z_iload_n (i := 2) dX9_findEvenest_86 rfl rfl (q := 87) rfl ?_
    obtain ⟨p, hp, hpi⟩ := ho.2.2 i (by omega)
    refine Z.eqst (st2 := [.int (nI i), .int (nI p), .ref 93]) (congrArg (fun x => [Value.int (nI i), Value.int x, Value.ref 93]) (show rcnt (lessP X t i) 0 n 0 = nI p by rw [← hpi]; exact rank_eq hI ht ho hp)) ?_
    refine z_iast dX9_findEvenest_87 (wma_row _ _ _) (zin (k := p) (by omega) (by decide)) (q := 88) rfl ?_
    refine Z.eqw (wms_row _ _ _ _) ?_
    rw [nI_clamp (by omega), yarr_yarr, yarr_f]
    refine z_iinc dX9_findEvenest_88 rfl rfl (zle rfl) rfl (q := 91) rfl ?_
    refine z_goto (tgt := 7) dX9_findEvenest_91 (by decide) ?_
    refine Z.eql (zl2 := [some (.ref 77), some (.int (nI t)), some (.int (nI (i + 1))), _, _, _]) (by first | (rw [← nI_1 i]; done) | (rw [← nI_1 i]; rfl)) ?_
    refine ih (i + 1) _ _ _ _ (by omega) (fun q hq hq2 => ?_) hx
    by_cases e : q = p
    · rw [e, hpi]; exact pk_us
    · rw [pk_un e]
      refine hf q hq ?_
      have h8 : o q ≠ i := fun h9 => by
        rw [← hpi] at h9
        rcases Nat.lt_trichotomy q p with h7 | h7 | h7
        · exact ordR_inj ho h7 hp h9
        · exact e h7
        · exact ordR_inj ho h7 hq h9.symm
      omega
set_option maxRecDepth 100000 in
set_option maxHeartbeats 4000000 in
abbrev coE (X : zX) (t n : Nat) (o : Nat → Nat) (g s : Nat) : Nat := cN (eSt X t o) (eSb X t o) g s 0 n
set_option maxRecDepth 100000 in
set_option maxHeartbeats 4000000 in
abbrev cdE (X : zX) (t n : Nat) (o : Nat → Nat) : Nat → Nat → Prop := cand n (eSt X t o) (eSb X t o) (eLk X o) (eF X t n o)
set_option maxRecDepth 100000 in
set_option maxHeartbeats 4000000 in
abbrev cbE (X : zX) (t n : Nat) (o : Nat → Nat) (g s : Nat) : Nat → Nat → Prop := candB n (eSt X t o) (eSb X t o) (eLk X o) (eF X t n o) g s
set_option maxRecDepth 100000 in
set_option maxHeartbeats 4000000 in
def limN (t : Nat) : Nat := if t = 0 then 200 else 120
set_option maxRecDepth 100000 in
set_option maxHeartbeats 4000000 in
theorem limN_eq {t : Nat} (ht : t < 2) : zlim t = nI (limN t) ∧ limN t ≤ 200 := by
  rcases (show t = 0 ∨ t = 1 by omega) with rfl | rfl <;> exact ⟨rfl, by decide⟩
set_option maxRecDepth 100000 in
set_option maxHeartbeats 4000000 in
theorem sbf_mono {z : Nat → Nat} : ∀ {p q : Nat}, p ≤ q → sbf z p ≤ sbf z q := fun {p q} h => by
  induction q with
  | zero => rw [show p = 0 by omega]; exact Nat.le_refl _
  | succ q ih =>
    rcases Nat.lt_or_ge q p with h1 | h1
    · rw [show p = q + 1 by omega]; exact Nat.le_refl _
    · exact Nat.le_trans (ih h1) (Nat.le_add_right _ _)
set_option maxRecDepth 100000 in
set_option maxHeartbeats 4000000 in
theorem zN_le {n nw t : Nat} {o : Nat → Nat} (hI : inv X n nw) (ht : t < 2) (ho : ordR X t n o) {p : Nat} (hp : p < n) : X.2.1 (2 * t + 1) (o p) = nI (zN X t (o p)) ∧ zN X t (o p) ≤ 200 ∧ 1 ≤ zN X t (o p) ∧ X.2.1 (2 * t) (o p) = nI (sN X t (o p)) ∧ sN X t (o p) ≤ 200 := by
  have h1 := inv_axis hI ht (ho.1 p hp)
  have h2 := hI.2.2.2.2.1 (o p) (ho.1 p hp)
  refine ⟨h1.2.1, h1.2.2, ?_, h1.1.1, h1.1.2⟩
  rcases (show t = 0 ∨ t = 1 by omega) with rfl | rfl
  · have := h2.2.2.2.2.1
    show 1 ≤ num (X.2.1 1 (o p))
    omega
  · exact h2.2.2.2.2.2.1
set_option maxRecDepth 100000 in
set_option maxHeartbeats 4000000 in
theorem eSb_le {n nw t : Nat} {o : Nat → Nat} (hI : inv X n nw) (ht : t < 2) (ho : ordR X t n o) {p : Nat} (hp : p ≤ n) : eSb X t o p ≤ 800 := by
  have h1 := sbf_le (z := fun q => zN X t (o q)) p (fun q hq => (zN_le hI ht ho (show q < n by omega)).2.1)
  have h4 := hI.1
  show sbf (fun q => zN X t (o q)) p ≤ 800
  omega
set_option maxRecDepth 100000 in
set_option maxHeartbeats 4000000 in
theorem pN_next (sb : Nat → Nat) (z g s p : Nat) (h : sb (p + 1) = sb p + z) : pN sb g s p + (z + g) = pN sb g s (p + 1) := by
  unfold pN
  rw [h, Nat.mul_add, Nat.mul_one]
  omega
set_option maxRecDepth 100000 in
set_option maxHeartbeats 4000000 in
theorem pE_le {n nw t g s : Nat} {o : Nat → Nat} (hI : inv X n nw) (ht : t < 2) (ho : ordR X t n o) (hg : g ≤ 200) (hs : s ≤ 200) {p : Nat} (hp : p ≤ n) : pN (eSb X t o) g s p ≤ 1800 := by
  have h1 := eSb_le hI ht ho hp
  have h4 := hI.1
  have h5 : g * p ≤ 200 * 4 := Nat.mul_le_mul hg (by omega)
  unfold pN
  omega
set_option maxRecDepth 100000 in
set_option maxHeartbeats 4000000 in
theorem pN_mono (sb : Nat → Nat) (g s : Nat) {p q : Nat} (z : Nat) (hpq : p < q) (h : sb p + z ≤ sb q) : pN sb g s p + z ≤ pN sb g s q := by
  unfold pN
  have h5 : g * p ≤ g * q := Nat.mul_le_mul_left _ (by omega)
  omega
/- the allowed ones are the candidates -/
set_option maxRecDepth 100000 in
set_option maxHeartbeats 4000000 in
theorem allow_cand {n nw t g s : Nat} {o : Nat → Nat} {f : Nat → Int32} (hI : inv X n nw) (ht : t < 2) (h2 : 2 ≤ n) (ho : ordR X t n o) (hg : g ≤ 200) (hs : s ≤ 200) (hf : ∀ p, p < n → f (o p) = nI (pN (eSb X t o) g s p)) : allow X t n f ↔ cdE X t n o g s := by
  have h4 := hI.1
  obtain ⟨hl, hl2⟩ := limN_eq ht
  obtain ⟨n1, hn1⟩ : ∃ n1, n = n1 + 1 := ⟨n - 1, by omega⟩
  have hlast := zN_le hI ht ho (show n1 < n by omega)
  have hpl := pE_le hI ht ho hg hs (show n1 ≤ n by omega)
  have hsn : eSb X t o n = eSb X t o n1 + zN X t (o n1) := by subst hn1; rfl
  have hsn2 := eSb_le hI ht ho (Nat.le_refl n)
  have hgn : g * (n - 1) = g * n1 := by rw [hn1]; rfl
  have hgn2 : g * n1 ≤ 200 * 4 := Nat.mul_le_mul hg (by omega)
  have hF : eF X t n o = nI (limN t) - nI (eSb X t o n) := by
    show zlim t - nI (eSb X t o n) = _
    rw [hl]
  have hon : ∀ p, p < n → (zon (zlim t) (f (o p)) (X.2.1 (2 * t + 1) (o p)) ↔ pN (eSb X t o) g s p + zN X t (o p) ≤ limN t) := fun p hp => by
    have z1 := zN_le hI ht ho hp
    have p1 := pE_le hI ht ho hg hs (show p ≤ n by omega)
    unfold zon
    rw [hf p hp, z1.1, hl]
    rcases Nat.lt_or_ge (limN t) (zN X t (o p)) with h5 | h5
    · have h6 := nI_subneg h5 (by omega)
      constructor
      · rintro ⟨_, h7⟩
        exact absurd (Int32.lt_of_lt_of_le h6 (nI_pos' (by omega))) h7
      · intro h7; omega
    · rw [nI_sub h5, nI_ltI (by omega) (by omega)]
      exact ⟨fun h7 => by have := h7.2; omega, fun h7 => ⟨nI_pos (by omega), by omega⟩⟩
  constructor
  · intro ha
    have h5 := (hon n1 (by omega)).mp (ha (o n1) (ho.1 n1 (by omega))).1.1
    have h6 : pN (eSb X t o) g s n1 = s + eSb X t o n1 + g * n1 := rfl
    have h7 : g ≤ g * n1 := Nat.le_mul_of_pos_right _ (by omega)
    refine ⟨h2, limN t - eSb X t o n, by rw [hF, nI_sub (by omega)], by omega, by omega, by omega, fun p hp hlk => ?_⟩
    have h8 := (ha (o p) (ho.1 p hp)).1.2.resolve_left hlk
    have z1 := zN_le hI ht ho hp
    have p1 := pE_le hI ht ho hg hs (show p ≤ n by omega)
    rw [hf p hp, z1.2.2.2.1, nI_eq (by omega) (by omega)] at h8
    exact h8
  · rintro ⟨_, Fn, e1, e2, e3, e4, e5⟩
    have hle : eSb X t o n ≤ limN t := by
      rcases Nat.lt_or_ge (limN t) (eSb X t o n) with h5 | h5
      · rw [hF] at e1
        have h6 := nI_subneg h5 (by omega)
        rw [e1] at h6
        exact absurd h6 (nI_pos (by omega))
      · exact h5
    have hFn : Fn = limN t - eSb X t o n := by
      rw [hF, nI_sub hle, nI_eq (by omega) (by omega)] at e1
      exact e1.symm
    obtain ⟨ps, q1, q2⟩ := ord_pos ho
    have hap : ∀ p q, p < q → q < n → pN (eSb X t o) g s p + zN X t (o p) ≤ pN (eSb X t o) g s q := fun p q hpq hq =>
      pN_mono (eSb X t o) g s (zN X t (o p)) hpq (Nat.le_trans (show eSb X t o p + zN X t (o p) ≤ eSb X t o (p + 1) from Nat.le_refl _) (sbf_mono (show p + 1 ≤ q by omega)))
    intro k hk
    obtain ⟨g1, g2⟩ := q1 k hk
    have hkk : aOne X t f k := by
      rw [← g2]
      refine ⟨(hon _ g1).mpr ?_, ?_⟩
      · have h6 : pN (eSb X t o) g s n1 = s + eSb X t o n1 + g * n1 := rfl
        rcases Nat.lt_or_ge (ps k) n1 with h7 | h7
        · have h8 := hap (ps k) n1 h7 (by omega)
          omega
        · rw [show ps k = n1 by omega]
          omega
      · by_cases hlk : X.2.1 4 (o (ps k)) = 0
        · exact Or.inl hlk
        · refine Or.inr ?_
          rw [hf _ g1, e5 _ g1 hlk]
          exact (zN_le hI ht ho g1).2.2.2.1.symm
    refine ⟨hkk, fun j hj hp => ?_⟩
    obtain ⟨g3, g4⟩ := q1 j (by omega)
    have hm := hp.1
    have z1 := zN_le hI ht ho g1
    have z2 := zN_le hI ht ho g3
    have p1 := pE_le hI ht ho hg hs (show ps k ≤ n by omega)
    have p2 := pE_le hI ht ho hg hs (show ps j ≤ n by omega)
    have f1 := hf _ g1
    have f2 := hf _ g3
    rw [g2] at z1 f1
    rw [g4] at z2 f2
    rw [f1, f2, z1.1, z2.1, zm_iff (by omega) (by omega) (by omega) (by omega)] at hm
    rcases Nat.lt_trichotomy (ps k) (ps j) with h5 | h5 | h5
    · have h6 := hap _ _ h5 g3
      rw [g2] at h6; omega
    · rw [h5, g4] at g2; omega
    · have h6 := hap _ _ h5 g1
      rw [g4] at h6; omega
set_option maxRecDepth 100000 in
set_option maxHeartbeats 4000000 in
theorem cN_nsum (st sb : Nat → Nat) (g s : Nat) : ∀ (m p : Nat), cN st sb g s p m = nsum (fun _ => True) (fun p => dN (pN sb g s p) (st p)) p m
  | 0, _ => rfl
  | m + 1, p => by rw [cN, nsum, if_pos trivial, cN_nsum st sb g s m (p + 1)]
set_option maxRecDepth 100000 in
set_option maxHeartbeats 4000000 in
theorem cst_E {n nw t g s : Nat} {o : Nat → Nat} {f : Nat → Int32} (hI : inv X n nw) (ht : t < 2) (ho : ordR X t n o) (hg : g ≤ 200) (hs : s ≤ 200) (hf : ∀ p, p < n → f (o p) = nI (pN (eSb X t o) g s p)) : cst X t n f = nI (coE X t n o g s) := by
  obtain ⟨ps, q1, q2⟩ := ord_pos ho
  have e : ∀ (m i a : Nat), i + m = n → rsum (fun k => iabs (f k - X.2.1 (2 * t) k)) i m (nI a) = nI (a + nsum (fun _ => True) (fun k => dN (pN (eSb X t o) g s (ps k)) (sN X t k)) i m) := fun m => by
    induction m with
    | zero => intro i a _; rfl
    | succ m ih =>
      intro i a hi
      obtain ⟨g1, g2⟩ := q1 i (by omega)
      have z1 := zN_le hI ht ho g1
      have p1 := pE_le hI ht ho hg hs (show ps i ≤ n by omega)
      have f1 := hf _ g1
      rw [g2] at z1 f1
      have h3 : iabs (f i - X.2.1 (2 * t) i) = nI (dN (pN (eSb X t o) g s (ps i)) (sN X t i)) := by
        rw [f1, z1.2.2.2.1]
        exact nI_distB (by omega) (by omega)
      rw [rsum, h3, nI_add, ih (i + 1) _ (by omega), nsum, if_pos trivial, Nat.add_assoc]
  have e2 := e n 0 0 (by omega)
  rw [Nat.zero_add] at e2
  refine e2.trans ?_
  congr 1
  have h5 := nsum_pos (g := fun k => dN (pN (eSb X t o) g s (ps k)) (sN X t k)) ho q1 q2 n (Nat.le_refl n)
  rw [nsum_congr (p := fun _ => True) (p2 := fun k => ps k < n) n 0 (fun q _ hq => ⟨fun _ => trivial, fun _ => (q1 q (by omega)).1⟩)] at h5
  show nsum (fun _ => True) _ 0 n = cN (eSt X t o) (eSb X t o) g s 0 n
  rw [h5, cN_nsum]
  exact nsum_congr2 n 0 fun p _ hp => ⟨Iff.rfl, by show dN (pN (eSb X t o) g s (ps (o p))) (sN X t (o p)) = _; rw [q2 p (by omega)]⟩
/- the best as the reference has it -/
set_option maxRecDepth 100000 in
set_option maxHeartbeats 4000000 in
def evY (X : zX) (t n : Nat) (o : Nat → Nat) (Y : zY) : eb → Prop
  | none => Y.2.1 6 = 0
  | some (c, g, s) => Y.2.1 6 = 1 ∧ Y.2.1 3 = nI c ∧ Y.2.1 5 = nI g ∧ c ≤ 8000 ∧ ∀ p, p < n → Y.1 13 (o p) = nI (pN (eSb X t o) g s p)
set_option maxRecDepth 100000 in
set_option maxHeartbeats 4000000 in
def TE (Y Y2 : zY) (n : Nat) (o : Nat → Nat) : Prop := keepY Y Y2 ∧ Y2.2.1 0 = Y.2.1 0 ∧ ∀ p, p < n → Y2.1 15 p = nI (o p)
set_option maxRecDepth 100000 in
set_option maxHeartbeats 4000000 in
theorem TE_arr {Y2 : zY} {n : Nat} {o : Nat → Nat} (h : TE Y Y2 n o) {j : Nat} (hj : j = 12 ∨ j = 13) (f : Nat → Int32) : TE Y (yarr Y2 j f) n o := ⟨keepY_arr h.1 (by omega) f, h.2.1, fun p hp => by
  rw [show (yarr Y2 j f).1 15 = Y2.1 15 from if_neg (by omega)]; exact h.2.2 p hp⟩
set_option maxRecDepth 100000 in
set_option maxHeartbeats 4000000 in
theorem TE_int {Y2 : zY} {n : Nat} {o : Nat → Nat} (h : TE Y Y2 n o) {j : Nat} (hj : 3 ≤ j) (v : Int32) : TE Y (yint Y2 j v) n o := ⟨keepY_int h.1 (Or.inr hj) v, (if_neg (by omega)).trans h.2.1, h.2.2⟩
set_option maxRecDepth 100000 in
set_option maxHeartbeats 4000000 in
theorem coE_le {n nw t g s : Nat} {o : Nat → Nat} (hI : inv X n nw) (ht : t < 2) (ho : ordR X t n o) (hg : g ≤ 200) (hs : s ≤ 200) : coE X t n o g s ≤ 8000 := by
  have h4 := hI.1
  have h : ∀ (m p : Nat), p + m ≤ n → cN (eSt X t o) (eSb X t o) g s p m ≤ 2000 * m := fun m => by
    induction m with
    | zero => intro p _; exact Nat.le_refl _
    | succ m ih =>
      intro p hp
      have h1 := ih (p + 1) (by omega)
      have h2 := pE_le hI ht ho hg hs (show p ≤ n by omega)
      have h3 := (zN_le hI ht ho (show p < n by omega)).2.2.2.2
      have h5 : eSt X t o p ≤ 200 := h3
      unfold cN dN
      omega
  have h6 := h n 0 (by omega)
  show cN (eSt X t o) (eSb X t o) g s 0 n ≤ 8000
  omega
set_option maxRecDepth 100000 in
set_option maxHeartbeats 4000000 in
theorem cb_next {t n g s : Nat} {o : Nat → Nat} (h : cdE X t n o g s) (g2 s2 : Nat) : cbE X t n o g (s + 1) g2 s2 ↔ cbE X t n o g s g2 s2 ∨ (g2 = g ∧ s2 = s) := by
  unfold cbE candB
  constructor
  · rintro ⟨h1, h2⟩
    by_cases e : g2 = g ∧ s2 = s
    · exact Or.inr e
    · exact Or.inl ⟨by omega, h2⟩
  · rintro (⟨h1, h2⟩ | ⟨rfl, rfl⟩)
    · exact ⟨by omega, h2⟩
    · exact ⟨by omega, h⟩
set_option maxRecDepth 100000 in
set_option maxHeartbeats 4000000 in
theorem cb_skip {t n g s : Nat} {o : Nat → Nat} (h : ¬ cdE X t n o g s) (g2 s2 : Nat) : cbE X t n o g (s + 1) g2 s2 ↔ cbE X t n o g s g2 s2 := by
  unfold cbE candB
  constructor
  · rintro ⟨h1, h2⟩
    by_cases e : g2 = g ∧ s2 = s
    · rw [e.1, e.2] at h2; exact absurd h2 h
    · exact ⟨by omega, h2⟩
  · rintro ⟨h1, h2⟩
    exact ⟨by omega, h2⟩
set_option maxRecDepth 100000 in
set_option maxHeartbeats 4000000 in
theorem cd_le {n nw t g s : Nat} {o : Nat → Nat} (hI : inv X n nw) (ht : t < 2) (ho : ordR X t n o) (h : cdE X t n o g s) : g ≤ limN t ∧ s ≤ limN t := by
  obtain ⟨_, Fn, e1, e2, e3, e4, _⟩ := h
  obtain ⟨hl, hl2⟩ := limN_eq ht
  have hs := eSb_le hI ht ho (Nat.le_refl n)
  have e5 : nI (limN t) - nI (eSb X t o n) = nI Fn := by rw [← hl]; exact e1
  have h6 : Fn ≤ limN t := by
    rcases Nat.lt_or_ge (limN t) (eSb X t o n) with h7 | h7
    · have h8 := nI_subneg h7 (by omega)
      rw [e5] at h8
      exact absurd h8 (nI_pos (by omega))
    · rw [nI_sub h7, nI_eq (by omega) (by omega)] at e5
      omega
  omega
set_option maxRecDepth 100000 in
set_option maxHeartbeats 4000000 in
theorem cb_row {n nw t g : Nat} {o : Nat → Nat} (hI : inv X n nw) (ht : t < 2) (ho : ordR X t n o) (g2 s2 : Nat) : cbE X t n o (g + 1) 0 g2 s2 ↔ cbE X t n o g (limN t + 1) g2 s2 := by
  unfold cbE candB
  constructor
  · rintro ⟨h1, h2⟩
    have := cd_le hI ht ho h2
    exact ⟨by omega, h2⟩
  · rintro ⟨h1, h2⟩
    exact ⟨by omega, h2⟩
set_option maxRecDepth 100000 in
set_option maxHeartbeats 4000000 in
theorem cb_all {n nw t : Nat} {o : Nat → Nat} (hI : inv X n nw) (ht : t < 2) (ho : ordR X t n o) (g2 s2 : Nat) : cdE X t n o g2 s2 ↔ cbE X t n o (limN t + 1) 0 g2 s2 := by
  unfold cbE candB
  constructor
  · intro h2
    have := cd_le hI ht ho h2
    exact ⟨by omega, h2⟩
  · exact fun h => h.2
set_option maxRecDepth 100000 in
set_option maxHeartbeats 4000000 in
theorem z_X9_ev_120 {n nw t g s : Nat} {o : Nat → Nat} {P : zRes → zWorld → Prop} (hI : inv X n nw) (hR : rel X Y n nw) (ht : t < 2) (ho : ordR X t n o) (hw : ∀ p, p < n → Y.1 15 p = nI (o p)) : ∀ (m i : Nat) (f : Nat → Int32), i + m = n → (∀ p, p < i → f (o p) = nI (pN (eSb X t o) g s p)) → (∀ f : Nat → Int32, (∀ p, p < n → f (o p) = nI (pN (eSb X t o) g s p)) → Z G mX9_findEvenest (zrm 3 0 0) 0 0 168 [some (.ref 77), some (.int (nI t)), some (.int (nI g)), some (.int (nI s)), some (.int (nI (pN (eSb X t o) g s n))), some (.int (nI n))] [] (zw X1 (yarr Y 12 f) O) P) → Z G mX9_findEvenest (zrm 3 0 0) 0 0 120 [some (.ref 77), some (.int (nI t)), some (.int (nI g)), some (.int (nI s)), some (.int (nI (pN (eSb X t o) g s i))), some (.int (nI i))] [] (zw X1 (yarr Y 12 f) O) P := by
  have h4 := rel_4 hR
  intro m
  induction m with
  | zero =>
    intro i f hi hf hx
    refine z_iload dX9_findEvenest_120 rfl (q := 122) rfl ?_
    refine z_aload_n (i := 0) dX9_findEvenest_122 rfl rfl (q := 123) rfl ?_
    refine z_get dX9_findEvenest_123 fX9_64 (wm _ _ _) rfl (q := 126) rfl ?_
    refine Z.eqst (st2 := [.int (nI n), .int (nI i)]) (congrArg (fun x => [Value.int x, Value.int (nI i)]) hR.1) ?_
    refine z_icmp_ge (tgt := 168) dX9_findEvenest_126 (by decide) (q := 129) rfl (fun h126 => ?_) (fun h126 => absurd (zge_t (by omega)) h126)
    rw [show i = n by omega]
    exact hx f (fun p hp => hf p (by omega))
  | succ m ih =>
    intro i f hi hf hx
    refine z_iload dX9_findEvenest_120 rfl (q := 122) rfl ?_
    refine z_aload_n (i := 0) dX9_findEvenest_122 rfl rfl (q := 123) rfl ?_
    refine z_get dX9_findEvenest_123 fX9_64 (wm _ _ _) rfl (q := 126) rfl ?_
    refine Z.eqst (st2 := [.int (nI n), .int (nI i)]) (congrArg (fun x => [Value.int x, Value.int (nI i)]) hR.1) ?_
    refine z_icmp_ge (tgt := 168) dX9_findEvenest_126 (by decide) (q := 129) rfl (fun h126 => absurd h126 (zge_f (by omega) (by omega))) (fun h126 => ?_)
    refine z_aload_n (i := 0) dX9_findEvenest_129 rfl rfl (q := 130) rfl ?_
    refine z_get dX9_findEvenest_130 fX9_48 (wm _ _ _) rfl (q := 133) rfl ?_
    refine z_aload_n (i := 0) dX9_findEvenest_133 rfl rfl (q := 134) rfl ?_
    refine z_get dX9_findEvenest_134 fX9_57 (wm _ _ _) rfl (q := 137) rfl ?_
    refine z_iload dX9_findEvenest_137 rfl (q := 139) rfl ?_
    refine z_iald dX9_findEvenest_139 (wma_row _ _ _) (zin (by omega) (by decide)) (q := 140) rfl ?_
    refine Z.eqst (st2 := [.int (nI (o i)), .ref 90]) (congrArg (fun x => [Value.int x, Value.ref 90]) (show Y.1 15 (nI i).toNatClampNeg = nI (o i) by rw [nI_clamp (by omega)]; exact hw i (by omega))) ?_
    have hoi := ho.1 i (by omega)
    have z1 := zN_le hI ht ho (show i < n by omega)
    refine z_iload dX9_findEvenest_140 rfl (q := 142) rfl ?_
    refine z_iast dX9_findEvenest_142 (wma_now _ _ _) (zin (k := o i) (by omega) (by decide)) (q := 143) rfl ?_
    refine Z.eqw (wms_now _ _ _ _) ?_
    rw [nI_clamp (by omega), yarr_yarr, yarr_f]
    refine z_iload dX9_findEvenest_143 rfl (q := 145) rfl ?_
    refine z_aload_n (i := 0) dX9_findEvenest_145 rfl rfl (q := 146) rfl ?_
    refine z_aload_n (i := 0) dX9_findEvenest_146 rfl rfl (q := 147) rfl ?_
    refine z_get dX9_findEvenest_147 fX9_57 (wm _ _ _) rfl (q := 150) rfl ?_
    refine z_iload dX9_findEvenest_150 rfl (q := 152) rfl ?_
    refine z_iald dX9_findEvenest_152 (wma_row _ _ _) (zin (by omega) (by decide)) (q := 153) rfl ?_
    refine Z.eqst (st2 := [.int (nI (o i)), .ref 77, .int (nI (pN (eSb X t o) g s i))]) (congrArg (fun x => [Value.int x, Value.ref 77, Value.int (nI (pN (eSb X t o) g s i))]) (show Y.1 15 (nI i).toNatClampNeg = nI (o i) by rw [nI_clamp (by omega)]; exact hw i (by omega))) ?_
    refine z_iload_n (i := 1) dX9_findEvenest_153 rfl rfl (q := 154) rfl ?_
    refine z_callVF (As := [_, _]) dX9_findEvenest_154 kX9_79 (c_X9_sizeAt (rel_arr hR (by decide) _) hoi ht) (wm _ _ _) rfl rfl (zle rfl) ⟨zle rfl, zle rfl⟩ ⟨zle rfl, zle rfl⟩ (q := 157) rfl ?_
    rw [z1.1]
    refine z_iload_n (i := 2) dX9_findEvenest_157 rfl rfl (q := 158) rfl ?_
    refine z_iadd dX9_findEvenest_158 (q := 159) rfl ?_
    refine z_iadd dX9_findEvenest_159 (q := 160) rfl ?_
    rw [nI_add, nI_add, pN_next (eSb X t o) (zN X t (o i)) g s i rfl]
    refine z_istore dX9_findEvenest_160 (zle rfl) rfl (q := 162) rfl ?_
    refine z_iinc dX9_findEvenest_162 rfl rfl (zle rfl) rfl (q := 165) rfl ?_
    refine z_goto (tgt := 120) dX9_findEvenest_165 (by decide) ?_
    refine Z.eql (zl2 := [some (.ref 77), some (.int (nI t)), some (.int (nI g)), some (.int (nI s)), some (.int (nI (pN (eSb X t o) g s (i + 1)))), some (.int (nI (i + 1)))]) (by rw [← nI_1 i]; rfl) ?_
    refine ih (i + 1) _ (by omega) (fun q hq => ?_) hx
    by_cases e : q = i
    · rw [e]; exact pk_us
    · rw [pk_un (ordR_inj ho (show q < i by omega) (by omega))]; exact hf q (by omega)
end
