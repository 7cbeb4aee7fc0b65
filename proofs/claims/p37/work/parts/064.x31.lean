section
variable {G : zG} {X : zX} {Y : zY} {O : zO}
set_option maxRecDepth 100000 in
set_option maxHeartbeats 4000000 in
theorem nI_neg1 {k : Nat} (h : k < 2 ^ 31) : ¬ nI k = -1 := fun h2 => nI_pos h (by rw [h2]; decide)
set_option maxRecDepth 100000 in
set_option maxHeartbeats 4000000 in
theorem nI_distB0 : ∀ c, c < 2001 → 0 < c → ¬ (0 : Int32) ≤ 0 - nI c := by decide +kernel
set_option maxRecDepth 100000 in
set_option maxHeartbeats 4000000 in
theorem nI_distB {a b : Nat} (ha : a ≤ 2000) (hb : b ≤ 2000) : (if 0 ≤ nI a - nI b then nI a - nI b else 0 - (nI a - nI b)) = nI (dN a b) := by
  unfold dN
  rcases Nat.lt_or_ge a b with h | h
  · have e : nI a - nI b = 0 - nI (b - a) := by rw [← nI_sub (Nat.le_of_lt h), Int32.zero_sub, Int32.neg_sub]
    rw [if_neg (by rw [e]; exact nI_distB0 _ (by omega) (by omega)), Int32.zero_sub, Int32.neg_sub, nI_sub (Nat.le_of_lt h), show a - b + (b - a) = b - a by omega]
  · rw [nI_sub h, if_pos (Int32.not_lt.mp (nI_pos (by omega))), show a - b + (b - a) = a - b by omega]
/- the even search's numbers: present starts, sizes before, locks, free units -/
set_option maxRecDepth 100000 in
set_option maxHeartbeats 4000000 in
def evN (X : zX) (n : Nat) (st sb : Nat → Nat) (lk : Nat → Int32) (F : Int32) : Prop := n ≤ 4 ∧ X.1 25 = nI n ∧ (∀ p, p < n → X.2.1 26 p = nI (st p) ∧ st p ≤ 200 ∧ X.2.1 27 p = nI (sb p) ∧ sb p ≤ 800 ∧ X.2.1 28 p = lk p) ∧ X.2.2.1 2 = F
/- where the place p starts -/
set_option maxRecDepth 100000 in
set_option maxHeartbeats 4000000 in
abbrev pN (sb : Nat → Nat) (g s p : Nat) : Nat := s + sb p + g * p
set_option maxRecDepth 100000 in
set_option maxHeartbeats 4000000 in
def cN (st sb : Nat → Nat) (g s : Nat) : Nat → Nat → Nat
  | _, 0 => 0
  | p, m + 1 => dN (pN sb g s p) (st p) + cN st sb g s (p + 1) m
set_option maxRecDepth 100000 in
set_option maxHeartbeats 4000000 in
def lkN (n : Nat) (st sb : Nat → Nat) (lk : Nat → Int32) (g s : Nat) : Prop := ∀ p, p < n → ¬ lk p = 0 → pN sb g s p = st p
set_option maxRecDepth 100000 in
set_option maxHeartbeats 4000000 in
theorem evS_eq {n : Nat} {st sb : Nat → Nat} {lk : Nat → Int32} {F : Int32} (hE : evN X n st sb lk F) {g s p : Nat} (hp : p < n) : evS X (nI s) (nI g) p = nI (pN sb g s p) := by
  have h := hE.2.2.1 p hp
  unfold evS
  rw [h.2.2.1, nI_mul, nI_add, nI_add]
set_option maxRecDepth 100000 in
set_option maxHeartbeats 4000000 in
theorem pN_le {n : Nat} {st sb : Nat → Nat} {lk : Nat → Int32} {F : Int32} (hE : evN X n st sb lk F) {g s p : Nat} (hp : p < n) (hg : g ≤ 200) (hs : s ≤ 200) : pN sb g s p ≤ 1600 := by
  have h := (hE.2.2.1 p hp).2.2.2.1
  have h4 := hE.1
  have h2 := Nat.mul_le_mul hg (show p ≤ 3 by omega)
  show s + sb p + g * p ≤ 1600
  omega
set_option maxRecDepth 100000 in
set_option maxHeartbeats 4000000 in
theorem cost_eq {n : Nat} {st sb : Nat → Nat} {lk : Nat → Int32} {F : Int32} (hE : evN X n st sb lk F) {g s : Nat} (hg : g ≤ 200) (hs : s ≤ 200) : ∀ (m i a : Nat), i + m ≤ n → rsum (fun p => if 0 ≤ evS X (nI s) (nI g) p - X.2.1 26 p then evS X (nI s) (nI g) p - X.2.1 26 p else 0 - (evS X (nI s) (nI g) p - X.2.1 26 p)) i m (nI a) = nI (a + cN st sb g s i m)
  | 0, i, a, _ => rfl
  | m + 1, i, a, h => by
    have h1 := hE.2.2.1 i (by omega)
    have h2 := pN_le hE (p := i) (by omega) hg hs
    unfold rsum cN
    rw [evS_eq hE (by omega), h1.1, nI_distB (by omega) (by omega), nI_add, cost_eq hE hg hs m (i + 1) _ (by omega), Nat.add_assoc]
set_option maxRecDepth 100000 in
set_option maxHeartbeats 4000000 in
theorem cN_le {n : Nat} {st sb : Nat → Nat} {lk : Nat → Int32} {F : Int32} (hE : evN X n st sb lk F) {g s : Nat} (hg : g ≤ 200) (hs : s ≤ 200) : ∀ (m i : Nat), i + m ≤ n → cN st sb g s i m ≤ 1600 * m
  | 0, i, _ => Nat.le_refl _
  | m + 1, i, h => by
    have h1 := hE.2.2.1 i (by omega)
    have h2 := pN_le hE (p := i) (by omega) hg hs
    have h3 := cN_le hE hg hs m (i + 1) (by omega)
    unfold cN dN
    omega
set_option maxRecDepth 100000 in
set_option maxHeartbeats 4000000 in
theorem lk_any {n : Nat} {st sb : Nat → Nat} {lk : Nat → Int32} {F : Int32} (hE : evN X n st sb lk F) {g s : Nat} (hg : g ≤ 200) (hs : s ≤ 200) : rany (fun p => ¬ X.2.1 28 p = 0 ∧ ¬ evS X (nI s) (nI g) p = X.2.1 26 p) 0 n = true ↔ ¬ lkN n st sb lk g s := by
  have hq : ∀ p, p < n → ((¬ X.2.1 28 p = 0 ∧ ¬ evS X (nI s) (nI g) p = X.2.1 26 p) ↔ ¬ lk p = 0 ∧ ¬ pN sb g s p = st p) := fun p hp => by
    have h1 := hE.2.2.1 p hp
    have h2 := pN_le hE hp hg hs
    rw [evS_eq hE hp, h1.2.2.2.2, h1.1, nI_eq (by omega) (by omega)]
  rw [rany_iff]
  constructor
  · rintro ⟨p, _, hp, h⟩ ho
    have h2 := (hq p (by omega)).mp h
    exact h2.2 (ho p (by omega) h2.1)
  · intro h
    refine Classical.byContradiction (fun h2 => h (fun p hp hl => Classical.byContradiction (fun h3 => h2 ⟨p, Nat.zero_le _, by omega, (hq p hp).mpr ⟨hl, h3⟩⟩)))
set_option maxRecDepth 100000 in
set_option maxHeartbeats 4000000 in
abbrev eb : Type := Option (Nat × Nat × Nat)
/- the finding as it stands: cost, gap, start -/
set_option maxRecDepth 100000 in
set_option maxHeartbeats 4000000 in
def evB (X : zX) : eb → Prop
  | none => X.2.2.1 3 = -1
  | some (c, g, s) => X.2.2.1 3 = nI c ∧ X.2.2.1 4 = nI g ∧ X.2.2.1 5 = nI s ∧ c ≤ 6400 ∧ g ≤ 200 ∧ s ≤ 200
set_option maxRecDepth 100000 in
set_option maxHeartbeats 4000000 in
def ecmp (b : eb) (c g s : Nat) : eb :=
  match b with
  | none => some (c, g, s)
  | some (c0, g0, s0) => if c < c0 then some (c, g, s) else some (c0, g0, s0)
/- only the finding and the stays differ -/
set_option maxRecDepth 100000 in
set_option maxHeartbeats 4000000 in
def k3 (X X2 : zX) : Prop := (∀ r, r ≠ 29 → X2.1 r = X.1 r ∧ X2.2.1 r = X.2.1 r) ∧ X2.2.2.1 2 = X.2.2.1 2 ∧ X2.2.2.2 = X.2.2.2
set_option maxRecDepth 100000 in
set_option maxHeartbeats 4000000 in
theorem k3_refl (X : zX) : k3 X X := ⟨fun _ _ => ⟨rfl, rfl⟩, rfl, rfl⟩
set_option maxRecDepth 100000 in
set_option maxHeartbeats 4000000 in
theorem k3_trans {X X2 X3 : zX} (h : k3 X X2) (h2 : k3 X2 X3) : k3 X X3 :=
  ⟨fun r hr => ⟨(h2.1 r hr).1.trans (h.1 r hr).1, (h2.1 r hr).2.trans (h.1 r hr).2⟩, h2.2.1.trans h.2.1, h2.2.2.trans h.2.2⟩
set_option maxRecDepth 100000 in
set_option maxHeartbeats 4000000 in
theorem k3_upd (X : zX) (c g s : Int32) : k3 X (xint (xint (xint X 3 c) 4 g) 5 s) := ⟨fun _ _ => ⟨rfl, rfl⟩, rfl, rfl⟩
set_option maxRecDepth 100000 in
set_option maxHeartbeats 4000000 in
theorem k3_row (X : zX) (f : Nat → Int32) (l : Int32) : k3 X (xrow X 29 f l) := ⟨fun r hr => ⟨xrow_ln X hr f l, xrow_fn X hr f l⟩, rfl, rfl⟩
set_option maxRecDepth 100000 in
set_option maxHeartbeats 4000000 in
theorem evN_k3 {X X2 : zX} (hk : k3 X X2) {n : Nat} {st sb : Nat → Nat} {lk : Nat → Int32} {F : Int32} (h : evN X n st sb lk F) : evN X2 n st sb lk F := by
  unfold evN at h ⊢
  rw [(hk.1 25 (by decide)).1, (hk.1 26 (by decide)).2, (hk.1 27 (by decide)).2, (hk.1 28 (by decide)).2, hk.2.1]
  exact h
set_option maxRecDepth 100000 in
set_option maxHeartbeats 4000000 in
theorem ecmp_t1 {b : eb} {c g s : Nat} (hb : evB X b) (h : X.2.2.1 3 = -1) (hc : c ≤ 6400) (hg : g ≤ 200) (hs : s ≤ 200) : evB (xint (xint (xint X 3 (nI c)) 4 (nI g)) 5 (nI s)) (ecmp b c g s) := by
  rcases b with _ | ⟨c0, g0, s0⟩
  · exact ⟨rfl, rfl, rfl, hc, hg, hs⟩
  · exact absurd (hb.1.symm.trans h) (nI_neg1 (by have := hb.2.2.2.1; omega))
set_option maxRecDepth 100000 in
set_option maxHeartbeats 4000000 in
theorem ecmp_t2 {b : eb} {c g s : Nat} (hb : evB X b) (h : ¬ X.2.2.1 3 = -1) (h2 : ¬ X.2.2.1 3 ≤ nI c) (hc : c ≤ 6400) (hg : g ≤ 200) (hs : s ≤ 200) : evB (xint (xint (xint X 3 (nI c)) 4 (nI g)) 5 (nI s)) (ecmp b c g s) := by
  rcases b with _ | ⟨c0, g0, s0⟩
  · exact absurd hb h
  · have h3 := hb.2.2.2.1
    rw [hb.1, nI_leI (by omega) (by omega)] at h2
    rw [show ecmp (some (c0, g0, s0)) c g s = some (c, g, s) from if_pos (by omega)]
    exact ⟨rfl, rfl, rfl, hc, hg, hs⟩
set_option maxRecDepth 100000 in
set_option maxHeartbeats 4000000 in
theorem ecmp_no {b : eb} {c g s : Nat} (hb : evB X b) (h : ¬ X.2.2.1 3 = -1) (h2 : X.2.2.1 3 ≤ nI c) (hc : c ≤ 6400) : evB X (ecmp b c g s) := by
  rcases b with _ | ⟨c0, g0, s0⟩
  · exact absurd hb h
  · have h3 := hb.2.2.2.1
    rw [hb.1, nI_leI (by omega) (by omega)] at h2
    rw [show ecmp (some (c0, g0, s0)) c g s = some (c0, g0, s0) from if_neg (by omega)]
    exact hb
set_option maxRecDepth 100000 in
set_option maxHeartbeats 4000000 in
theorem c_X2_compare {n : Nat} {st sb : Nat → Nat} {lk : Nat → Int32} {F : Int32} (hE : evN X n st sb lk F) {s g : Nat} {b : eb} (hg : g ≤ 200) (hs : s ≤ 200) (hb : evB X b) : ZM G mX2_compare 3 0 0 [.ref 57, .int (nI s), .int (nI g)] (zw X Y O) (fun r w2 => r = .inl none ∧ ∃ X2, w2 = zw X2 Y O ∧ k3 X X2 ∧ evB X2 (ecmp b (cN st sb g s 0 n) g s)) := by
  have hc : (cN st sb g s 0 n) ≤ 6400 := by have h9 := cN_le hE hg hs n 0 (by omega); have h8 := hE.1; omega
  refine ZM.go pX2 rfl rfl (zle rfl) (zl := [some (.ref 57), some (.int (nI s)), some (.int (nI g)), none]) rfl ?_
  refine z_aload_n (i := 0) dX2_compare_0 rfl rfl (q := 1) rfl ?_
  refine z_iload_n (i := 1) dX2_compare_1 rfl rfl (q := 2) rfl ?_
  refine z_iload_n (i := 2) dX2_compare_2 rfl rfl (q := 3) rfl ?_
  refine z_callVF (As := [_, _]) dX2_compare_3 kX2_101 (c_X2_costOf hE.2.1 hE.1) (wo_evenSearch _ _ _) rfl rfl (zle rfl) ⟨zle rfl, zle rfl⟩ ⟨zle rfl, zle rfl⟩ (q := 6) rfl ?_
  refine Z.eqst (st2 := [.int (nI (cN st sb g s 0 n))]) (congrArg (fun v => [Value.int v]) ((cost_eq hE hg hs n 0 0 (by omega)).trans (by rw [Nat.zero_add]))) ?_
  refine z_istore_n (i := 3) dX2_compare_6 rfl (zle rfl) rfl (q := 7) rfl ?_
  refine z_aload_n (i := 0) dX2_compare_7 rfl rfl (q := 8) rfl ?_
  refine z_get dX2_compare_8 fX2_75 (wo_evenSearch _ _ _) rfl (q := 11) rfl ?_
  refine z_iconst (v := (-1)) dX2_compare_11 rfl (q := 12) rfl ?_
  refine z_icmp_eq (tgt := 23) dX2_compare_12 (by decide) (q := 15) rfl (fun h12 => ?_) (fun h12 => ?_)
  · refine z_aload_n (i := 0) dX2_compare_23 rfl rfl (q := 24) rfl ?_
    refine z_iload_n (i := 3) dX2_compare_24 rfl rfl (q := 25) rfl ?_
    refine z_put dX2_compare_25 fX2_75 (wo_evenSearch _ _ _) (zle rfl) (zfit_int _) (q := 28) rfl ?_
    refine Z.eqw (wi_3 _ _ _ _) ?_
    refine z_aload_n (i := 0) dX2_compare_28 rfl rfl (q := 29) rfl ?_
    refine z_iload_n (i := 2) dX2_compare_29 rfl rfl (q := 30) rfl ?_
    refine z_put dX2_compare_30 fX2_78 (wo_evenSearch _ _ _) (zle rfl) (zfit_int _) (q := 33) rfl ?_
    refine Z.eqw (wi_4 _ _ _ _) ?_
    refine z_aload_n (i := 0) dX2_compare_33 rfl rfl (q := 34) rfl ?_
    refine z_iload_n (i := 1) dX2_compare_34 rfl rfl (q := 35) rfl ?_
    refine z_put dX2_compare_35 fX2_81 (wo_evenSearch _ _ _) (zle rfl) (zfit_int _) (q := 38) rfl ?_
    refine Z.eqw (wi_5 _ _ _ _) ?_
    exact z_vret dX2_compare_38 rfl ⟨zle rfl, zle rfl⟩ ⟨rfl, _, rfl, k3_upd X _ _ _, ecmp_t1 hb h12 hc hg hs⟩
  · refine z_iload_n (i := 3) dX2_compare_15 rfl rfl (q := 16) rfl ?_
    refine z_aload_n (i := 0) dX2_compare_16 rfl rfl (q := 17) rfl ?_
    refine z_get dX2_compare_17 fX2_75 (wo_evenSearch _ _ _) rfl (q := 20) rfl ?_
    refine z_icmp_ge (tgt := 38) dX2_compare_20 (by decide) (q := 23) rfl (fun h20 => ?_) (fun h20 => ?_)
    · exact z_vret dX2_compare_38 rfl ⟨zle rfl, zle rfl⟩ ⟨rfl, X, rfl, k3_refl X, ecmp_no hb h12 h20 hc⟩
    · refine z_aload_n (i := 0) dX2_compare_23 rfl rfl (q := 24) rfl ?_
      refine z_iload_n (i := 3) dX2_compare_24 rfl rfl (q := 25) rfl ?_
      refine z_put dX2_compare_25 fX2_75 (wo_evenSearch _ _ _) (zle rfl) (zfit_int _) (q := 28) rfl ?_
      refine Z.eqw (wi_3 _ _ _ _) ?_
      refine z_aload_n (i := 0) dX2_compare_28 rfl rfl (q := 29) rfl ?_
      refine z_iload_n (i := 2) dX2_compare_29 rfl rfl (q := 30) rfl ?_
      refine z_put dX2_compare_30 fX2_78 (wo_evenSearch _ _ _) (zle rfl) (zfit_int _) (q := 33) rfl ?_
      refine Z.eqw (wi_4 _ _ _ _) ?_
      refine z_aload_n (i := 0) dX2_compare_33 rfl rfl (q := 34) rfl ?_
      refine z_iload_n (i := 1) dX2_compare_34 rfl rfl (q := 35) rfl ?_
      refine z_put dX2_compare_35 fX2_81 (wo_evenSearch _ _ _) (zle rfl) (zfit_int _) (q := 38) rfl ?_
      refine Z.eqw (wi_5 _ _ _ _) ?_
      exact z_vret dX2_compare_38 rfl ⟨zle rfl, zle rfl⟩ ⟨rfl, _, rfl, k3_upd X _ _ _, ecmp_t2 hb h12 h20 hc hg hs⟩
end
