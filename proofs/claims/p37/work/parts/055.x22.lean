section
variable {G : zG} {X : zX} {Y : zY} {O : zO}
set_option maxRecDepth 100000 in
set_option maxHeartbeats 4000000 in
theorem nI_dist0 : ∀ c, c < 201 → 0 < c → ¬ (0 : Int32) ≤ 0 - nI c := by decide +kernel
set_option maxRecDepth 100000 in
set_option maxHeartbeats 4000000 in
theorem nI_sub {a b : Nat} (h : b ≤ a) : nI a - nI b = nI (a - b) := (Int32.ofNat_sub a b h).symm
set_option maxRecDepth 100000 in
set_option maxHeartbeats 4000000 in
theorem nI_dist {a b : Nat} (ha : a ≤ 200) (hb : b ≤ 200) : (if 0 ≤ nI a - nI b then nI a - nI b else 0 - (nI a - nI b)) = nI (dN a b) := by
  unfold dN
  rcases Nat.lt_or_ge a b with h | h
  · have e : nI a - nI b = 0 - nI (b - a) := by rw [← nI_sub (Nat.le_of_lt h), Int32.zero_sub, Int32.neg_sub]
    rw [if_neg (by rw [e]; exact nI_dist0 _ (by omega) (by omega)), Int32.zero_sub, Int32.neg_sub, nI_sub (Nat.le_of_lt h), show a - b + (b - a) = b - a by omega]
  · rw [nI_sub h, if_pos (Int32.not_lt.mp (nI_pos (by omega))), show a - b + (b - a) = a - b by omega]
set_option maxRecDepth 100000 in
set_option maxHeartbeats 4000000 in
theorem tsK_wish {n : Nat} {T : tsP} (h : tsK X n T) : wishAt X (Tc2 T) (Twf T) (Tws T) :=
  ⟨h.2.2.2.2.1, h.2.2.2.2.2.1, fun q hq => by have h2 := h.2.2.2.2.2.2 q hq; have h1 := h.1; exact ⟨h2.1, h2.2.1, by omega, by omega⟩⟩
set_option maxRecDepth 100000 in
set_option maxHeartbeats 4000000 in
theorem tsK_bar {n : Nat} {T : tsP} (h : tsK X n T) : barsAt X (Tc T) (Tbf T) (Tbs T) :=
  ⟨h.2.2.2.1.1, h.2.2.2.1.2.1, fun q hq => by have h2 := h.2.2.2.1.2.2 q hq; have h1 := h.1; exact ⟨h2.1, h2.2.1, by omega, by omega⟩⟩
set_option maxRecDepth 100000 in
set_option maxHeartbeats 4000000 in
def lrow (X : zX) (D : Nat → Nat) (k : Nat) : Prop := ∀ j, j < k → X.2.1 22 j = nI (D j) ∧ D j ≤ 200
set_option maxRecDepth 100000 in
set_option maxHeartbeats 4000000 in
theorem barHit_iff {n k : Nat} {T : tsP} {D : Nat → Nat} (hT : tsK X n T) (hk : k < n) (hD : lrow X D (k + 1)) {q : Nat} (hq : q < Tc T) : barHit X 22 (Tbf T) (Tbs T) (nI k) (nI k) q ↔ Tbs T q = k ∧ nclash T D (Tbf T q) (Tbs T q) := by
  obtain ⟨g1, g2, g3, g4⟩ := hT.2.2.2.1.2.2 q hq
  have h4 := hT.1
  unfold barHit clash nclash
  rw [nI_ltI (by omega) (by omega), nI_ltI (by omega) (by omega)]
  constructor
  · rintro ⟨h1, h2, h3, h5⟩
    have hs : Tbs T q = k := by omega
    have e1 := hD (Tbf T q) (by omega)
    have e2 := hD (Tbs T q) (by omega)
    have s1 := hT.2.2.1 (Tbf T q) (by omega)
    have s2 := hT.2.2.1 (Tbs T q) (by omega)
    rw [e1.1, e2.1, s2.2.2.2.2.1, nI_add, nI_ltI (by omega) (by omega)] at h3
    rw [e1.1, e2.1, s1.2.2.2.2.1, nI_add, nI_ltI (by omega) (by omega)] at h5
    exact ⟨hs, h3, h5⟩
  · rintro ⟨hs, h3, h5⟩
    have e1 := hD (Tbf T q) (by omega)
    have e2 := hD (Tbs T q) (by omega)
    have s1 := hT.2.2.1 (Tbf T q) (by omega)
    have s2 := hT.2.2.1 (Tbs T q) (by omega)
    refine ⟨by omega, by omega, ?_, ?_⟩
    · rw [e1.1, e2.1, s2.2.2.2.2.1, nI_add, nI_ltI (by omega) (by omega)]; exact h3
    · rw [e1.1, e2.1, s1.2.2.2.2.1, nI_add, nI_ltI (by omega) (by omega)]; exact h5
set_option maxRecDepth 100000 in
set_option maxHeartbeats 4000000 in
theorem ok_any {n k : Nat} {T : tsP} {D : Nat → Nat} (hT : tsK X n T) (hk : k < n) (hD : lrow X D (k + 1)) : rany (barHit X 22 (Tbf T) (Tbs T) (nI k) (nI k)) 0 (Tc T) = true ↔ ¬ okN T D k := by
  rw [rany_iff]
  constructor
  · rintro ⟨q, _, hq, h⟩ ho
    have h2 := (barHit_iff hT hk hD (by omega)).mp h
    exact ho q (by omega) h2.1 h2.2
  · intro h
    refine Classical.byContradiction (fun h2 => h (fun q hq hs hc => h2 ⟨q, Nat.zero_le _, by omega, (barHit_iff hT hk hD hq).mpr ⟨hs, hc⟩⟩))
set_option maxRecDepth 100000 in
set_option maxHeartbeats 4000000 in
theorem hit_mul {a b c : Nat} : 2 * nI a + nI b * nI c = nI (2 * a + b * c) := by
  rw [show (2 : Int32) = nI 2 from rfl, nI_mul, nI_mul, nI_add]
set_option maxRecDepth 100000 in
set_option maxHeartbeats 4000000 in
theorem hit_lt {a b c : Nat} (ha : a ≤ 200) (hb : b ≤ 2) (hc : c ≤ 200) : 2 * a + b * c < 2 ^ 31 := by
  have h := Nat.mul_le_mul hb hc
  omega
set_option maxRecDepth 100000 in
set_option maxHeartbeats 4000000 in
theorem f_eq {n k : Nat} {T : tsP} {D : Nat → Nat} (hT : tsK X n T) (hk : k < n) (hD : lrow X D (k + 1)) : rsumc (wishHit X 22 (Twf T) (Tws T) (nI k) (nI k)) (X.2.1 20) 0 (Tc2 T) 0 = nI (fN T D k) := by
  have h4 := hT.1
  have h := rsumc_nsum (p := fun q => Tws T q = k ∧ hitN T D q) (p2 := wishHit X 22 (Twf T) (Tws T) (nI k) (nI k)) (g := Tgn T) (g2 := X.2.1 20) (Tc2 T) 0 0 (fun q _ hq => by
    obtain ⟨g1, g2, g3, g4, g5, g6, g7, g8⟩ := hT.2.2.2.2.2.2 q (by omega)
    refine ⟨?_, g7⟩
    unfold wishHit hitN
    rw [nI_ltI (by omega) (by omega), nI_ltI (by omega) (by omega)]
    have s1 := hT.2.2.1 (Twf T q) (by omega)
    have s2 := hT.2.2.1 (Tws T q) (by omega)
    constructor
    · rintro ⟨h1, h2, h3⟩
      have hs : Tws T q = k := by omega
      have e1 := hD (Twf T q) (by omega)
      have e2 := hD (Tws T q) (by omega)
      rw [e1.1, e2.1, g5, s1.2.2.2.2.1, s2.2.2.2.2.1, hit_mul, hit_mul] at h3
      exact ⟨hs, (nI_eq (hit_lt e1.2 g6 s1.2.2.2.2.2.1) (hit_lt e2.2 g6 s2.2.2.2.2.2.1)).mp h3⟩
    · rintro ⟨hs, h3⟩
      have e1 := hD (Twf T q) (by omega)
      have e2 := hD (Tws T q) (by omega)
      refine ⟨by omega, by omega, ?_⟩
      rw [e1.1, e2.1, g5, s1.2.2.2.2.1, s2.2.2.2.2.1, hit_mul, hit_mul, h3])
  rw [show (0 : Int32) = nI 0 from rfl, h, Nat.zero_add]
  rfl
set_option maxRecDepth 100000 in
set_option maxHeartbeats 4000000 in
theorem am_eq {n k : Nat} {T : tsP} (hT : tsK X n T) (hk : k ≤ n) : rsumc (fun q => ¬ nI (Tws T q) < nI k) (X.2.1 20) 0 (Tc2 T) 0 = nI (nsum (fun q => k ≤ Tws T q) (Tgn T) 0 (Tc2 T)) := by
  have h4 := hT.1
  have h := rsumc_nsum (p := fun q => k ≤ Tws T q) (p2 := fun q => ¬ nI (Tws T q) < nI k) (g := Tgn T) (g2 := X.2.1 20) (Tc2 T) 0 0 (fun q _ hq => by
    obtain ⟨g1, g2, g3, g4, g5, g6, g7, g8⟩ := hT.2.2.2.2.2.2 q (by omega)
    refine ⟨?_, g7⟩
    show ¬ nI (Tws T q) < nI k ↔ k ≤ Tws T q
    rw [nI_ltI (by omega) (by omega)]; omega)
  rw [show (0 : Int32) = nI 0 from rfl, h, Nat.zero_add]
/- the finding as it stands -/
set_option maxRecDepth 100000 in
set_option maxHeartbeats 4000000 in
def bestW (X : zX) (n : Nat) (B : bst) : Prop := X.2.2.1 0 = nI B.1 ∧ X.2.2.1 1 = nI B.2.1 ∧ B.1 ≤ 1000 ∧ B.2.1 ≤ 1000 ∧ ∀ j, j < n → X.2.1 24 j = nI (B.2.2 j)
set_option maxRecDepth 100000 in
set_option maxHeartbeats 4000000 in
theorem ztid_iff {n : Nat} {B : bst} (hB : bestW X n B) {a b : Nat} (ha : a ≤ 1000) (hb : b ≤ 1000) : ztid X (nI a) (nI b) ↔ tid (a, b) (B.1, B.2.1) := by
  obtain ⟨h1, h2, h3, h4, _⟩ := hB
  unfold ztid tid
  rw [h1, h2, nI_ltI (by omega) (by omega), nI_ltI (by omega) (by omega), nI_eq (by omega) (by omega)]
set_option maxRecDepth 100000 in
set_option maxHeartbeats 4000000 in
theorem am_le {n : Nat} {T : tsP} (hT : tsK X n T) (k : Nat) : nsum (fun q => k ≤ Tws T q) (Tgn T) 0 (Tc2 T) ≤ 72 := by
  have h := nsum_le (p := fun q => k ≤ Tws T q) (g := Tgn T) (b := 9) (Tc2 T) 0 (fun q _ hq => (hT.2.2.2.2.2.2 q (by omega)).2.2.2.2.2.2.2)
  have h2 := hT.2.2.2.2.2.1
  omega
set_option maxRecDepth 100000 in
set_option maxHeartbeats 4000000 in
theorem prune {n k m str cost : Nat} {T : tsP} {B : bst} (hT : tsK X n T) (hkm : k + m = n) (hs : str ≤ 72 * k) (hc : cost ≤ 200 * k) (hB : bestW X n B) (h : ¬ ztid X (nI (str + nsum (fun q => k ≤ Tws T q) (Tgn T) 0 (Tc2 T))) (nI cost)) (D : Nat → Nat) : ¬ tid (tval T k m str cost D) (B.1, B.2.1) := by
  have h4 := hT.1
  have h1 := am_le hT k
  rw [ztid_iff hB (by omega) (by omega)] at h
  have h2 := fS_le T D m k
  unfold tval
  unfold tid at h ⊢
  show ¬ (B.1 < str + fS T D k m ∨ str + fS T D k m = B.1 ∧ cost + cS T D k m < B.2.1)
  have h' : ¬ (B.1 < str + nsum (fun q => k ≤ Tws T q) (Tgn T) 0 (Tc2 T) ∨ str + nsum (fun q => k ≤ Tws T q) (Tgn T) 0 (Tc2 T) = B.1 ∧ cost < B.2.1) := h
  omega
set_option maxRecDepth 100000 in
set_option maxHeartbeats 4000000 in
def compV (T : tsP) (n k : Nat) (D0 : Nat → Nat) (v : Nat) (D : Nat → Nat) : Prop := comp T n k D0 D ∧ D k = v
set_option maxRecDepth 100000 in
set_option maxHeartbeats 4000000 in
def compI (T : tsP) (n k : Nat) (D0 : Nat → Nat) (i : Nat) (D : Nat → Nat) : Prop := comp T n k D0 D ∧ ∃ a, a < i ∧ D k = Tcv T k a
set_option maxRecDepth 100000 in
set_option maxHeartbeats 4000000 in
theorem compV_next {n k i : Nat} {T : tsP} {D0 : Nat → Nat} (hT : tsK X n T) (hk : k < n) (hi : i < Tcc T k) (ho : okN T (va_up D0 k (Tcv T k i)) k) (D : Nat → Nat) : compV T n k D0 (Tcv T k i) D ↔ comp T n (k + 1) (va_up D0 k (Tcv T k i)) D := by
  have hold : ∀ j, j < k → va_up D0 k (Tcv T k i) j = D0 j := fun j hj => if_neg (by omega)
  have hnew : va_up D0 k (Tcv T k i) k = Tcv T k i := if_pos rfl
  constructor
  · rintro ⟨⟨h1, h2⟩, h3⟩
    refine ⟨fun j hj => ?_, fun j hj hj2 => h2 j (by omega) hj2⟩
    rcases Nat.lt_or_ge j k with h4 | h4
    · rw [hold j h4]; exact h1 j h4
    · rw [show j = k by omega, hnew]; exact h3
  · rintro ⟨h1, h2⟩
    have hag : ∀ j, j ≤ k → D j = va_up D0 k (Tcv T k i) j := fun j hj => h1 j (by omega)
    refine ⟨⟨fun j hj => (h1 j (by omega)).trans (hold j hj), fun j hj hj2 => ?_⟩, (h1 k (by omega)).trans hnew⟩
    rcases Nat.lt_or_ge k j with h4 | h4
    · exact h2 j h4 hj2
    · have h5 : j = k := by omega
      subst h5
      exact ⟨⟨i, hi, (h1 j (by omega)).trans hnew⟩, okN_congr hT (fun x hx => (hag x hx).symm) ho⟩
set_option maxRecDepth 100000 in
set_option maxHeartbeats 4000000 in
theorem compV_none {n k i : Nat} {T : tsP} {D0 : Nat → Nat} (hT : tsK X n T) (hk : k < n) (ho : ¬ okN T (va_up D0 k (Tcv T k i)) k) (D : Nat → Nat) : ¬ compV T n k D0 (Tcv T k i) D := by
  rintro ⟨⟨h1, h2⟩, h3⟩
  refine ho (okN_congr hT (fun j hj => ?_) (h2 k (Nat.le_refl _) hk).2)
  rcases Nat.lt_or_ge j k with h4 | h4
  · exact (h1 j h4).trans (if_neg (by omega)).symm
  · rw [show j = k by omega]; exact h3.trans (if_pos rfl).symm
set_option maxRecDepth 100000 in
set_option maxHeartbeats 4000000 in
theorem tval_next {n k m str cost : Nat} {T : tsP} {D1 D : Nat → Nat} (hT : tsK X n T) (h : comp T n (k + 1) D1 D) : tval T k (m + 1) str cost D = tval T (k + 1) m (str + fN T D1 k) (cost + dN (D1 k) (Tpv T k)) D := by
  have e : fN T D k = fN T D1 k := fN_congr hT (fun j hj => h.1 j (by omega))
  have e2 : D k = D1 k := h.1 k (by omega)
  show (str + (fN T D k + fS T D (k + 1) m), cost + (dN (D k) (Tpv T k) + cS T D (k + 1) m)) = (str + fN T D1 k + fS T D (k + 1) m, cost + dN (D1 k) (Tpv T k) + cS T D (k + 1) m)
  rw [e, e2, Nat.add_assoc, Nat.add_assoc]
set_option maxRecDepth 100000 in
set_option maxHeartbeats 4000000 in
theorem compI_step {n k i : Nat} {T : tsP} {D0 : Nat → Nat} (D : Nat → Nat) : compI T n k D0 (i + 1) D ↔ compI T n k D0 i D ∨ compV T n k D0 (Tcv T k i) D := by
  constructor
  · rintro ⟨h1, a, h2, h3⟩
    rcases Nat.lt_or_ge a i with h4 | h4
    · exact Or.inl ⟨h1, a, h4, h3⟩
    · rw [show a = i by omega] at h3; exact Or.inr ⟨h1, h3⟩
  · rintro (⟨h1, a, h2, h3⟩ | ⟨h1, h3⟩)
    · exact ⟨h1, a, by omega, h3⟩
    · exact ⟨h1, i, by omega, h3⟩
set_option maxRecDepth 100000 in
set_option maxHeartbeats 4000000 in
theorem compI_lex {n k i : Nat} {T : tsP} {D0 : Nat → Nat} (hT : tsK X n T) (hk : k < n) (hi : i < Tcc T k) (D D2 : Nat → Nat) (h : compI T n k D0 i D) (h2 : compV T n k D0 (Tcv T k i) D2) : lexle n D D2 := by
  obtain ⟨⟨h1, _⟩, a, ha, hv⟩ := h
  obtain ⟨⟨h3, _⟩, hv2⟩ := h2
  refine Or.inr ⟨k, hk, fun j hj => (h1 j hj).trans (h3 j hj).symm, ?_⟩
  rw [hv, hv2]
  exact (hT.2.2.1 k hk).2.2.2.2.2.2.2 a i ha hi
set_option maxRecDepth 100000 in
set_option maxHeartbeats 4000000 in
theorem compI_all {n k : Nat} {T : tsP} {D0 : Nat → Nat} (hk : k < n) (D : Nat → Nat) : comp T n k D0 D ↔ compI T n k D0 (Tcc T k) D := by
  constructor
  · intro h
    obtain ⟨i, hi, hv⟩ := (h.2 k (Nat.le_refl _) hk).1
    exact ⟨h, i, hi, hv⟩
  · exact fun h => h.1
set_option maxRecDepth 100000 in
set_option maxHeartbeats 4000000 in
theorem dN_le {a b : Nat} (ha : a ≤ 200) (hb : b ≤ 200) : dN a b ≤ 200 := by unfold dN; omega
set_option maxRecDepth 100000 in
set_option maxHeartbeats 4000000 in
theorem lrow_set {k v : Nat} {D0 : Nat → Nat} (hD : lrow X D0 k) (hv : v ≤ 200) (l : Int32) : lrow (xrow X 22 (upd (X.2.1 22) k (nI v)) l) (va_up D0 k v) (k + 1) := by
  intro j hj
  rw [xrow_f]
  rcases Nat.lt_or_ge j k with h | h
  · rw [show upd (X.2.1 22) k (nI v) j = X.2.1 22 j from if_neg (by omega), show va_up D0 k v j = D0 j from if_neg (by omega)]
    exact hD j h
  · rw [show j = k by omega, show upd (X.2.1 22) k (nI v) k = nI v from if_pos rfl, show va_up D0 k v k = v from if_pos rfl]
    exact ⟨rfl, hv⟩
set_option maxRecDepth 100000 in
set_option maxHeartbeats 4000000 in
theorem lrow_old {k v : Nat} {D0 : Nat → Nat} {X2 : zX} (h : lrow X2 (va_up D0 k v) (k + 1)) : lrow X2 D0 k := by
  intro j hj
  have h2 := h j (by omega)
  rw [show va_up D0 k v j = D0 j from if_neg (by omega)] at h2
  exact h2
set_option maxRecDepth 100000 in
set_option maxHeartbeats 4000000 in
theorem bestW_row {n : Nat} {B : bst} (hB : bestW X n B) (f : Nat → Int32) (l : Int32) : bestW (xrow X 22 f l) n B := hB
set_option maxRecDepth 100000 in
set_option maxHeartbeats 4000000 in
theorem c_X6_placeFrom_0 {n k str cost : Nat} {T : tsP} {D0 : Nat → Nat} {B : bst} (hT : tsK X n T) (hkm : k + 0 = n) (hD : lrow X D0 k) (hs : str ≤ 72 * k) (hc : cost ≤ 200 * k) (hB : bestW X n B) : ZM G mX6_placeFrom 2 0 0 [.ref 26, .int (nI k), .int (nI str), .int (nI cost)] (zw X Y O) (fun r w2 => r = .inl none ∧ ∃ (X2 : zX) (B2 : bst), w2 = zw X2 Y O ∧ ks X X2 ∧ lrow X2 D0 k ∧ bestW X2 n B2 ∧ res n (comp T n k D0) (tval T k 0 str cost) B B2) := by
  have h4 := hT.1
  refine ZM.go pX6 rfl rfl (zle rfl) (zl := [some (.ref 26), some (.int (nI k)), some (.int (nI str)), some (.int (nI cost)), none]) rfl ?_
  refine z_aload_n (i := 0) dX6_placeFrom_0 rfl rfl (q := 1) rfl ?_
  refine z_iload_n (i := 2) dX6_placeFrom_1 rfl rfl (q := 2) rfl ?_
  refine z_aload_n (i := 0) dX6_placeFrom_2 rfl rfl (q := 3) rfl ?_
  refine z_get dX6_placeFrom_3 fX6_21 (wo_tidySearch _ _ _) rfl (q := 6) rfl ?_
  refine z_iload_n (i := 1) dX6_placeFrom_6 rfl rfl (q := 7) rfl ?_
  refine z_callVF (As := [_]) dX6_placeFrom_7 kX6_92 (c_X5_strengthAtMost (c := Tc2 T) (wf := Twf T) (ws := Tws T) (tsK_wish hT)) (wo_rules _ _ _) rfl rfl (zle rfl) ⟨zle rfl, zle rfl⟩ ⟨zle rfl, zle rfl⟩ (q := 10) rfl ?_
  rw [am_eq hT (by omega)]
  refine z_iadd dX6_placeFrom_10 (q := 11) rfl ?_
  rw [nI_add]
  refine z_iload_n (i := 3) dX6_placeFrom_11 rfl rfl (q := 12) rfl ?_
  refine z_callVF (As := [_, _]) dX6_placeFrom_12 kX6_95 (c_X6_isTidier ) (wo_tidySearch _ _ _) rfl rfl (zle rfl) ⟨zle rfl, zle rfl⟩ ⟨zle rfl, zle rfl⟩ (q := 15) rfl ?_
  refine z_if_ne (tgt := 19) dX6_placeFrom_15 (by decide) (q := 18) rfl (fun h15 => ?_) (fun h15 => ?_)
  · replace h15 := zb_1.mp h15
    refine z_iload_n (i := 1) dX6_placeFrom_19 rfl rfl (q := 20) rfl ?_
    refine z_aload_n (i := 0) dX6_placeFrom_20 rfl rfl (q := 21) rfl ?_
    refine z_get dX6_placeFrom_21 fX6_30 (wo_tidySearch _ _ _) rfl (q := 24) rfl ?_
    refine z_callVF (As := []) dX6_placeFrom_24 kX6_99 (c_X4_length (wr_21 _ _ _)) (wr_21 _ _ _).1 rfl rfl (zle rfl) ⟨zle rfl, zle rfl⟩ ⟨zle rfl, zle rfl⟩ (q := 27) rfl ?_
    rw [hT.2.1]
    refine z_icmp_ge (tgt := 35) dX6_placeFrom_27 (by decide) (q := 30) rfl (fun h27 => ?_) (fun h27 => absurd (zge_t (by omega)) h27)
    have htid : tid (str, cost) (B.1, B.2.1) := by
      have h9 := h15
      rw [nsum_none (p := fun q => k ≤ Tws T q) _ _ (fun q _ hq => by have h8 := hT.2.2.2.2.2.2 q (by omega); show ¬ k ≤ Tws T q; omega), Nat.add_zero] at h9
      exact (ztid_iff hB (by omega) (by omega)).mp h9
    refine z_aload_n (i := 0) dX6_placeFrom_35 rfl rfl (q := 36) rfl ?_
    refine z_aload_n (i := 0) dX6_placeFrom_36 rfl rfl (q := 37) rfl ?_
    refine z_get dX6_placeFrom_37 fX6_34 (wo_tidySearch _ _ _) rfl (q := 40) rfl ?_
    refine z_iload_n (i := 2) dX6_placeFrom_40 rfl rfl (q := 41) rfl ?_
    refine z_iload_n (i := 3) dX6_placeFrom_41 rfl rfl (q := 42) rfl ?_
    refine z_callV (As := [_, _, _]) dX6_placeFrom_42 kX6_84 (c_X6_keep_22 hT.2.1 h4) (wo_tidySearch _ _ _) rfl rfl (zle rfl) ⟨zle rfl, zle rfl⟩ ⟨zle rfl, zle rfl⟩ (q := 45) rfl (fun rv w2 hw2 => ?_) (fun E w2 h9 => by cases h9.1)
    obtain ⟨h9, X2, rfl, hkt, hi0, hi1, h24⟩ := hw2
    cases h9
    exact z_vret dX6_placeFrom_45 rfl ⟨zle rfl, zle rfl⟩ ⟨rfl, X2, (str, cost, D0), rfl, ks_kt hkt, fun j h => ⟨(congrFun (hkt.1 22 (by decide)).2 j).trans (hD j h).1, (hD j h).2⟩, ⟨hi0, hi1, by show str ≤ 1000; omega, by show cost ≤ 1000; omega, fun j h => (h24 j h).trans (hD j (by omega)).1⟩, Or.inr ⟨D0, ⟨fun _ _ => rfl, fun j h1 h2 => absurd h2 (by omega)⟩, fun _ _ => rfl, rfl, htid, fun D2 hD2 => ⟨fun h9 => by have h8 : tid (str, cost) (str, cost) := h9; unfold tid at h8; omega, fun _ => Or.inl (fun j h => (hD2.1 j (by omega)).symm)⟩⟩⟩
  · replace h15 := zb_0.mp h15
    exact z_vret dX6_placeFrom_18 rfl ⟨zle rfl, zle rfl⟩ ⟨rfl, X, B, rfl, ks_refl X, hD, hB, res_none (fun D _ => prune hT hkm hs hc hB h15 D)⟩
set_option maxRecDepth 100000 in
set_option maxHeartbeats 4000000 in
theorem c_X6_placeAt_1 {n k i0 str cost : Nat} {T : tsP} {D0 : Nat → Nat} {B : bst} (hT : tsK X n T) (hkm : k + 1 = n) (hD : lrow X D0 k) (hs : str ≤ 72 * k) (hc : cost ≤ 200 * k) (hB : bestW X n B) (hi : i0 < Tcc T k) : ZM G mX6_placeAt 3 0 0 [.ref 26, .int (nI k), .int (nI (Tcv T k i0)), .int (nI str), .int (nI cost)] (zw X Y O) (fun r w2 => r = .inl none ∧ ∃ (X2 : zX) (B2 : bst), w2 = zw X2 Y O ∧ ks X X2 ∧ lrow X2 D0 k ∧ bestW X2 n B2 ∧ res n (compV T n k D0 (Tcv T k i0)) (tval T k 1 str cost) B B2) := by
  have h4 := hT.1
  have hkn : k < n := by omega
  have hp := hT.2.2.1 k hkn
  have hv : (Tcv T k i0) ≤ 200 := (hp.2.2.2.2.2.2.1 i0 hi).2
  refine ZM.go pX6 rfl rfl (zle rfl) (zl := [some (.ref 26), some (.int (nI k)), some (.int (nI (Tcv T k i0))), some (.int (nI str)), some (.int (nI cost))]) rfl ?_
  refine z_aload_n (i := 0) dX6_placeAt_0 rfl rfl (q := 1) rfl ?_
  refine z_get dX6_placeAt_1 fX6_34 (wo_tidySearch _ _ _) rfl (q := 4) rfl ?_
  refine z_iload_n (i := 1) dX6_placeAt_4 rfl rfl (q := 5) rfl ?_
  refine z_iload_n (i := 2) dX6_placeAt_5 rfl rfl (q := 6) rfl ?_
  refine z_callVF (As := [_, _]) dX6_placeAt_6 kX6_112 (c_X4_set  (wr_22 _ _ _) (by omega) (by decide)) (wr_22 _ _ _).1 rfl rfl (zle rfl) ⟨zle rfl, zle rfl⟩ ⟨zle rfl, zle rfl⟩ (q := 9) rfl ?_
  refine Z.eqw (wp_22 _ _ _ _ _) ?_
  have hT1 := tsK_ks (ks_row X (r := 22) (by decide) (upd (X.2.1 22) k (nI (Tcv T k i0))) (X.1 22)) hT
  have hD1 := lrow_set hD hv (X.1 22)
  refine z_aload_n (i := 0) dX6_placeAt_9 rfl rfl (q := 10) rfl ?_
  refine z_get dX6_placeAt_10 fX6_21 (wo_tidySearch _ _ _) rfl (q := 13) rfl ?_
  refine z_aload_n (i := 0) dX6_placeAt_13 rfl rfl (q := 14) rfl ?_
  refine z_get dX6_placeAt_14 fX6_34 (wo_tidySearch _ _ _) rfl (q := 17) rfl ?_
  refine z_iload_n (i := 1) dX6_placeAt_17 rfl rfl (q := 18) rfl ?_
  refine z_iload_n (i := 1) dX6_placeAt_18 rfl rfl (q := 19) rfl ?_
  refine z_callVF (As := [_, _, _]) dX6_placeAt_19 kX6_116 (c_X5_keepsApart (c := Tc T) (bf := Tbf T) (bs := Tbs T) (tsK_bar hT1)) (wo_rules _ _ _) rfl rfl (zle rfl) ⟨zle rfl, zle rfl⟩ ⟨zle rfl, zle rfl⟩ (q := 22) rfl ?_
  refine z_if_eq (tgt := 63) dX6_placeAt_22 (by decide) (q := 25) rfl (fun h22 => ?_) (fun h22 => ?_)
  · exact z_vret dX6_placeAt_63 rfl ⟨zle rfl, zle rfl⟩ ⟨rfl, _, B, rfl, ks_row X (by decide) _ _, lrow_old hD1, bestW_row hB _ _, res_none (fun D hS => absurd hS (compV_none hT hkn (fun ho => by rw [show rany (barHit (xrow X 22 (upd (X.2.1 22) k (nI (Tcv T k i0))) (X.1 22)) 22 (Tbf T) (Tbs T) (nI k) (nI k)) 0 (Tc T) = false from Bool.eq_false_iff.mpr (fun h9 => (ok_any hT1 hkn hD1).mp h9 ho)] at h22; exact absurd h22 (by decide)) D))⟩
  · have ho : okN T (va_up D0 k (Tcv T k i0)) k := Classical.byContradiction (fun h9 => h22 (by rw [(ok_any hT1 hkn hD1).mpr h9]; rfl))
    have hf := fN_le hT (va_up D0 k (Tcv T k i0)) k
    have hdn := dN_le hv hp.2.2.2.1
    refine z_aload_n (i := 0) dX6_placeAt_25 rfl rfl (q := 26) rfl ?_
    refine z_iload_n (i := 1) dX6_placeAt_26 rfl rfl (q := 27) rfl ?_
    refine z_iconst (v := 1) dX6_placeAt_27 rfl (q := 28) rfl ?_
    refine z_iadd dX6_placeAt_28 (q := 29) rfl ?_
    rw [nI_1]
    refine z_iload_n (i := 3) dX6_placeAt_29 rfl rfl (q := 30) rfl ?_
    refine z_aload_n (i := 0) dX6_placeAt_30 rfl rfl (q := 31) rfl ?_
    refine z_get dX6_placeAt_31 fX6_21 (wo_tidySearch _ _ _) rfl (q := 34) rfl ?_
    refine z_aload_n (i := 0) dX6_placeAt_34 rfl rfl (q := 35) rfl ?_
    refine z_get dX6_placeAt_35 fX6_34 (wo_tidySearch _ _ _) rfl (q := 38) rfl ?_
    refine z_iload_n (i := 1) dX6_placeAt_38 rfl rfl (q := 39) rfl ?_
    refine z_iload_n (i := 1) dX6_placeAt_39 rfl rfl (q := 40) rfl ?_
    refine z_callVF (As := [_, _, _]) dX6_placeAt_40 kX6_80 (c_X5_strengthOf_22 (c := Tc2 T) (wf := Twf T) (ws := Tws T) (tsK_wish hT1)) (wo_rules _ _ _) rfl rfl (zle rfl) ⟨zle rfl, zle rfl⟩ ⟨zle rfl, zle rfl⟩ (q := 43) rfl ?_
    rw [f_eq hT1 hkn hD1]
    refine z_iadd dX6_placeAt_43 (q := 44) rfl ?_
    rw [nI_add]
    refine z_iload dX6_placeAt_44 rfl (q := 46) rfl ?_
    refine z_iload_n (i := 2) dX6_placeAt_46 rfl rfl (q := 47) rfl ?_
    refine z_aload_n (i := 0) dX6_placeAt_47 rfl rfl (q := 48) rfl ?_
    refine z_get dX6_placeAt_48 fX6_30 (wo_tidySearch _ _ _) rfl (q := 51) rfl ?_
    refine z_iload_n (i := 1) dX6_placeAt_51 rfl rfl (q := 52) rfl ?_
    refine z_callVF (As := [_]) dX6_placeAt_52 kX6_77 (c_X4_get  (wr_21 _ _ _) (by omega) (by decide)) (wr_21 _ _ _).1 rfl rfl (zle rfl) ⟨zle rfl, zle rfl⟩ ⟨zle rfl, zle rfl⟩ (q := 55) rfl ?_
    rw [show (xrow X 22 (upd (X.2.1 22) k (nI (Tcv T k i0))) (X.1 22)).2.1 21 k = nI (Tpv T k) from hp.2.2.1]
    refine z_isub dX6_placeAt_55 (q := 56) rfl ?_
    refine z_abs dX6_placeAt_56 kX6_120 (zle rfl) ⟨zle rfl, zle rfl, zle rfl, zle rfl⟩ (q := 59) rfl ?_
    rw [nI_dist hv hp.2.2.2.1]
    refine z_iadd dX6_placeAt_59 (q := 60) rfl ?_
    rw [nI_add]
    refine z_callV (As := [_, _, _]) dX6_placeAt_60 kX6_88 (c_X6_placeFrom_0 (T := T) (D0 := va_up D0 k (Tcv T k i0)) (B := B) hT1 (by omega) hD1 (by omega) (by omega) (bestW_row hB _ _)) (wo_tidySearch _ _ _) rfl rfl (zle rfl) ⟨zle rfl, zle rfl⟩ ⟨zle rfl, zle rfl⟩ (q := 63) rfl (fun rv w2 hw2 => ?_) (fun E w2 h9 => by cases h9.1)
    obtain ⟨h9, X2, B2, rfl, hk2, hD2, hB2, hr2⟩ := hw2
    cases h9
    exact z_vret dX6_placeAt_63 rfl ⟨zle rfl, zle rfl⟩ ⟨rfl, X2, B2, rfl, ks_trans (ks_row X (by decide) _ _) hk2, lrow_old hD2, hB2, res_congr (compV_next hT hkn hi ho) (fun D hS => (tval_next (m := 0) hT hS).trans (by rw [show va_up D0 k (Tcv T k i0) k = (Tcv T k i0) from if_pos rfl])) hr2⟩
set_option maxRecDepth 100000 in
set_option maxHeartbeats 4000000 in
theorem z_X6_placeFrom_49_1 {n k str cost : Nat} {T : tsP} {D0 : Nat → Nat} {B : bst} (hT : tsK X n T) (hkm : k + 1 = n) (hD : lrow X D0 k) (hs : str ≤ 72 * k) (hc : cost ≤ 200 * k) : ∀ (mm i : Nat) (X1 : zX) (B1 : bst), i + mm = Tcc T k → ks X X1 → lrow X1 D0 k → bestW X1 n B1 → res n (compI T n k D0 i) (tval T k 1 str cost) B B1 → Z G mX6_placeFrom (zrm 4 0 0) 0 0 49 [some (.ref 26), some (.int (nI k)), some (.int (nI str)), some (.int (nI cost)), some (.int (nI i))] [] (zw X1 Y O) (fun r w2 => r = .inl none ∧ ∃ (X2 : zX) (B2 : bst), w2 = zw X2 Y O ∧ ks X X2 ∧ lrow X2 D0 k ∧ bestW X2 n B2 ∧ res n (comp T n k D0) (tval T k 1 str cost) B B2) := by
  have h4 := hT.1
  have hkn : k < n := by omega
  have h10 : Tcc T k ≤ 10 := (hT.2.2.1 k hkn).2.1
  intro mm
  induction mm with
  | zero =>
    intro i X1 B1 hi hk hD1 hB1 hr
    refine z_iload dX6_placeFrom_49 rfl (q := 51) rfl ?_
    refine z_aload_n (i := 0) dX6_placeFrom_51 rfl rfl (q := 52) rfl ?_
    refine z_get dX6_placeFrom_52 fX6_12 (wo_tidySearch _ _ _) rfl (q := 55) rfl ?_
    refine z_iload_n (i := 1) dX6_placeFrom_55 rfl rfl (q := 56) rfl ?_
    refine z_callVF (As := [_]) dX6_placeFrom_56 kX6_102 (c_X1_count (by omega)) (wo_choices _ _ _) rfl rfl (zle rfl) ⟨zle rfl, zle rfl⟩ ⟨zle rfl, zle rfl⟩ (q := 59) rfl ?_
    rw [show X1.2.1 12 k = nI (Tcc T k) from ((tsK_ks hk hT).2.2.1 k hkn).1]
    refine z_icmp_ge (tgt := 85) dX6_placeFrom_59 (by decide) (q := 62) rfl (fun h59 => ?_) (fun h59 => absurd (zge_t (by omega)) h59)
    exact z_vret dX6_placeFrom_85 rfl ⟨zle rfl, zle rfl⟩ ⟨rfl, X1, B1, rfl, hk, hD1, hB1, res_congr (compI_all hkn) (fun _ _ => rfl) (by rw [show Tcc T k = i by omega]; exact hr)⟩
  | succ mm ih =>
    intro i X1 B1 hi hk hD1 hB1 hr
    refine z_iload dX6_placeFrom_49 rfl (q := 51) rfl ?_
    refine z_aload_n (i := 0) dX6_placeFrom_51 rfl rfl (q := 52) rfl ?_
    refine z_get dX6_placeFrom_52 fX6_12 (wo_tidySearch _ _ _) rfl (q := 55) rfl ?_
    refine z_iload_n (i := 1) dX6_placeFrom_55 rfl rfl (q := 56) rfl ?_
    refine z_callVF (As := [_]) dX6_placeFrom_56 kX6_102 (c_X1_count (by omega)) (wo_choices _ _ _) rfl rfl (zle rfl) ⟨zle rfl, zle rfl⟩ ⟨zle rfl, zle rfl⟩ (q := 59) rfl ?_
    rw [show X1.2.1 12 k = nI (Tcc T k) from ((tsK_ks hk hT).2.2.1 k hkn).1]
    refine z_icmp_ge (tgt := 85) dX6_placeFrom_59 (by decide) (q := 62) rfl (fun h59 => absurd h59 (zge_f (by omega) (by omega))) (fun h59 => ?_)
    refine z_aload_n (i := 0) dX6_placeFrom_62 rfl rfl (q := 63) rfl ?_
    refine z_iload_n (i := 1) dX6_placeFrom_63 rfl rfl (q := 64) rfl ?_
    refine z_aload_n (i := 0) dX6_placeFrom_64 rfl rfl (q := 65) rfl ?_
    refine z_get dX6_placeFrom_65 fX6_12 (wo_tidySearch _ _ _) rfl (q := 68) rfl ?_
    refine z_iload_n (i := 1) dX6_placeFrom_68 rfl rfl (q := 69) rfl ?_
    refine z_iload dX6_placeFrom_69 rfl (q := 71) rfl ?_
    refine z_callVF (As := [_, _]) dX6_placeFrom_71 kX6_104 (c_X1_start (k := k) (j := i) (by omega) (by omega)) (wo_choices _ _ _) rfl rfl (zle rfl) ⟨zle rfl, zle rfl⟩ ⟨zle rfl, zle rfl⟩ (q := 74) rfl ?_
    rw [show X1.2.1 11 (10 * k + i) = nI (Tcv T k i) from (((tsK_ks hk hT).2.2.1 k hkn).2.2.2.2.2.2.1 i (by omega)).1]
    refine z_iload_n (i := 2) dX6_placeFrom_74 rfl rfl (q := 75) rfl ?_
    refine z_iload_n (i := 3) dX6_placeFrom_75 rfl rfl (q := 76) rfl ?_
    refine z_callV (As := [_, _, _, _]) dX6_placeFrom_76 kX6_108 (c_X6_placeAt_1 (T := T) (D0 := D0) (B := B1) (i0 := i) (tsK_ks hk hT) hkm hD1 hs hc hB1 (by omega)) (wo_tidySearch _ _ _) rfl rfl (zle rfl) ⟨zle rfl, zle rfl⟩ ⟨zle rfl, zle rfl⟩ (q := 79) rfl (fun rv w2 hw2 => ?_) (fun E w2 h9 => by cases h9.1)
    obtain ⟨h9, X2, B2, rfl, hk2, hD2, hB2, hr2⟩ := hw2
    cases h9
    refine z_iinc dX6_placeFrom_79 rfl rfl (zle rfl) rfl (q := 82) rfl ?_
    refine z_goto (tgt := 49) dX6_placeFrom_82 (by decide) ?_
    refine Z.eql (zl2 := [some (.ref 26), some (.int (nI k)), some (.int (nI str)), some (.int (nI cost)), some (.int (nI (i + 1)))]) (by first | (rw [← nI_1 i]; done) | (rw [← nI_1 i]; rfl)) ?_
    exact ih (i + 1) X2 B2 (by omega) (ks_trans hk hk2) hD2 hB2 (res_union compI_step (compI_lex hT hkn (by omega)) hr hr2)
set_option maxRecDepth 100000 in
set_option maxHeartbeats 4000000 in
theorem c_X6_placeFrom_1 {n k str cost : Nat} {T : tsP} {D0 : Nat → Nat} {B : bst} (hT : tsK X n T) (hkm : k + 1 = n) (hD : lrow X D0 k) (hs : str ≤ 72 * k) (hc : cost ≤ 200 * k) (hB : bestW X n B) : ZM G mX6_placeFrom 4 0 0 [.ref 26, .int (nI k), .int (nI str), .int (nI cost)] (zw X Y O) (fun r w2 => r = .inl none ∧ ∃ (X2 : zX) (B2 : bst), w2 = zw X2 Y O ∧ ks X X2 ∧ lrow X2 D0 k ∧ bestW X2 n B2 ∧ res n (comp T n k D0) (tval T k 1 str cost) B B2) := by
  have h4 := hT.1
  refine ZM.go pX6 rfl rfl (zle rfl) (zl := [some (.ref 26), some (.int (nI k)), some (.int (nI str)), some (.int (nI cost)), none]) rfl ?_
  refine z_aload_n (i := 0) dX6_placeFrom_0 rfl rfl (q := 1) rfl ?_
  refine z_iload_n (i := 2) dX6_placeFrom_1 rfl rfl (q := 2) rfl ?_
  refine z_aload_n (i := 0) dX6_placeFrom_2 rfl rfl (q := 3) rfl ?_
  refine z_get dX6_placeFrom_3 fX6_21 (wo_tidySearch _ _ _) rfl (q := 6) rfl ?_
  refine z_iload_n (i := 1) dX6_placeFrom_6 rfl rfl (q := 7) rfl ?_
  refine z_callVF (As := [_]) dX6_placeFrom_7 kX6_92 (c_X5_strengthAtMost (c := Tc2 T) (wf := Twf T) (ws := Tws T) (tsK_wish hT)) (wo_rules _ _ _) rfl rfl (zle rfl) ⟨zle rfl, zle rfl⟩ ⟨zle rfl, zle rfl⟩ (q := 10) rfl ?_
  rw [am_eq hT (by omega)]
  refine z_iadd dX6_placeFrom_10 (q := 11) rfl ?_
  rw [nI_add]
  refine z_iload_n (i := 3) dX6_placeFrom_11 rfl rfl (q := 12) rfl ?_
  refine z_callVF (As := [_, _]) dX6_placeFrom_12 kX6_95 (c_X6_isTidier ) (wo_tidySearch _ _ _) rfl rfl (zle rfl) ⟨zle rfl, zle rfl⟩ ⟨zle rfl, zle rfl⟩ (q := 15) rfl ?_
  refine z_if_ne (tgt := 19) dX6_placeFrom_15 (by decide) (q := 18) rfl (fun h15 => ?_) (fun h15 => ?_)
  · replace h15 := zb_1.mp h15
    refine z_iload_n (i := 1) dX6_placeFrom_19 rfl rfl (q := 20) rfl ?_
    refine z_aload_n (i := 0) dX6_placeFrom_20 rfl rfl (q := 21) rfl ?_
    refine z_get dX6_placeFrom_21 fX6_30 (wo_tidySearch _ _ _) rfl (q := 24) rfl ?_
    refine z_callVF (As := []) dX6_placeFrom_24 kX6_99 (c_X4_length (wr_21 _ _ _)) (wr_21 _ _ _).1 rfl rfl (zle rfl) ⟨zle rfl, zle rfl⟩ ⟨zle rfl, zle rfl⟩ (q := 27) rfl ?_
    rw [hT.2.1]
    refine z_icmp_ge (tgt := 35) dX6_placeFrom_27 (by decide) (q := 30) rfl (fun h27 => absurd h27 (zge_f (by omega) (by omega))) (fun h27 => ?_)
    refine z_iload_n (i := 1) dX6_placeFrom_30 rfl rfl (q := 31) rfl ?_
    refine z_iconst (v := 4) dX6_placeFrom_31 rfl (q := 32) rfl ?_
    refine z_icmp_lt (tgt := 46) dX6_placeFrom_32 (by decide) (q := 35) rfl (fun h32 => ?_) (fun h32 => absurd ((nI_ltI (b := 4) (by omega) (by decide)).mpr (by omega)) h32)
    refine z_iconst (v := 0) dX6_placeFrom_46 rfl (q := 47) rfl ?_
    refine z_istore dX6_placeFrom_47 (zle rfl) rfl (q := 49) rfl ?_
    exact z_X6_placeFrom_49_1 hT hkm hD hs hc (Tcc T k) 0 X B (by omega) (ks_refl X) hD hB (res_none (fun D hS => absurd hS.2 (by rintro ⟨a, ha, _⟩; exact absurd ha (Nat.not_lt_zero _))))
  · replace h15 := zb_0.mp h15
    exact z_vret dX6_placeFrom_18 rfl ⟨zle rfl, zle rfl⟩ ⟨rfl, X, B, rfl, ks_refl X, hD, hB, res_none (fun D _ => prune hT hkm hs hc hB h15 D)⟩
set_option maxRecDepth 100000 in
set_option maxHeartbeats 4000000 in
theorem c_X6_placeAt_2 {n k i0 str cost : Nat} {T : tsP} {D0 : Nat → Nat} {B : bst} (hT : tsK X n T) (hkm : k + 2 = n) (hD : lrow X D0 k) (hs : str ≤ 72 * k) (hc : cost ≤ 200 * k) (hB : bestW X n B) (hi : i0 < Tcc T k) : ZM G mX6_placeAt 5 0 0 [.ref 26, .int (nI k), .int (nI (Tcv T k i0)), .int (nI str), .int (nI cost)] (zw X Y O) (fun r w2 => r = .inl none ∧ ∃ (X2 : zX) (B2 : bst), w2 = zw X2 Y O ∧ ks X X2 ∧ lrow X2 D0 k ∧ bestW X2 n B2 ∧ res n (compV T n k D0 (Tcv T k i0)) (tval T k 2 str cost) B B2) := by
  have h4 := hT.1
  have hkn : k < n := by omega
  have hp := hT.2.2.1 k hkn
  have hv : (Tcv T k i0) ≤ 200 := (hp.2.2.2.2.2.2.1 i0 hi).2
  refine ZM.go pX6 rfl rfl (zle rfl) (zl := [some (.ref 26), some (.int (nI k)), some (.int (nI (Tcv T k i0))), some (.int (nI str)), some (.int (nI cost))]) rfl ?_
  refine z_aload_n (i := 0) dX6_placeAt_0 rfl rfl (q := 1) rfl ?_
  refine z_get dX6_placeAt_1 fX6_34 (wo_tidySearch _ _ _) rfl (q := 4) rfl ?_
  refine z_iload_n (i := 1) dX6_placeAt_4 rfl rfl (q := 5) rfl ?_
  refine z_iload_n (i := 2) dX6_placeAt_5 rfl rfl (q := 6) rfl ?_
  refine z_callVF (As := [_, _]) dX6_placeAt_6 kX6_112 (c_X4_set  (wr_22 _ _ _) (by omega) (by decide)) (wr_22 _ _ _).1 rfl rfl (zle rfl) ⟨zle rfl, zle rfl⟩ ⟨zle rfl, zle rfl⟩ (q := 9) rfl ?_
  refine Z.eqw (wp_22 _ _ _ _ _) ?_
  have hT1 := tsK_ks (ks_row X (r := 22) (by decide) (upd (X.2.1 22) k (nI (Tcv T k i0))) (X.1 22)) hT
  have hD1 := lrow_set hD hv (X.1 22)
  refine z_aload_n (i := 0) dX6_placeAt_9 rfl rfl (q := 10) rfl ?_
  refine z_get dX6_placeAt_10 fX6_21 (wo_tidySearch _ _ _) rfl (q := 13) rfl ?_
  refine z_aload_n (i := 0) dX6_placeAt_13 rfl rfl (q := 14) rfl ?_
  refine z_get dX6_placeAt_14 fX6_34 (wo_tidySearch _ _ _) rfl (q := 17) rfl ?_
  refine z_iload_n (i := 1) dX6_placeAt_17 rfl rfl (q := 18) rfl ?_
  refine z_iload_n (i := 1) dX6_placeAt_18 rfl rfl (q := 19) rfl ?_
  refine z_callVF (As := [_, _, _]) dX6_placeAt_19 kX6_116 (c_X5_keepsApart (c := Tc T) (bf := Tbf T) (bs := Tbs T) (tsK_bar hT1)) (wo_rules _ _ _) rfl rfl (zle rfl) ⟨zle rfl, zle rfl⟩ ⟨zle rfl, zle rfl⟩ (q := 22) rfl ?_
  refine z_if_eq (tgt := 63) dX6_placeAt_22 (by decide) (q := 25) rfl (fun h22 => ?_) (fun h22 => ?_)
  · exact z_vret dX6_placeAt_63 rfl ⟨zle rfl, zle rfl⟩ ⟨rfl, _, B, rfl, ks_row X (by decide) _ _, lrow_old hD1, bestW_row hB _ _, res_none (fun D hS => absurd hS (compV_none hT hkn (fun ho => by rw [show rany (barHit (xrow X 22 (upd (X.2.1 22) k (nI (Tcv T k i0))) (X.1 22)) 22 (Tbf T) (Tbs T) (nI k) (nI k)) 0 (Tc T) = false from Bool.eq_false_iff.mpr (fun h9 => (ok_any hT1 hkn hD1).mp h9 ho)] at h22; exact absurd h22 (by decide)) D))⟩
  · have ho : okN T (va_up D0 k (Tcv T k i0)) k := Classical.byContradiction (fun h9 => h22 (by rw [(ok_any hT1 hkn hD1).mpr h9]; rfl))
    have hf := fN_le hT (va_up D0 k (Tcv T k i0)) k
    have hdn := dN_le hv hp.2.2.2.1
    refine z_aload_n (i := 0) dX6_placeAt_25 rfl rfl (q := 26) rfl ?_
    refine z_iload_n (i := 1) dX6_placeAt_26 rfl rfl (q := 27) rfl ?_
    refine z_iconst (v := 1) dX6_placeAt_27 rfl (q := 28) rfl ?_
    refine z_iadd dX6_placeAt_28 (q := 29) rfl ?_
    rw [nI_1]
    refine z_iload_n (i := 3) dX6_placeAt_29 rfl rfl (q := 30) rfl ?_
    refine z_aload_n (i := 0) dX6_placeAt_30 rfl rfl (q := 31) rfl ?_
    refine z_get dX6_placeAt_31 fX6_21 (wo_tidySearch _ _ _) rfl (q := 34) rfl ?_
    refine z_aload_n (i := 0) dX6_placeAt_34 rfl rfl (q := 35) rfl ?_
    refine z_get dX6_placeAt_35 fX6_34 (wo_tidySearch _ _ _) rfl (q := 38) rfl ?_
    refine z_iload_n (i := 1) dX6_placeAt_38 rfl rfl (q := 39) rfl ?_
    refine z_iload_n (i := 1) dX6_placeAt_39 rfl rfl (q := 40) rfl ?_
    refine z_callVF (As := [_, _, _]) dX6_placeAt_40 kX6_80 (c_X5_strengthOf_22 (c := Tc2 T) (wf := Twf T) (ws := Tws T) (tsK_wish hT1)) (wo_rules _ _ _) rfl rfl (zle rfl) ⟨zle rfl, zle rfl⟩ ⟨zle rfl, zle rfl⟩ (q := 43) rfl ?_
    rw [f_eq hT1 hkn hD1]
    refine z_iadd dX6_placeAt_43 (q := 44) rfl ?_
    rw [nI_add]
    refine z_iload dX6_placeAt_44 rfl (q := 46) rfl ?_
    refine z_iload_n (i := 2) dX6_placeAt_46 rfl rfl (q := 47) rfl ?_
    refine z_aload_n (i := 0) dX6_placeAt_47 rfl rfl (q := 48) rfl ?_
    refine z_get dX6_placeAt_48 fX6_30 (wo_tidySearch _ _ _) rfl (q := 51) rfl ?_
    refine z_iload_n (i := 1) dX6_placeAt_51 rfl rfl (q := 52) rfl ?_
    refine z_callVF (As := [_]) dX6_placeAt_52 kX6_77 (c_X4_get  (wr_21 _ _ _) (by omega) (by decide)) (wr_21 _ _ _).1 rfl rfl (zle rfl) ⟨zle rfl, zle rfl⟩ ⟨zle rfl, zle rfl⟩ (q := 55) rfl ?_
    rw [show (xrow X 22 (upd (X.2.1 22) k (nI (Tcv T k i0))) (X.1 22)).2.1 21 k = nI (Tpv T k) from hp.2.2.1]
    refine z_isub dX6_placeAt_55 (q := 56) rfl ?_
    refine z_abs dX6_placeAt_56 kX6_120 (zle rfl) ⟨zle rfl, zle rfl, zle rfl, zle rfl⟩ (q := 59) rfl ?_
    rw [nI_dist hv hp.2.2.2.1]
    refine z_iadd dX6_placeAt_59 (q := 60) rfl ?_
    rw [nI_add]
    refine z_callV (As := [_, _, _]) dX6_placeAt_60 kX6_88 (c_X6_placeFrom_1 (T := T) (D0 := va_up D0 k (Tcv T k i0)) (B := B) hT1 (by omega) hD1 (by omega) (by omega) (bestW_row hB _ _)) (wo_tidySearch _ _ _) rfl rfl (zle rfl) ⟨zle rfl, zle rfl⟩ ⟨zle rfl, zle rfl⟩ (q := 63) rfl (fun rv w2 hw2 => ?_) (fun E w2 h9 => by cases h9.1)
    obtain ⟨h9, X2, B2, rfl, hk2, hD2, hB2, hr2⟩ := hw2
    cases h9
    exact z_vret dX6_placeAt_63 rfl ⟨zle rfl, zle rfl⟩ ⟨rfl, X2, B2, rfl, ks_trans (ks_row X (by decide) _ _) hk2, lrow_old hD2, hB2, res_congr (compV_next hT hkn hi ho) (fun D hS => (tval_next (m := 1) hT hS).trans (by rw [show va_up D0 k (Tcv T k i0) k = (Tcv T k i0) from if_pos rfl])) hr2⟩
set_option maxRecDepth 100000 in
set_option maxHeartbeats 4000000 in
theorem z_X6_placeFrom_49_2 {n k str cost : Nat} {T : tsP} {D0 : Nat → Nat} {B : bst} (hT : tsK X n T) (hkm : k + 2 = n) (hD : lrow X D0 k) (hs : str ≤ 72 * k) (hc : cost ≤ 200 * k) : ∀ (mm i : Nat) (X1 : zX) (B1 : bst), i + mm = Tcc T k → ks X X1 → lrow X1 D0 k → bestW X1 n B1 → res n (compI T n k D0 i) (tval T k 2 str cost) B B1 → Z G mX6_placeFrom (zrm 6 0 0) 0 0 49 [some (.ref 26), some (.int (nI k)), some (.int (nI str)), some (.int (nI cost)), some (.int (nI i))] [] (zw X1 Y O) (fun r w2 => r = .inl none ∧ ∃ (X2 : zX) (B2 : bst), w2 = zw X2 Y O ∧ ks X X2 ∧ lrow X2 D0 k ∧ bestW X2 n B2 ∧ res n (comp T n k D0) (tval T k 2 str cost) B B2) := by
  have h4 := hT.1
  have hkn : k < n := by omega
  have h10 : Tcc T k ≤ 10 := (hT.2.2.1 k hkn).2.1
  intro mm
  induction mm with
  | zero =>
    intro i X1 B1 hi hk hD1 hB1 hr
    refine z_iload dX6_placeFrom_49 rfl (q := 51) rfl ?_
    refine z_aload_n (i := 0) dX6_placeFrom_51 rfl rfl (q := 52) rfl ?_
    refine z_get dX6_placeFrom_52 fX6_12 (wo_tidySearch _ _ _) rfl (q := 55) rfl ?_
    refine z_iload_n (i := 1) dX6_placeFrom_55 rfl rfl (q := 56) rfl ?_
    refine z_callVF (As := [_]) dX6_placeFrom_56 kX6_102 (c_X1_count (by omega)) (wo_choices _ _ _) rfl rfl (zle rfl) ⟨zle rfl, zle rfl⟩ ⟨zle rfl, zle rfl⟩ (q := 59) rfl ?_
    rw [show X1.2.1 12 k = nI (Tcc T k) from ((tsK_ks hk hT).2.2.1 k hkn).1]
    refine z_icmp_ge (tgt := 85) dX6_placeFrom_59 (by decide) (q := 62) rfl (fun h59 => ?_) (fun h59 => absurd (zge_t (by omega)) h59)
    exact z_vret dX6_placeFrom_85 rfl ⟨zle rfl, zle rfl⟩ ⟨rfl, X1, B1, rfl, hk, hD1, hB1, res_congr (compI_all hkn) (fun _ _ => rfl) (by rw [show Tcc T k = i by omega]; exact hr)⟩
  | succ mm ih =>
    intro i X1 B1 hi hk hD1 hB1 hr
    refine z_iload dX6_placeFrom_49 rfl (q := 51) rfl ?_
    refine z_aload_n (i := 0) dX6_placeFrom_51 rfl rfl (q := 52) rfl ?_
    refine z_get dX6_placeFrom_52 fX6_12 (wo_tidySearch _ _ _) rfl (q := 55) rfl ?_
    refine z_iload_n (i := 1) dX6_placeFrom_55 rfl rfl (q := 56) rfl ?_
    refine z_callVF (As := [_]) dX6_placeFrom_56 kX6_102 (c_X1_count (by omega)) (wo_choices _ _ _) rfl rfl (zle rfl) ⟨zle rfl, zle rfl⟩ ⟨zle rfl, zle rfl⟩ (q := 59) rfl ?_
    rw [show X1.2.1 12 k = nI (Tcc T k) from ((tsK_ks hk hT).2.2.1 k hkn).1]
    refine z_icmp_ge (tgt := 85) dX6_placeFrom_59 (by decide) (q := 62) rfl (fun h59 => absurd h59 (zge_f (by omega) (by omega))) (fun h59 => ?_)
    refine z_aload_n (i := 0) dX6_placeFrom_62 rfl rfl (q := 63) rfl ?_
    refine z_iload_n (i := 1) dX6_placeFrom_63 rfl rfl (q := 64) rfl ?_
    refine z_aload_n (i := 0) dX6_placeFrom_64 rfl rfl (q := 65) rfl ?_
    refine z_get dX6_placeFrom_65 fX6_12 (wo_tidySearch _ _ _) rfl (q := 68) rfl ?_
    refine z_iload_n (i := 1) dX6_placeFrom_68 rfl rfl (q := 69) rfl ?_
    refine z_iload dX6_placeFrom_69 rfl (q := 71) rfl ?_
    refine z_callVF (As := [_, _]) dX6_placeFrom_71 kX6_104 (c_X1_start (k := k) (j := i) (by omega) (by omega)) (wo_choices _ _ _) rfl rfl (zle rfl) ⟨zle rfl, zle rfl⟩ ⟨zle rfl, zle rfl⟩ (q := 74) rfl ?_
    rw [show X1.2.1 11 (10 * k + i) = nI (Tcv T k i) from (((tsK_ks hk hT).2.2.1 k hkn).2.2.2.2.2.2.1 i (by omega)).1]
    refine z_iload_n (i := 2) dX6_placeFrom_74 rfl rfl (q := 75) rfl ?_
    refine z_iload_n (i := 3) dX6_placeFrom_75 rfl rfl (q := 76) rfl ?_
    refine z_callV (As := [_, _, _, _]) dX6_placeFrom_76 kX6_108 (c_X6_placeAt_2 (T := T) (D0 := D0) (B := B1) (i0 := i) (tsK_ks hk hT) hkm hD1 hs hc hB1 (by omega)) (wo_tidySearch _ _ _) rfl rfl (zle rfl) ⟨zle rfl, zle rfl⟩ ⟨zle rfl, zle rfl⟩ (q := 79) rfl (fun rv w2 hw2 => ?_) (fun E w2 h9 => by cases h9.1)
    obtain ⟨h9, X2, B2, rfl, hk2, hD2, hB2, hr2⟩ := hw2
    cases h9
    refine z_iinc dX6_placeFrom_79 rfl rfl (zle rfl) rfl (q := 82) rfl ?_
    refine z_goto (tgt := 49) dX6_placeFrom_82 (by decide) ?_
    refine Z.eql (zl2 := [some (.ref 26), some (.int (nI k)), some (.int (nI str)), some (.int (nI cost)), some (.int (nI (i + 1)))]) (by first | (rw [← nI_1 i]; done) | (rw [← nI_1 i]; rfl)) ?_
    exact ih (i + 1) X2 B2 (by omega) (ks_trans hk hk2) hD2 hB2 (res_union compI_step (compI_lex hT hkn (by omega)) hr hr2)
set_option maxRecDepth 100000 in
set_option maxHeartbeats 4000000 in
theorem c_X6_placeFrom_2 {n k str cost : Nat} {T : tsP} {D0 : Nat → Nat} {B : bst} (hT : tsK X n T) (hkm : k + 2 = n) (hD : lrow X D0 k) (hs : str ≤ 72 * k) (hc : cost ≤ 200 * k) (hB : bestW X n B) : ZM G mX6_placeFrom 6 0 0 [.ref 26, .int (nI k), .int (nI str), .int (nI cost)] (zw X Y O) (fun r w2 => r = .inl none ∧ ∃ (X2 : zX) (B2 : bst), w2 = zw X2 Y O ∧ ks X X2 ∧ lrow X2 D0 k ∧ bestW X2 n B2 ∧ res n (comp T n k D0) (tval T k 2 str cost) B B2) := by
  have h4 := hT.1
  refine ZM.go pX6 rfl rfl (zle rfl) (zl := [some (.ref 26), some (.int (nI k)), some (.int (nI str)), some (.int (nI cost)), none]) rfl ?_
  refine z_aload_n (i := 0) dX6_placeFrom_0 rfl rfl (q := 1) rfl ?_
  refine z_iload_n (i := 2) dX6_placeFrom_1 rfl rfl (q := 2) rfl ?_
  refine z_aload_n (i := 0) dX6_placeFrom_2 rfl rfl (q := 3) rfl ?_
  refine z_get dX6_placeFrom_3 fX6_21 (wo_tidySearch _ _ _) rfl (q := 6) rfl ?_
  refine z_iload_n (i := 1) dX6_placeFrom_6 rfl rfl (q := 7) rfl ?_
  refine z_callVF (As := [_]) dX6_placeFrom_7 kX6_92 (c_X5_strengthAtMost (c := Tc2 T) (wf := Twf T) (ws := Tws T) (tsK_wish hT)) (wo_rules _ _ _) rfl rfl (zle rfl) ⟨zle rfl, zle rfl⟩ ⟨zle rfl, zle rfl⟩ (q := 10) rfl ?_
  rw [am_eq hT (by omega)]
  refine z_iadd dX6_placeFrom_10 (q := 11) rfl ?_
  rw [nI_add]
  refine z_iload_n (i := 3) dX6_placeFrom_11 rfl rfl (q := 12) rfl ?_
  refine z_callVF (As := [_, _]) dX6_placeFrom_12 kX6_95 (c_X6_isTidier ) (wo_tidySearch _ _ _) rfl rfl (zle rfl) ⟨zle rfl, zle rfl⟩ ⟨zle rfl, zle rfl⟩ (q := 15) rfl ?_
  refine z_if_ne (tgt := 19) dX6_placeFrom_15 (by decide) (q := 18) rfl (fun h15 => ?_) (fun h15 => ?_)
  · replace h15 := zb_1.mp h15
    refine z_iload_n (i := 1) dX6_placeFrom_19 rfl rfl (q := 20) rfl ?_
    refine z_aload_n (i := 0) dX6_placeFrom_20 rfl rfl (q := 21) rfl ?_
    refine z_get dX6_placeFrom_21 fX6_30 (wo_tidySearch _ _ _) rfl (q := 24) rfl ?_
    refine z_callVF (As := []) dX6_placeFrom_24 kX6_99 (c_X4_length (wr_21 _ _ _)) (wr_21 _ _ _).1 rfl rfl (zle rfl) ⟨zle rfl, zle rfl⟩ ⟨zle rfl, zle rfl⟩ (q := 27) rfl ?_
    rw [hT.2.1]
    refine z_icmp_ge (tgt := 35) dX6_placeFrom_27 (by decide) (q := 30) rfl (fun h27 => absurd h27 (zge_f (by omega) (by omega))) (fun h27 => ?_)
    refine z_iload_n (i := 1) dX6_placeFrom_30 rfl rfl (q := 31) rfl ?_
    refine z_iconst (v := 4) dX6_placeFrom_31 rfl (q := 32) rfl ?_
    refine z_icmp_lt (tgt := 46) dX6_placeFrom_32 (by decide) (q := 35) rfl (fun h32 => ?_) (fun h32 => absurd ((nI_ltI (b := 4) (by omega) (by decide)).mpr (by omega)) h32)
    refine z_iconst (v := 0) dX6_placeFrom_46 rfl (q := 47) rfl ?_
    refine z_istore dX6_placeFrom_47 (zle rfl) rfl (q := 49) rfl ?_
    exact z_X6_placeFrom_49_2 hT hkm hD hs hc (Tcc T k) 0 X B (by omega) (ks_refl X) hD hB (res_none (fun D hS => absurd hS.2 (by rintro ⟨a, ha, _⟩; exact absurd ha (Nat.not_lt_zero _))))
  · replace h15 := zb_0.mp h15
    exact z_vret dX6_placeFrom_18 rfl ⟨zle rfl, zle rfl⟩ ⟨rfl, X, B, rfl, ks_refl X, hD, hB, res_none (fun D _ => prune hT hkm hs hc hB h15 D)⟩
set_option maxRecDepth 100000 in
set_option maxHeartbeats 4000000 in
theorem c_X6_placeAt_3 {n k i0 str cost : Nat} {T : tsP} {D0 : Nat → Nat} {B : bst} (hT : tsK X n T) (hkm : k + 3 = n) (hD : lrow X D0 k) (hs : str ≤ 72 * k) (hc : cost ≤ 200 * k) (hB : bestW X n B) (hi : i0 < Tcc T k) : ZM G mX6_placeAt 7 0 0 [.ref 26, .int (nI k), .int (nI (Tcv T k i0)), .int (nI str), .int (nI cost)] (zw X Y O) (fun r w2 => r = .inl none ∧ ∃ (X2 : zX) (B2 : bst), w2 = zw X2 Y O ∧ ks X X2 ∧ lrow X2 D0 k ∧ bestW X2 n B2 ∧ res n (compV T n k D0 (Tcv T k i0)) (tval T k 3 str cost) B B2) := by
  have h4 := hT.1
  have hkn : k < n := by omega
  have hp := hT.2.2.1 k hkn
  have hv : (Tcv T k i0) ≤ 200 := (hp.2.2.2.2.2.2.1 i0 hi).2
  refine ZM.go pX6 rfl rfl (zle rfl) (zl := [some (.ref 26), some (.int (nI k)), some (.int (nI (Tcv T k i0))), some (.int (nI str)), some (.int (nI cost))]) rfl ?_
  refine z_aload_n (i := 0) dX6_placeAt_0 rfl rfl (q := 1) rfl ?_
  refine z_get dX6_placeAt_1 fX6_34 (wo_tidySearch _ _ _) rfl (q := 4) rfl ?_
  refine z_iload_n (i := 1) dX6_placeAt_4 rfl rfl (q := 5) rfl ?_
  refine z_iload_n (i := 2) dX6_placeAt_5 rfl rfl (q := 6) rfl ?_
  refine z_callVF (As := [_, _]) dX6_placeAt_6 kX6_112 (c_X4_set  (wr_22 _ _ _) (by omega) (by decide)) (wr_22 _ _ _).1 rfl rfl (zle rfl) ⟨zle rfl, zle rfl⟩ ⟨zle rfl, zle rfl⟩ (q := 9) rfl ?_
  refine Z.eqw (wp_22 _ _ _ _ _) ?_
  have hT1 := tsK_ks (ks_row X (r := 22) (by decide) (upd (X.2.1 22) k (nI (Tcv T k i0))) (X.1 22)) hT
  have hD1 := lrow_set hD hv (X.1 22)
  refine z_aload_n (i := 0) dX6_placeAt_9 rfl rfl (q := 10) rfl ?_
  refine z_get dX6_placeAt_10 fX6_21 (wo_tidySearch _ _ _) rfl (q := 13) rfl ?_
  refine z_aload_n (i := 0) dX6_placeAt_13 rfl rfl (q := 14) rfl ?_
  refine z_get dX6_placeAt_14 fX6_34 (wo_tidySearch _ _ _) rfl (q := 17) rfl ?_
  refine z_iload_n (i := 1) dX6_placeAt_17 rfl rfl (q := 18) rfl ?_
  refine z_iload_n (i := 1) dX6_placeAt_18 rfl rfl (q := 19) rfl ?_
  refine z_callVF (As := [_, _, _]) dX6_placeAt_19 kX6_116 (c_X5_keepsApart (c := Tc T) (bf := Tbf T) (bs := Tbs T) (tsK_bar hT1)) (wo_rules _ _ _) rfl rfl (zle rfl) ⟨zle rfl, zle rfl⟩ ⟨zle rfl, zle rfl⟩ (q := 22) rfl ?_
  refine z_if_eq (tgt := 63) dX6_placeAt_22 (by decide) (q := 25) rfl (fun h22 => ?_) (fun h22 => ?_)
  · exact z_vret dX6_placeAt_63 rfl ⟨zle rfl, zle rfl⟩ ⟨rfl, _, B, rfl, ks_row X (by decide) _ _, lrow_old hD1, bestW_row hB _ _, res_none (fun D hS => absurd hS (compV_none hT hkn (fun ho => by rw [show rany (barHit (xrow X 22 (upd (X.2.1 22) k (nI (Tcv T k i0))) (X.1 22)) 22 (Tbf T) (Tbs T) (nI k) (nI k)) 0 (Tc T) = false from Bool.eq_false_iff.mpr (fun h9 => (ok_any hT1 hkn hD1).mp h9 ho)] at h22; exact absurd h22 (by decide)) D))⟩
  · have ho : okN T (va_up D0 k (Tcv T k i0)) k := Classical.byContradiction (fun h9 => h22 (by rw [(ok_any hT1 hkn hD1).mpr h9]; rfl))
    have hf := fN_le hT (va_up D0 k (Tcv T k i0)) k
    have hdn := dN_le hv hp.2.2.2.1
    refine z_aload_n (i := 0) dX6_placeAt_25 rfl rfl (q := 26) rfl ?_
    refine z_iload_n (i := 1) dX6_placeAt_26 rfl rfl (q := 27) rfl ?_
    refine z_iconst (v := 1) dX6_placeAt_27 rfl (q := 28) rfl ?_
    refine z_iadd dX6_placeAt_28 (q := 29) rfl ?_
    rw [nI_1]
    refine z_iload_n (i := 3) dX6_placeAt_29 rfl rfl (q := 30) rfl ?_
    refine z_aload_n (i := 0) dX6_placeAt_30 rfl rfl (q := 31) rfl ?_
    refine z_get dX6_placeAt_31 fX6_21 (wo_tidySearch _ _ _) rfl (q := 34) rfl ?_
    refine z_aload_n (i := 0) dX6_placeAt_34 rfl rfl (q := 35) rfl ?_
    refine z_get dX6_placeAt_35 fX6_34 (wo_tidySearch _ _ _) rfl (q := 38) rfl ?_
    refine z_iload_n (i := 1) dX6_placeAt_38 rfl rfl (q := 39) rfl ?_
    refine z_iload_n (i := 1) dX6_placeAt_39 rfl rfl (q := 40) rfl ?_
    refine z_callVF (As := [_, _, _]) dX6_placeAt_40 kX6_80 (c_X5_strengthOf_22 (c := Tc2 T) (wf := Twf T) (ws := Tws T) (tsK_wish hT1)) (wo_rules _ _ _) rfl rfl (zle rfl) ⟨zle rfl, zle rfl⟩ ⟨zle rfl, zle rfl⟩ (q := 43) rfl ?_
    rw [f_eq hT1 hkn hD1]
    refine z_iadd dX6_placeAt_43 (q := 44) rfl ?_
    rw [nI_add]
    refine z_iload dX6_placeAt_44 rfl (q := 46) rfl ?_
    refine z_iload_n (i := 2) dX6_placeAt_46 rfl rfl (q := 47) rfl ?_
    refine z_aload_n (i := 0) dX6_placeAt_47 rfl rfl (q := 48) rfl ?_
    refine z_get dX6_placeAt_48 fX6_30 (wo_tidySearch _ _ _) rfl (q := 51) rfl ?_
    refine z_iload_n (i := 1) dX6_placeAt_51 rfl rfl (q := 52) rfl ?_
    refine z_callVF (As := [_]) dX6_placeAt_52 kX6_77 (c_X4_get  (wr_21 _ _ _) (by omega) (by decide)) (wr_21 _ _ _).1 rfl rfl (zle rfl) ⟨zle rfl, zle rfl⟩ ⟨zle rfl, zle rfl⟩ (q := 55) rfl ?_
    rw [show (xrow X 22 (upd (X.2.1 22) k (nI (Tcv T k i0))) (X.1 22)).2.1 21 k = nI (Tpv T k) from hp.2.2.1]
    refine z_isub dX6_placeAt_55 (q := 56) rfl ?_
    refine z_abs dX6_placeAt_56 kX6_120 (zle rfl) ⟨zle rfl, zle rfl, zle rfl, zle rfl⟩ (q := 59) rfl ?_
    rw [nI_dist hv hp.2.2.2.1]
    refine z_iadd dX6_placeAt_59 (q := 60) rfl ?_
    rw [nI_add]
    refine z_callV (As := [_, _, _]) dX6_placeAt_60 kX6_88 (c_X6_placeFrom_2 (T := T) (D0 := va_up D0 k (Tcv T k i0)) (B := B) hT1 (by omega) hD1 (by omega) (by omega) (bestW_row hB _ _)) (wo_tidySearch _ _ _) rfl rfl (zle rfl) ⟨zle rfl, zle rfl⟩ ⟨zle rfl, zle rfl⟩ (q := 63) rfl (fun rv w2 hw2 => ?_) (fun E w2 h9 => by cases h9.1)
    obtain ⟨h9, X2, B2, rfl, hk2, hD2, hB2, hr2⟩ := hw2
    cases h9
    exact z_vret dX6_placeAt_63 rfl ⟨zle rfl, zle rfl⟩ ⟨rfl, X2, B2, rfl, ks_trans (ks_row X (by decide) _ _) hk2, lrow_old hD2, hB2, res_congr (compV_next hT hkn hi ho) (fun D hS => (tval_next (m := 2) hT hS).trans (by rw [show va_up D0 k (Tcv T k i0) k = (Tcv T k i0) from if_pos rfl])) hr2⟩
set_option maxRecDepth 100000 in
set_option maxHeartbeats 4000000 in
theorem z_X6_placeFrom_49_3 {n k str cost : Nat} {T : tsP} {D0 : Nat → Nat} {B : bst} (hT : tsK X n T) (hkm : k + 3 = n) (hD : lrow X D0 k) (hs : str ≤ 72 * k) (hc : cost ≤ 200 * k) : ∀ (mm i : Nat) (X1 : zX) (B1 : bst), i + mm = Tcc T k → ks X X1 → lrow X1 D0 k → bestW X1 n B1 → res n (compI T n k D0 i) (tval T k 3 str cost) B B1 → Z G mX6_placeFrom (zrm 8 0 0) 0 0 49 [some (.ref 26), some (.int (nI k)), some (.int (nI str)), some (.int (nI cost)), some (.int (nI i))] [] (zw X1 Y O) (fun r w2 => r = .inl none ∧ ∃ (X2 : zX) (B2 : bst), w2 = zw X2 Y O ∧ ks X X2 ∧ lrow X2 D0 k ∧ bestW X2 n B2 ∧ res n (comp T n k D0) (tval T k 3 str cost) B B2) := by
  have h4 := hT.1
  have hkn : k < n := by omega
  have h10 : Tcc T k ≤ 10 := (hT.2.2.1 k hkn).2.1
  intro mm
  induction mm with
  | zero =>
    intro i X1 B1 hi hk hD1 hB1 hr
    refine z_iload dX6_placeFrom_49 rfl (q := 51) rfl ?_
    refine z_aload_n (i := 0) dX6_placeFrom_51 rfl rfl (q := 52) rfl ?_
    refine z_get dX6_placeFrom_52 fX6_12 (wo_tidySearch _ _ _) rfl (q := 55) rfl ?_
    refine z_iload_n (i := 1) dX6_placeFrom_55 rfl rfl (q := 56) rfl ?_
    refine z_callVF (As := [_]) dX6_placeFrom_56 kX6_102 (c_X1_count (by omega)) (wo_choices _ _ _) rfl rfl (zle rfl) ⟨zle rfl, zle rfl⟩ ⟨zle rfl, zle rfl⟩ (q := 59) rfl ?_
    rw [show X1.2.1 12 k = nI (Tcc T k) from ((tsK_ks hk hT).2.2.1 k hkn).1]
    refine z_icmp_ge (tgt := 85) dX6_placeFrom_59 (by decide) (q := 62) rfl (fun h59 => ?_) (fun h59 => absurd (zge_t (by omega)) h59)
    exact z_vret dX6_placeFrom_85 rfl ⟨zle rfl, zle rfl⟩ ⟨rfl, X1, B1, rfl, hk, hD1, hB1, res_congr (compI_all hkn) (fun _ _ => rfl) (by rw [show Tcc T k = i by omega]; exact hr)⟩
  | succ mm ih =>
    intro i X1 B1 hi hk hD1 hB1 hr
    refine z_iload dX6_placeFrom_49 rfl (q := 51) rfl ?_
    refine z_aload_n (i := 0) dX6_placeFrom_51 rfl rfl (q := 52) rfl ?_
    refine z_get dX6_placeFrom_52 fX6_12 (wo_tidySearch _ _ _) rfl (q := 55) rfl ?_
    refine z_iload_n (i := 1) dX6_placeFrom_55 rfl rfl (q := 56) rfl ?_
    refine z_callVF (As := [_]) dX6_placeFrom_56 kX6_102 (c_X1_count (by omega)) (wo_choices _ _ _) rfl rfl (zle rfl) ⟨zle rfl, zle rfl⟩ ⟨zle rfl, zle rfl⟩ (q := 59) rfl ?_
    rw [show X1.2.1 12 k = nI (Tcc T k) from ((tsK_ks hk hT).2.2.1 k hkn).1]
    refine z_icmp_ge (tgt := 85) dX6_placeFrom_59 (by decide) (q := 62) rfl (fun h59 => absurd h59 (zge_f (by omega) (by omega))) (fun h59 => ?_)
    refine z_aload_n (i := 0) dX6_placeFrom_62 rfl rfl (q := 63) rfl ?_
    refine z_iload_n (i := 1) dX6_placeFrom_63 rfl rfl (q := 64) rfl ?_
    refine z_aload_n (i := 0) dX6_placeFrom_64 rfl rfl (q := 65) rfl ?_
    refine z_get dX6_placeFrom_65 fX6_12 (wo_tidySearch _ _ _) rfl (q := 68) rfl ?_
    refine z_iload_n (i := 1) dX6_placeFrom_68 rfl rfl (q := 69) rfl ?_
    refine z_iload dX6_placeFrom_69 rfl (q := 71) rfl ?_
    refine z_callVF (As := [_, _]) dX6_placeFrom_71 kX6_104 (c_X1_start (k := k) (j := i) (by omega) (by omega)) (wo_choices _ _ _) rfl rfl (zle rfl) ⟨zle rfl, zle rfl⟩ ⟨zle rfl, zle rfl⟩ (q := 74) rfl ?_
    rw [show X1.2.1 11 (10 * k + i) = nI (Tcv T k i) from (((tsK_ks hk hT).2.2.1 k hkn).2.2.2.2.2.2.1 i (by omega)).1]
    refine z_iload_n (i := 2) dX6_placeFrom_74 rfl rfl (q := 75) rfl ?_
    refine z_iload_n (i := 3) dX6_placeFrom_75 rfl rfl (q := 76) rfl ?_
    refine z_callV (As := [_, _, _, _]) dX6_placeFrom_76 kX6_108 (c_X6_placeAt_3 (T := T) (D0 := D0) (B := B1) (i0 := i) (tsK_ks hk hT) hkm hD1 hs hc hB1 (by omega)) (wo_tidySearch _ _ _) rfl rfl (zle rfl) ⟨zle rfl, zle rfl⟩ ⟨zle rfl, zle rfl⟩ (q := 79) rfl (fun rv w2 hw2 => ?_) (fun E w2 h9 => by cases h9.1)
    obtain ⟨h9, X2, B2, rfl, hk2, hD2, hB2, hr2⟩ := hw2
    cases h9
    refine z_iinc dX6_placeFrom_79 rfl rfl (zle rfl) rfl (q := 82) rfl ?_
    refine z_goto (tgt := 49) dX6_placeFrom_82 (by decide) ?_
    refine Z.eql (zl2 := [some (.ref 26), some (.int (nI k)), some (.int (nI str)), some (.int (nI cost)), some (.int (nI (i + 1)))]) (by first | (rw [← nI_1 i]; done) | (rw [← nI_1 i]; rfl)) ?_
    exact ih (i + 1) X2 B2 (by omega) (ks_trans hk hk2) hD2 hB2 (res_union compI_step (compI_lex hT hkn (by omega)) hr hr2)
set_option maxRecDepth 100000 in
set_option maxHeartbeats 4000000 in
theorem c_X6_placeFrom_3 {n k str cost : Nat} {T : tsP} {D0 : Nat → Nat} {B : bst} (hT : tsK X n T) (hkm : k + 3 = n) (hD : lrow X D0 k) (hs : str ≤ 72 * k) (hc : cost ≤ 200 * k) (hB : bestW X n B) : ZM G mX6_placeFrom 8 0 0 [.ref 26, .int (nI k), .int (nI str), .int (nI cost)] (zw X Y O) (fun r w2 => r = .inl none ∧ ∃ (X2 : zX) (B2 : bst), w2 = zw X2 Y O ∧ ks X X2 ∧ lrow X2 D0 k ∧ bestW X2 n B2 ∧ res n (comp T n k D0) (tval T k 3 str cost) B B2) := by
  have h4 := hT.1
  refine ZM.go pX6 rfl rfl (zle rfl) (zl := [some (.ref 26), some (.int (nI k)), some (.int (nI str)), some (.int (nI cost)), none]) rfl ?_
  refine z_aload_n (i := 0) dX6_placeFrom_0 rfl rfl (q := 1) rfl ?_
  refine z_iload_n (i := 2) dX6_placeFrom_1 rfl rfl (q := 2) rfl ?_
  refine z_aload_n (i := 0) dX6_placeFrom_2 rfl rfl (q := 3) rfl ?_
  refine z_get dX6_placeFrom_3 fX6_21 (wo_tidySearch _ _ _) rfl (q := 6) rfl ?_
  refine z_iload_n (i := 1) dX6_placeFrom_6 rfl rfl (q := 7) rfl ?_
  refine z_callVF (As := [_]) dX6_placeFrom_7 kX6_92 (c_X5_strengthAtMost (c := Tc2 T) (wf := Twf T) (ws := Tws T) (tsK_wish hT)) (wo_rules _ _ _) rfl rfl (zle rfl) ⟨zle rfl, zle rfl⟩ ⟨zle rfl, zle rfl⟩ (q := 10) rfl ?_
  rw [am_eq hT (by omega)]
  refine z_iadd dX6_placeFrom_10 (q := 11) rfl ?_
  rw [nI_add]
  refine z_iload_n (i := 3) dX6_placeFrom_11 rfl rfl (q := 12) rfl ?_
  refine z_callVF (As := [_, _]) dX6_placeFrom_12 kX6_95 (c_X6_isTidier ) (wo_tidySearch _ _ _) rfl rfl (zle rfl) ⟨zle rfl, zle rfl⟩ ⟨zle rfl, zle rfl⟩ (q := 15) rfl ?_
  refine z_if_ne (tgt := 19) dX6_placeFrom_15 (by decide) (q := 18) rfl (fun h15 => ?_) (fun h15 => ?_)
  · replace h15 := zb_1.mp h15
    refine z_iload_n (i := 1) dX6_placeFrom_19 rfl rfl (q := 20) rfl ?_
    refine z_aload_n (i := 0) dX6_placeFrom_20 rfl rfl (q := 21) rfl ?_
    refine z_get dX6_placeFrom_21 fX6_30 (wo_tidySearch _ _ _) rfl (q := 24) rfl ?_
    refine z_callVF (As := []) dX6_placeFrom_24 kX6_99 (c_X4_length (wr_21 _ _ _)) (wr_21 _ _ _).1 rfl rfl (zle rfl) ⟨zle rfl, zle rfl⟩ ⟨zle rfl, zle rfl⟩ (q := 27) rfl ?_
    rw [hT.2.1]
    refine z_icmp_ge (tgt := 35) dX6_placeFrom_27 (by decide) (q := 30) rfl (fun h27 => absurd h27 (zge_f (by omega) (by omega))) (fun h27 => ?_)
    refine z_iload_n (i := 1) dX6_placeFrom_30 rfl rfl (q := 31) rfl ?_
    refine z_iconst (v := 4) dX6_placeFrom_31 rfl (q := 32) rfl ?_
    refine z_icmp_lt (tgt := 46) dX6_placeFrom_32 (by decide) (q := 35) rfl (fun h32 => ?_) (fun h32 => absurd ((nI_ltI (b := 4) (by omega) (by decide)).mpr (by omega)) h32)
    refine z_iconst (v := 0) dX6_placeFrom_46 rfl (q := 47) rfl ?_
    refine z_istore dX6_placeFrom_47 (zle rfl) rfl (q := 49) rfl ?_
    exact z_X6_placeFrom_49_3 hT hkm hD hs hc (Tcc T k) 0 X B (by omega) (ks_refl X) hD hB (res_none (fun D hS => absurd hS.2 (by rintro ⟨a, ha, _⟩; exact absurd ha (Nat.not_lt_zero _))))
  · replace h15 := zb_0.mp h15
    exact z_vret dX6_placeFrom_18 rfl ⟨zle rfl, zle rfl⟩ ⟨rfl, X, B, rfl, ks_refl X, hD, hB, res_none (fun D _ => prune hT hkm hs hc hB h15 D)⟩
set_option maxRecDepth 100000 in
set_option maxHeartbeats 4000000 in
theorem c_X6_placeAt_4 {n k i0 str cost : Nat} {T : tsP} {D0 : Nat → Nat} {B : bst} (hT : tsK X n T) (hkm : k + 4 = n) (hD : lrow X D0 k) (hs : str ≤ 72 * k) (hc : cost ≤ 200 * k) (hB : bestW X n B) (hi : i0 < Tcc T k) : ZM G mX6_placeAt 9 0 0 [.ref 26, .int (nI k), .int (nI (Tcv T k i0)), .int (nI str), .int (nI cost)] (zw X Y O) (fun r w2 => r = .inl none ∧ ∃ (X2 : zX) (B2 : bst), w2 = zw X2 Y O ∧ ks X X2 ∧ lrow X2 D0 k ∧ bestW X2 n B2 ∧ res n (compV T n k D0 (Tcv T k i0)) (tval T k 4 str cost) B B2) := by
  have h4 := hT.1
  have hkn : k < n := by omega
  have hp := hT.2.2.1 k hkn
  have hv : (Tcv T k i0) ≤ 200 := (hp.2.2.2.2.2.2.1 i0 hi).2
  refine ZM.go pX6 rfl rfl (zle rfl) (zl := [some (.ref 26), some (.int (nI k)), some (.int (nI (Tcv T k i0))), some (.int (nI str)), some (.int (nI cost))]) rfl ?_
  refine z_aload_n (i := 0) dX6_placeAt_0 rfl rfl (q := 1) rfl ?_
  refine z_get dX6_placeAt_1 fX6_34 (wo_tidySearch _ _ _) rfl (q := 4) rfl ?_
  refine z_iload_n (i := 1) dX6_placeAt_4 rfl rfl (q := 5) rfl ?_
  refine z_iload_n (i := 2) dX6_placeAt_5 rfl rfl (q := 6) rfl ?_
  refine z_callVF (As := [_, _]) dX6_placeAt_6 kX6_112 (c_X4_set  (wr_22 _ _ _) (by omega) (by decide)) (wr_22 _ _ _).1 rfl rfl (zle rfl) ⟨zle rfl, zle rfl⟩ ⟨zle rfl, zle rfl⟩ (q := 9) rfl ?_
  refine Z.eqw (wp_22 _ _ _ _ _) ?_
  have hT1 := tsK_ks (ks_row X (r := 22) (by decide) (upd (X.2.1 22) k (nI (Tcv T k i0))) (X.1 22)) hT
  have hD1 := lrow_set hD hv (X.1 22)
  refine z_aload_n (i := 0) dX6_placeAt_9 rfl rfl (q := 10) rfl ?_
  refine z_get dX6_placeAt_10 fX6_21 (wo_tidySearch _ _ _) rfl (q := 13) rfl ?_
  refine z_aload_n (i := 0) dX6_placeAt_13 rfl rfl (q := 14) rfl ?_
  refine z_get dX6_placeAt_14 fX6_34 (wo_tidySearch _ _ _) rfl (q := 17) rfl ?_
  refine z_iload_n (i := 1) dX6_placeAt_17 rfl rfl (q := 18) rfl ?_
  refine z_iload_n (i := 1) dX6_placeAt_18 rfl rfl (q := 19) rfl ?_
  refine z_callVF (As := [_, _, _]) dX6_placeAt_19 kX6_116 (c_X5_keepsApart (c := Tc T) (bf := Tbf T) (bs := Tbs T) (tsK_bar hT1)) (wo_rules _ _ _) rfl rfl (zle rfl) ⟨zle rfl, zle rfl⟩ ⟨zle rfl, zle rfl⟩ (q := 22) rfl ?_
  refine z_if_eq (tgt := 63) dX6_placeAt_22 (by decide) (q := 25) rfl (fun h22 => ?_) (fun h22 => ?_)
  · exact z_vret dX6_placeAt_63 rfl ⟨zle rfl, zle rfl⟩ ⟨rfl, _, B, rfl, ks_row X (by decide) _ _, lrow_old hD1, bestW_row hB _ _, res_none (fun D hS => absurd hS (compV_none hT hkn (fun ho => by rw [show rany (barHit (xrow X 22 (upd (X.2.1 22) k (nI (Tcv T k i0))) (X.1 22)) 22 (Tbf T) (Tbs T) (nI k) (nI k)) 0 (Tc T) = false from Bool.eq_false_iff.mpr (fun h9 => (ok_any hT1 hkn hD1).mp h9 ho)] at h22; exact absurd h22 (by decide)) D))⟩
  · have ho : okN T (va_up D0 k (Tcv T k i0)) k := Classical.byContradiction (fun h9 => h22 (by rw [(ok_any hT1 hkn hD1).mpr h9]; rfl))
    have hf := fN_le hT (va_up D0 k (Tcv T k i0)) k
    have hdn := dN_le hv hp.2.2.2.1
    refine z_aload_n (i := 0) dX6_placeAt_25 rfl rfl (q := 26) rfl ?_
    refine z_iload_n (i := 1) dX6_placeAt_26 rfl rfl (q := 27) rfl ?_
    refine z_iconst (v := 1) dX6_placeAt_27 rfl (q := 28) rfl ?_
    refine z_iadd dX6_placeAt_28 (q := 29) rfl ?_
    rw [nI_1]
    refine z_iload_n (i := 3) dX6_placeAt_29 rfl rfl (q := 30) rfl ?_
    refine z_aload_n (i := 0) dX6_placeAt_30 rfl rfl (q := 31) rfl ?_
    refine z_get dX6_placeAt_31 fX6_21 (wo_tidySearch _ _ _) rfl (q := 34) rfl ?_
    refine z_aload_n (i := 0) dX6_placeAt_34 rfl rfl (q := 35) rfl ?_
    refine z_get dX6_placeAt_35 fX6_34 (wo_tidySearch _ _ _) rfl (q := 38) rfl ?_
    refine z_iload_n (i := 1) dX6_placeAt_38 rfl rfl (q := 39) rfl ?_
    refine z_iload_n (i := 1) dX6_placeAt_39 rfl rfl (q := 40) rfl ?_
    refine z_callVF (As := [_, _, _]) dX6_placeAt_40 kX6_80 (c_X5_strengthOf_22 (c := Tc2 T) (wf := Twf T) (ws := Tws T) (tsK_wish hT1)) (wo_rules _ _ _) rfl rfl (zle rfl) ⟨zle rfl, zle rfl⟩ ⟨zle rfl, zle rfl⟩ (q := 43) rfl ?_
    rw [f_eq hT1 hkn hD1]
    refine z_iadd dX6_placeAt_43 (q := 44) rfl ?_
    rw [nI_add]
    refine z_iload dX6_placeAt_44 rfl (q := 46) rfl ?_
    refine z_iload_n (i := 2) dX6_placeAt_46 rfl rfl (q := 47) rfl ?_
    refine z_aload_n (i := 0) dX6_placeAt_47 rfl rfl (q := 48) rfl ?_
    refine z_get dX6_placeAt_48 fX6_30 (wo_tidySearch _ _ _) rfl (q := 51) rfl ?_
    refine z_iload_n (i := 1) dX6_placeAt_51 rfl rfl (q := 52) rfl ?_
    refine z_callVF (As := [_]) dX6_placeAt_52 kX6_77 (c_X4_get  (wr_21 _ _ _) (by omega) (by decide)) (wr_21 _ _ _).1 rfl rfl (zle rfl) ⟨zle rfl, zle rfl⟩ ⟨zle rfl, zle rfl⟩ (q := 55) rfl ?_
    rw [show (xrow X 22 (upd (X.2.1 22) k (nI (Tcv T k i0))) (X.1 22)).2.1 21 k = nI (Tpv T k) from hp.2.2.1]
    refine z_isub dX6_placeAt_55 (q := 56) rfl ?_
    refine z_abs dX6_placeAt_56 kX6_120 (zle rfl) ⟨zle rfl, zle rfl, zle rfl, zle rfl⟩ (q := 59) rfl ?_
    rw [nI_dist hv hp.2.2.2.1]
    refine z_iadd dX6_placeAt_59 (q := 60) rfl ?_
    rw [nI_add]
    refine z_callV (As := [_, _, _]) dX6_placeAt_60 kX6_88 (c_X6_placeFrom_3 (T := T) (D0 := va_up D0 k (Tcv T k i0)) (B := B) hT1 (by omega) hD1 (by omega) (by omega) (bestW_row hB _ _)) (wo_tidySearch _ _ _) rfl rfl (zle rfl) ⟨zle rfl, zle rfl⟩ ⟨zle rfl, zle rfl⟩ (q := 63) rfl (fun rv w2 hw2 => ?_) (fun E w2 h9 => by cases h9.1)
    obtain ⟨h9, X2, B2, rfl, hk2, hD2, hB2, hr2⟩ := hw2
    cases h9
    exact z_vret dX6_placeAt_63 rfl ⟨zle rfl, zle rfl⟩ ⟨rfl, X2, B2, rfl, ks_trans (ks_row X (by decide) _ _) hk2, lrow_old hD2, hB2, res_congr (compV_next hT hkn hi ho) (fun D hS => (tval_next (m := 3) hT hS).trans (by rw [show va_up D0 k (Tcv T k i0) k = (Tcv T k i0) from if_pos rfl])) hr2⟩
set_option maxRecDepth 100000 in
set_option maxHeartbeats 4000000 in
theorem z_X6_placeFrom_49_4 {n k str cost : Nat} {T : tsP} {D0 : Nat → Nat} {B : bst} (hT : tsK X n T) (hkm : k + 4 = n) (hD : lrow X D0 k) (hs : str ≤ 72 * k) (hc : cost ≤ 200 * k) : ∀ (mm i : Nat) (X1 : zX) (B1 : bst), i + mm = Tcc T k → ks X X1 → lrow X1 D0 k → bestW X1 n B1 → res n (compI T n k D0 i) (tval T k 4 str cost) B B1 → Z G mX6_placeFrom (zrm 10 0 0) 0 0 49 [some (.ref 26), some (.int (nI k)), some (.int (nI str)), some (.int (nI cost)), some (.int (nI i))] [] (zw X1 Y O) (fun r w2 => r = .inl none ∧ ∃ (X2 : zX) (B2 : bst), w2 = zw X2 Y O ∧ ks X X2 ∧ lrow X2 D0 k ∧ bestW X2 n B2 ∧ res n (comp T n k D0) (tval T k 4 str cost) B B2) := by
  have h4 := hT.1
  have hkn : k < n := by omega
  have h10 : Tcc T k ≤ 10 := (hT.2.2.1 k hkn).2.1
  intro mm
  induction mm with
  | zero =>
    intro i X1 B1 hi hk hD1 hB1 hr
    refine z_iload dX6_placeFrom_49 rfl (q := 51) rfl ?_
    refine z_aload_n (i := 0) dX6_placeFrom_51 rfl rfl (q := 52) rfl ?_
    refine z_get dX6_placeFrom_52 fX6_12 (wo_tidySearch _ _ _) rfl (q := 55) rfl ?_
    refine z_iload_n (i := 1) dX6_placeFrom_55 rfl rfl (q := 56) rfl ?_
    refine z_callVF (As := [_]) dX6_placeFrom_56 kX6_102 (c_X1_count (by omega)) (wo_choices _ _ _) rfl rfl (zle rfl) ⟨zle rfl, zle rfl⟩ ⟨zle rfl, zle rfl⟩ (q := 59) rfl ?_
    rw [show X1.2.1 12 k = nI (Tcc T k) from ((tsK_ks hk hT).2.2.1 k hkn).1]
    refine z_icmp_ge (tgt := 85) dX6_placeFrom_59 (by decide) (q := 62) rfl (fun h59 => ?_) (fun h59 => absurd (zge_t (by omega)) h59)
    exact z_vret dX6_placeFrom_85 rfl ⟨zle rfl, zle rfl⟩ ⟨rfl, X1, B1, rfl, hk, hD1, hB1, res_congr (compI_all hkn) (fun _ _ => rfl) (by rw [show Tcc T k = i by omega]; exact hr)⟩
  | succ mm ih =>
    intro i X1 B1 hi hk hD1 hB1 hr
    refine z_iload dX6_placeFrom_49 rfl (q := 51) rfl ?_
    refine z_aload_n (i := 0) dX6_placeFrom_51 rfl rfl (q := 52) rfl ?_
    refine z_get dX6_placeFrom_52 fX6_12 (wo_tidySearch _ _ _) rfl (q := 55) rfl ?_
    refine z_iload_n (i := 1) dX6_placeFrom_55 rfl rfl (q := 56) rfl ?_
    refine z_callVF (As := [_]) dX6_placeFrom_56 kX6_102 (c_X1_count (by omega)) (wo_choices _ _ _) rfl rfl (zle rfl) ⟨zle rfl, zle rfl⟩ ⟨zle rfl, zle rfl⟩ (q := 59) rfl ?_
    rw [show X1.2.1 12 k = nI (Tcc T k) from ((tsK_ks hk hT).2.2.1 k hkn).1]
    refine z_icmp_ge (tgt := 85) dX6_placeFrom_59 (by decide) (q := 62) rfl (fun h59 => absurd h59 (zge_f (by omega) (by omega))) (fun h59 => ?_)
    refine z_aload_n (i := 0) dX6_placeFrom_62 rfl rfl (q := 63) rfl ?_
    refine z_iload_n (i := 1) dX6_placeFrom_63 rfl rfl (q := 64) rfl ?_
    refine z_aload_n (i := 0) dX6_placeFrom_64 rfl rfl (q := 65) rfl ?_
    refine z_get dX6_placeFrom_65 fX6_12 (wo_tidySearch _ _ _) rfl (q := 68) rfl ?_
    refine z_iload_n (i := 1) dX6_placeFrom_68 rfl rfl (q := 69) rfl ?_
    refine z_iload dX6_placeFrom_69 rfl (q := 71) rfl ?_
    refine z_callVF (As := [_, _]) dX6_placeFrom_71 kX6_104 (c_X1_start (k := k) (j := i) (by omega) (by omega)) (wo_choices _ _ _) rfl rfl (zle rfl) ⟨zle rfl, zle rfl⟩ ⟨zle rfl, zle rfl⟩ (q := 74) rfl ?_
    rw [show X1.2.1 11 (10 * k + i) = nI (Tcv T k i) from (((tsK_ks hk hT).2.2.1 k hkn).2.2.2.2.2.2.1 i (by omega)).1]
    refine z_iload_n (i := 2) dX6_placeFrom_74 rfl rfl (q := 75) rfl ?_
    refine z_iload_n (i := 3) dX6_placeFrom_75 rfl rfl (q := 76) rfl ?_
    refine z_callV (As := [_, _, _, _]) dX6_placeFrom_76 kX6_108 (c_X6_placeAt_4 (T := T) (D0 := D0) (B := B1) (i0 := i) (tsK_ks hk hT) hkm hD1 hs hc hB1 (by omega)) (wo_tidySearch _ _ _) rfl rfl (zle rfl) ⟨zle rfl, zle rfl⟩ ⟨zle rfl, zle rfl⟩ (q := 79) rfl (fun rv w2 hw2 => ?_) (fun E w2 h9 => by cases h9.1)
    obtain ⟨h9, X2, B2, rfl, hk2, hD2, hB2, hr2⟩ := hw2
    cases h9
    refine z_iinc dX6_placeFrom_79 rfl rfl (zle rfl) rfl (q := 82) rfl ?_
    refine z_goto (tgt := 49) dX6_placeFrom_82 (by decide) ?_
    refine Z.eql (zl2 := [some (.ref 26), some (.int (nI k)), some (.int (nI str)), some (.int (nI cost)), some (.int (nI (i + 1)))]) (by first | (rw [← nI_1 i]; done) | (rw [← nI_1 i]; rfl)) ?_
    exact ih (i + 1) X2 B2 (by omega) (ks_trans hk hk2) hD2 hB2 (res_union compI_step (compI_lex hT hkn (by omega)) hr hr2)
set_option maxRecDepth 100000 in
set_option maxHeartbeats 4000000 in
theorem c_X6_placeFrom_4 {n k str cost : Nat} {T : tsP} {D0 : Nat → Nat} {B : bst} (hT : tsK X n T) (hkm : k + 4 = n) (hD : lrow X D0 k) (hs : str ≤ 72 * k) (hc : cost ≤ 200 * k) (hB : bestW X n B) : ZM G mX6_placeFrom 10 0 0 [.ref 26, .int (nI k), .int (nI str), .int (nI cost)] (zw X Y O) (fun r w2 => r = .inl none ∧ ∃ (X2 : zX) (B2 : bst), w2 = zw X2 Y O ∧ ks X X2 ∧ lrow X2 D0 k ∧ bestW X2 n B2 ∧ res n (comp T n k D0) (tval T k 4 str cost) B B2) := by
  have h4 := hT.1
  refine ZM.go pX6 rfl rfl (zle rfl) (zl := [some (.ref 26), some (.int (nI k)), some (.int (nI str)), some (.int (nI cost)), none]) rfl ?_
  refine z_aload_n (i := 0) dX6_placeFrom_0 rfl rfl (q := 1) rfl ?_
  refine z_iload_n (i := 2) dX6_placeFrom_1 rfl rfl (q := 2) rfl ?_
  refine z_aload_n (i := 0) dX6_placeFrom_2 rfl rfl (q := 3) rfl ?_
  refine z_get dX6_placeFrom_3 fX6_21 (wo_tidySearch _ _ _) rfl (q := 6) rfl ?_
  refine z_iload_n (i := 1) dX6_placeFrom_6 rfl rfl (q := 7) rfl ?_
  refine z_callVF (As := [_]) dX6_placeFrom_7 kX6_92 (c_X5_strengthAtMost (c := Tc2 T) (wf := Twf T) (ws := Tws T) (tsK_wish hT)) (wo_rules _ _ _) rfl rfl (zle rfl) ⟨zle rfl, zle rfl⟩ ⟨zle rfl, zle rfl⟩ (q := 10) rfl ?_
  rw [am_eq hT (by omega)]
  refine z_iadd dX6_placeFrom_10 (q := 11) rfl ?_
  rw [nI_add]
  refine z_iload_n (i := 3) dX6_placeFrom_11 rfl rfl (q := 12) rfl ?_
  refine z_callVF (As := [_, _]) dX6_placeFrom_12 kX6_95 (c_X6_isTidier ) (wo_tidySearch _ _ _) rfl rfl (zle rfl) ⟨zle rfl, zle rfl⟩ ⟨zle rfl, zle rfl⟩ (q := 15) rfl ?_
  refine z_if_ne (tgt := 19) dX6_placeFrom_15 (by decide) (q := 18) rfl (fun h15 => ?_) (fun h15 => ?_)
  · replace h15 := zb_1.mp h15
    refine z_iload_n (i := 1) dX6_placeFrom_19 rfl rfl (q := 20) rfl ?_
    refine z_aload_n (i := 0) dX6_placeFrom_20 rfl rfl (q := 21) rfl ?_
    refine z_get dX6_placeFrom_21 fX6_30 (wo_tidySearch _ _ _) rfl (q := 24) rfl ?_
    refine z_callVF (As := []) dX6_placeFrom_24 kX6_99 (c_X4_length (wr_21 _ _ _)) (wr_21 _ _ _).1 rfl rfl (zle rfl) ⟨zle rfl, zle rfl⟩ ⟨zle rfl, zle rfl⟩ (q := 27) rfl ?_
    rw [hT.2.1]
    refine z_icmp_ge (tgt := 35) dX6_placeFrom_27 (by decide) (q := 30) rfl (fun h27 => absurd h27 (zge_f (by omega) (by omega))) (fun h27 => ?_)
    refine z_iload_n (i := 1) dX6_placeFrom_30 rfl rfl (q := 31) rfl ?_
    refine z_iconst (v := 4) dX6_placeFrom_31 rfl (q := 32) rfl ?_
    refine z_icmp_lt (tgt := 46) dX6_placeFrom_32 (by decide) (q := 35) rfl (fun h32 => ?_) (fun h32 => absurd ((nI_ltI (b := 4) (by omega) (by decide)).mpr (by omega)) h32)
    refine z_iconst (v := 0) dX6_placeFrom_46 rfl (q := 47) rfl ?_
    refine z_istore dX6_placeFrom_47 (zle rfl) rfl (q := 49) rfl ?_
    exact z_X6_placeFrom_49_4 hT hkm hD hs hc (Tcc T k) 0 X B (by omega) (ks_refl X) hD hB (res_none (fun D hS => absurd hS.2 (by rintro ⟨a, ha, _⟩; exact absurd ha (Nat.not_lt_zero _))))
  · replace h15 := zb_0.mp h15
    exact z_vret dX6_placeFrom_18 rfl ⟨zle rfl, zle rfl⟩ ⟨rfl, X, B, rfl, ks_refl X, hD, hB, res_none (fun D _ => prune hT hkm hs hc hB h15 D)⟩
end
