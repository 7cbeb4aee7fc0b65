section
variable {G : zG} {X : zX} {Y : zY} {O : zO}
set_option maxRecDepth 100000 in
set_option maxHeartbeats 4000000 in
def num (v : Int32) : Nat := v.toInt.toNat
/- a number of 0 .. b -/
set_option maxRecDepth 100000 in
set_option maxHeartbeats 4000000 in
def isN (v : Int32) (b : Nat) : Prop := v = nI (num v) ∧ num v ≤ b
set_option maxRecDepth 100000 in
set_option maxHeartbeats 4000000 in
theorem num_nI {a : Nat} (h : a < 2 ^ 31) : num (nI a) = a := by unfold num; rw [nI_toInt h]; rfl
set_option maxRecDepth 100000 in
set_option maxHeartbeats 4000000 in
theorem isN_of {v : Int32} {b : Nat} (hb : b < 2 ^ 31) (h0 : ¬ v < 0) (h1 : ¬ nI b < v) : isN v b := by
  have e0 : ¬ v.toInt < (0 : Int32).toInt := fun h => h0 (Int32.lt_iff_toInt_lt.mpr h)
  have e1 : ¬ (nI b).toInt < v.toInt := fun h => h1 (Int32.lt_iff_toInt_lt.mpr h)
  rw [show (0 : Int32).toInt = 0 from rfl] at e0
  rw [nI_toInt hb] at e1
  have e2 : num v < 2 ^ 31 := by unfold num; omega
  refine ⟨Int32.toInt_inj.mp (by rw [nI_toInt e2]; unfold num; omega), by unfold num; omega⟩
set_option maxRecDepth 100000 in
set_option maxHeartbeats 4000000 in
theorem isN_nI {a b : Nat} (h : a ≤ b) (hb : b < 2 ^ 31) : isN (nI a) b := by
  unfold isN; rw [num_nI (by omega)]; exact ⟨rfl, h⟩
/- what holds of the c.'s state between calls: n shapes, nw wishes -/
set_option maxRecDepth 100000 in
set_option maxHeartbeats 4000000 in
def inv (X : zX) (n nw : Nat) : Prop := n ≤ 4 ∧ nw ≤ 8 ∧ (∀ r, r < 6 → X.1 r = nI n) ∧ (∀ r, 6 ≤ r → r ≤ 10 → X.1 r = nI nw) ∧ (∀ k, k < n → isN (X.2.1 0 k) 200 ∧ isN (X.2.1 1 k) 200 ∧ isN (X.2.1 2 k) 120 ∧ isN (X.2.1 3 k) 120 ∧ 2 ≤ num (X.2.1 1 k) ∧ 1 ≤ num (X.2.1 3 k) ∧ num (X.2.1 0 k) + num (X.2.1 1 k) ≤ 200 ∧ num (X.2.1 2 k) + num (X.2.1 3 k) ≤ 120 ∧ isN (X.2.1 5 k) 400 ∧ (X.2.1 4 k = 0 ∨ X.2.1 4 k = 1)) ∧ (∀ i j, i < j → j < n → ¬ (zmeet (X.2.1 0 i) (X.2.1 1 i) (X.2.1 0 j) (X.2.1 1 j) ∧ zmeet (X.2.1 2 i) (X.2.1 3 i) (X.2.1 2 j) (X.2.1 3 j))) ∧ ∀ w, w < nw → isN (X.2.1 7 w) 3 ∧ isN (X.2.1 8 w) 3 ∧ num (X.2.1 7 w) < n ∧ num (X.2.1 8 w) < n ∧ num (X.2.1 7 w) ≠ num (X.2.1 8 w) ∧ isN (X.2.1 9 w) 9 ∧ 1 ≤ num (X.2.1 9 w) ∧ (zkx (X.2.1 6 w) ∨ zky (X.2.1 6 w)) ∧ (X.2.1 10 w = 0 ∨ X.2.1 10 w = 1)
set_option maxRecDepth 100000 in
set_option maxHeartbeats 4000000 in
abbrev wA (X : zX) (w : Nat) : Nat := num (X.2.1 7 w)
set_option maxRecDepth 100000 in
set_option maxHeartbeats 4000000 in
abbrev wB (X : zX) (w : Nat) : Nat := num (X.2.1 8 w)
set_option maxRecDepth 100000 in
set_option maxHeartbeats 4000000 in
theorem inv_shapes {n nw : Nat} (h : inv X n nw) : wshapes X nw (wA X) (wB X) := fun k hk => by
  have h2 := h.2.2.2.2.2.2 k hk
  have h4 := h.1
  exact ⟨h2.1.1, h2.2.1.1, by show num _ < 4; omega, by show num _ < 4; omega⟩
set_option maxRecDepth 100000 in
set_option maxHeartbeats 4000000 in
theorem zedge_N (k : Int32) : isN (zedge k) 2 := by
  unfold zedge
  split
  · exact isN_nI (a := 0) (by decide) (by decide)
  · split
    · exact isN_nI (a := 1) (by decide) (by decide)
    · exact isN_nI (a := 2) (by decide) (by decide)
/- a start and a size of the axis t -/
set_option maxRecDepth 100000 in
set_option maxHeartbeats 4000000 in
theorem inv_axis {n nw : Nat} (h : inv X n nw) {t : Nat} (ht : t < 2) {k : Nat} (hk : k < n) : isN (X.2.1 (2 * t) k) 200 ∧ isN (X.2.1 (2 * t + 1) k) 200 := by
  have h2 := h.2.2.2.2.1 k hk
  rcases (show t = 0 ∨ t = 1 by omega) with rfl | rfl
  · exact ⟨h2.1, h2.2.1⟩
  · exact ⟨⟨h2.2.2.1.1, Nat.le_trans h2.2.2.1.2 (by decide)⟩, ⟨h2.2.2.2.1.1, Nat.le_trans h2.2.2.2.1.2 (by decide)⟩⟩
set_option maxRecDepth 100000 in
set_option maxHeartbeats 4000000 in
theorem chq_N {n nw : Nat} (h : inv X n nw) {t : Nat} (ht : t < 2) {k : Nat} (hk : k < n) {v : Int32} (hq : chq X t k v) : isN v 200 := by
  have h2 := h.2.2.2.2.1 k hk
  obtain ⟨_, h0, h1⟩ := hq
  rcases (show t = 0 ∨ t = 1 by omega) with rfl | rfl
  · refine isN_of (by decide) h0 (fun h3 => h1 ?_)
    have e : (200 : Int32) - X.2.1 1 k = nI (200 - num (X.2.1 1 k)) := by rw [h2.2.1.1, num_nI (by have := h2.2.1.2; omega), show (200 : Int32) = nI 200 from rfl, nI_sub h2.2.1.2]
    show (200 : Int32) - X.2.1 1 k < v
    rw [e]
    exact Int32.lt_of_le_of_lt (nI_le (by omega) (by decide)) h3
  · refine isN_of (by decide) h0 (fun h3 => h1 ?_)
    have e : (120 : Int32) - X.2.1 3 k = nI (120 - num (X.2.1 3 k)) := by rw [h2.2.2.2.1.1, num_nI (by have := h2.2.2.2.1.2; omega), show (120 : Int32) = nI 120 from rfl, nI_sub h2.2.2.2.1.2]
    show (120 : Int32) - X.2.1 3 k < v
    rw [e]
    exact Int32.lt_of_le_of_lt (nI_le (by omega) (by decide)) h3
/- a choice of the shape k along t -/
set_option maxRecDepth 100000 in
set_option maxHeartbeats 4000000 in
def chN (X : zX) (t n k v : Nat) : Prop := v ≤ 200 ∧ isSnap (X.2.1 (2 * t)) (X.2.1 (2 * t + 1)) n k (nI v) ∧ chq X t k (nI v)
/- how a search's numbers come from the state -/
set_option maxRecDepth 100000 in
set_option maxHeartbeats 4000000 in
def tsS (X : zX) (t n nw : Nat) (T : tsP) : Prop := (∀ k, k < n → Tpv T k = num (X.2.1 (2 * t) k) ∧ Tsz T k = num (X.2.1 (2 * t + 1) k) ∧ ∀ v, (∃ j, j < Tcc T k ∧ Tcv T k j = v) ↔ chN X t n k v) ∧ ((∀ q, q < Tc T → barQ X (1 - t) (Tbf T q) (Tbs T q)) ∧ ∀ f s, f < s → s < n → barQ X (1 - t) f s → ∃ q, q < Tc T ∧ Tbf T q = f ∧ Tbs T q = s) ∧ ∃ wi : Nat → Nat, (∀ q, q < Tc2 T → wi q < nw ∧ wsel X t (wi q) ∧ Twf T q = min (wA X (wi q)) (wB X (wi q)) ∧ Tws T q = max (wA X (wi q)) (wB X (wi q)) ∧ Tew T q = num (zedge (X.2.1 6 (wi q))) ∧ Tgn T q = num (X.2.1 9 (wi q))) ∧ (∀ q s, q < s → s < Tc2 T → wi q < wi s) ∧ ∀ w, w < nw → wsel X t w → ∃ q, q < Tc2 T ∧ wi q = w
set_option maxRecDepth 100000 in
set_option maxHeartbeats 4000000 in
theorem wI_x {X X1 X2 : zX} {t i c : Nat} {wa wb wi : Nat → Nat} (e6 : X1.2.1 6 = X.2.1 6) (e9 : X1.2.1 9 = X.2.1 9) (e10 : X1.2.1 10 = X.2.1 10) (h : wI X1 t wa wb i c wi X2) : wI X t wa wb i c wi X2 := by
  unfold wI wsel at h ⊢
  rw [e6, e9, e10] at h
  exact h
/- a loaded search in numbers -/
set_option maxRecDepth 100000 in
set_option maxHeartbeats 4000000 in
theorem tsK_of {X1 X2 : zX} {t n nw c c2 : Nat} {bf bs wi : Nat → Nat} (hI : inv X n nw) (ht : t < 2) (hL : tsL X t n c bf bs X1) (hk : kp 17 20 X1 X2) (hw : wI X t (wA X) (wB X) nw c2 wi X2) : ∃ T, tsK X2 n T ∧ tsS X t n nw T := by
  obtain ⟨hk1, hch, hsz, hb, hl21, hp⟩ := hL
  have h4 := hI.1
  have h8 := hI.2.1
  refine ⟨(fun k => num (X2.2.1 12 k), fun k j => num (X2.2.1 11 (10 * k + j)), fun k => num (X.2.1 (2 * t) k), fun k => num (X.2.1 (2 * t + 1) k), c, bf, bs, c2, fun q => min (wA X (wi q)) (wB X (wi q)), fun q => max (wA X (wi q)) (wB X (wi q)), fun q => num (zedge (X.2.1 6 (wi q))), fun q => num (X.2.1 9 (wi q))), ⟨h4, (hk.1 21 (by decide)).1.trans hl21, fun k hk3 => ?_, ⟨(hk.1 15 (by decide)).1.trans hb.1, ?_, fun q hq => ?_⟩, ⟨hw.1, ?_, fun q hq => ?_⟩⟩, fun k hk3 => ⟨rfl, rfl, fun v => ?_⟩, ⟨fun q hq => (hb.2.2.2.1 q hq).2.2.2.2, fun f s hfs hs hbq => hb.2.2.2.2 f s hfs (Or.inl hs) hbq⟩, wi, fun q hq => ?_, hw.2.2.2.2.2.2.1, hw.2.2.2.2.2.2.2⟩
  · have ha := inv_axis hI ht hk3
    obtain ⟨cc, hcc, e12, hs⟩ := chD_x (X2 := X2) (hk.1 11 (by decide)).2 (hk.1 12 (by decide)).2 (hch k hk3)
    have en : num (X2.2.1 12 k) = cc := by rw [e12, num_nI (by omega)]
    have hv : ∀ j, j < cc → isN (X2.2.1 11 (10 * k + j)) 200 := fun j hj => chq_N hI ht hk3 (hs.2.1 j hj).2
    show X2.2.1 12 k = nI (num (X2.2.1 12 k)) ∧ num (X2.2.1 12 k) ≤ 10 ∧ X2.2.1 21 k = nI (num (X.2.1 (2 * t) k)) ∧ num (X.2.1 (2 * t) k) ≤ 200 ∧ X2.2.1 14 k = nI (num (X.2.1 (2 * t + 1) k)) ∧ num (X.2.1 (2 * t + 1) k) ≤ 200 ∧ (∀ j, j < num (X2.2.1 12 k) → X2.2.1 11 (10 * k + j) = nI (num (X2.2.1 11 (10 * k + j))) ∧ num (X2.2.1 11 (10 * k + j)) ≤ 200) ∧ ∀ a b, a < b → b < num (X2.2.1 12 k) → num (X2.2.1 11 (10 * k + a)) < num (X2.2.1 11 (10 * k + b))
    rw [en]
    refine ⟨e12, hcc, ((kp_f hk (by decide) k).trans (hp k hk3)).trans ha.1.1, ha.1.2, ((kp_f hk (by decide) k).trans (hsz.2 k hk3)).trans ha.2.1, ha.2.2, fun j hj => hv j hj, fun a b hab hb2 => ?_⟩
    have h5 := hs.1 a b hab hb2
    have h6 := hv a (by omega)
    have h7 := hv b hb2
    have h9 : X2.2.1 11 (10 * k + a) < X2.2.1 11 (10 * k + b) := h5
    rw [h6.1, h7.1, nI_ltI (by have := h6.2; omega) (by have := h7.2; omega)] at h9
    exact h9
  · have h9 := hb.2.2.1
    have h10 : ∀ n, n ≤ 4 → tri n + 0 ≤ 6 := by decide
    exact Nat.le_trans h9 (h10 n h4)
  · obtain ⟨g1, g2, g3, g5, _⟩ := hb.2.2.2.1 q hq
    exact ⟨(kp_f hk (by decide) q).trans g1, (kp_f hk (by decide) q).trans g2, g3, by show bs q < n; omega⟩
  · have h9 := hw.2.2.2.2.1
    show c2 ≤ 8
    omega
  · obtain ⟨g1, g2, g3, g5, g6, g7⟩ := hw.2.2.2.2.2.1 q hq
    have h9 := hI.2.2.2.2.2.2 (wi q) g6
    have h10 := zedge_N (X.2.1 6 (wi q))
    refine ⟨g1, g2, ?_, ?_, g3.trans h10.1, h10.2, g5.trans h9.2.2.2.2.2.1.1, h9.2.2.2.2.2.1.2⟩
    · show min (num (X.2.1 7 (wi q))) (num (X.2.1 8 (wi q))) < max (num (X.2.1 7 (wi q))) (num (X.2.1 8 (wi q)))
      have := h9.2.2.2.2.1
      omega
    · show max (num (X.2.1 7 (wi q))) (num (X.2.1 8 (wi q))) < n
      have := h9.2.2.1
      have := h9.2.2.2.1
      omega
  · obtain ⟨cc, hcc, e12, hs⟩ := chD_x (X2 := X2) (hk.1 11 (by decide)).2 (hk.1 12 (by decide)).2 (hch k hk3)
    have en : num (X2.2.1 12 k) = cc := by rw [e12, num_nI (by omega)]
    show (∃ j, j < num (X2.2.1 12 k) ∧ num (X2.2.1 11 (10 * k + j)) = v) ↔ chN X t n k v
    rw [en]
    constructor
    · rintro ⟨j, hj, e⟩
      have h5 : isSnap _ _ n k (X2.2.1 11 (10 * k + j)) ∧ chq X t k (X2.2.1 11 (10 * k + j)) := hs.2.1 j hj
      have h6 := chq_N hI ht hk3 h5.2
      rw [h6.1, e] at h5
      exact ⟨by rw [← e]; exact h6.2, h5.1, h5.2⟩
    · rintro ⟨h5, h6, h7⟩
      obtain ⟨j, hj, e⟩ := hs.2.2 (nI v) ⟨h6, h7⟩
      exact ⟨j, hj, by rw [show X2.2.1 11 (10 * k + j) = nI v from e, num_nI (by omega)]⟩
  · obtain ⟨g1, g2, g3, g5, g6, g7⟩ := hw.2.2.2.2.2.1 q hq
    exact ⟨g6, g7, rfl, rfl, rfl, rfl⟩
end
