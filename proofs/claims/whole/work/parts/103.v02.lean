section
variable {G : zG} {X X1 : zX} {Y : zY} {O : zO}
set_option maxRecDepth 100000 in
set_option maxHeartbeats 4000000 in
abbrev shp (X : zX) (k : Nat) : Prop := isN (X.2.1 0 k) 200 ∧ isN (X.2.1 1 k) 200 ∧ isN (X.2.1 2 k) 120 ∧ isN (X.2.1 3 k) 120 ∧ 2 ≤ num (X.2.1 1 k) ∧ 1 ≤ num (X.2.1 3 k) ∧ num (X.2.1 0 k) + num (X.2.1 1 k) ≤ 200 ∧ num (X.2.1 2 k) + num (X.2.1 3 k) ≤ 120 ∧ isN (X.2.1 5 k) 400 ∧ (X.2.1 4 k = 0 ∨ X.2.1 4 k = 1)
set_option maxRecDepth 100000 in
set_option maxHeartbeats 4000000 in
abbrev apt (X : zX) (i j : Nat) : Prop := ¬ (zmeet (X.2.1 0 i) (X.2.1 1 i) (X.2.1 0 j) (X.2.1 1 j) ∧ zmeet (X.2.1 2 i) (X.2.1 3 i) (X.2.1 2 j) (X.2.1 3 j))
set_option maxRecDepth 100000 in
set_option maxHeartbeats 4000000 in
theorem zmeet_comm {a az b bz : Int32} : zmeet a az b bz ↔ zmeet b bz a az := ⟨fun h => ⟨h.2, h.1⟩, fun h => ⟨h.2, h.1⟩⟩
set_option maxRecDepth 100000 in
set_option maxHeartbeats 4000000 in
theorem apt_comm {i j : Nat} (h : apt X i j) : apt X j i := fun h9 => h ⟨zmeet_comm.mp h9.1, zmeet_comm.mp h9.2⟩
set_option maxRecDepth 100000 in
set_option maxHeartbeats 4000000 in
theorem inv_apt {n nw i j : Nat} (hI : inv X n nw) (hi : i < n) (hj : j < n) (hij : i ≠ j) : apt X i j := by
  rcases Nat.lt_or_ge i j with h | h
  · exact hI.2.2.2.2.2.1 i j h hj
  · exact apt_comm (hI.2.2.2.2.2.1 j i (by omega) hi)
set_option maxRecDepth 100000 in
set_option maxHeartbeats 4000000 in
theorem rfirst_neg {p : Nat → Prop} [DecidablePred p] : ∀ (m i : Nat), i + m < 1000 → rfirst p i m = -1 → ∀ j, i ≤ j → j < i + m → ¬ p j
  | 0, i, _, _, j, h1, h2 => absurd h2 (by omega)
  | m + 1, i, hb, h, j, h1, h2 => by
    unfold rfirst at h
    by_cases hp : p i
    · rw [if_pos hp] at h
      exact absurd h (nI_m1 (by omega))
    · rw [if_neg hp] at h
      by_cases e : j = i
      · rw [e]; exact hp
      · exact rfirst_neg m (i + 1) (by omega) h j (by omega) (by omega)
set_option maxRecDepth 100000 in
set_option maxHeartbeats 4000000 in
theorem zon_N {L z : Nat} {s : Int32} (hL : L ≤ 2000) (hz : z ≤ 3000) (h : zon (nI L) s (nI z)) : isN s L ∧ num s + z ≤ L := by
  obtain ⟨h0, h1⟩ := h
  have hzL : z ≤ L := by
    rcases Nat.lt_or_ge L z with h2 | h2
    · have h3 : nI L - nI z < 0 := by
        rw [Int32.lt_iff_toInt_lt, pk_sub_toInt (by omega) (by omega)]
        show (L : Int) - z < 0
        omega
      exact absurd (Int32.lt_of_lt_of_le h3 (Int32.not_lt.mp h0)) h1
    · exact h2
  rw [nI_sub hzL] at h1
  have h2 := isN_of (b := L - z) (by omega) h0 h1
  exact ⟨⟨h2.1, by have := h2.2; omega⟩, by have := h2.2; omega⟩
set_option maxRecDepth 100000 in
set_option maxHeartbeats 4000000 in
theorem num_eq {v : Int32} {a b : Nat} (h : isN v b) (hb : b < 2 ^ 31) : v = nI a → a < 2 ^ 31 → num v = a := fun e ha => by rw [e, num_nI ha]
/- one shape stands anew -/
set_option maxRecDepth 100000 in
set_option maxHeartbeats 4000000 in
theorem inv_one {n nw k : Nat} {X2 : zX} (hI : inv X n nw) (hk : k < n) (h1 : ∀ r, r ≤ 10 → X2.1 r = X.1 r) (h2 : ∀ r, 6 ≤ r → r ≤ 10 → X2.2.1 r = X.2.1 r) (h3 : ∀ r j, r < 6 → j ≠ k → X2.2.1 r j = X.2.1 r j) (hs : shp X2 k) (ha : ∀ j, j < n → j ≠ k → apt X2 j k) : inv X2 n nw := by
  obtain ⟨i1, i2, i3, i4, i5, i6, i7⟩ := hI
  refine ⟨i1, i2, fun r hr => (h1 r (by omega)).trans (i3 r hr), fun r ha hb => (h1 r hb).trans (i4 r ha hb), fun j hj => ?_, fun i j hij hj => ?_, fun w hw => ?_⟩
  · by_cases e : j = k
    · rw [e]; exact hs
    · rw [h3 0 j (by decide) e, h3 1 j (by decide) e, h3 2 j (by decide) e, h3 3 j (by decide) e, h3 4 j (by decide) e, h3 5 j (by decide) e]
      exact i5 j hj
  · show apt X2 i j
    by_cases e : j = k
    · rw [e]; exact ha i (by omega) (by omega)
    · by_cases e2 : i = k
      · rw [e2]; exact apt_comm (ha j hj e)
      · unfold apt
        rw [h3 0 j (by decide) e, h3 1 j (by decide) e, h3 2 j (by decide) e, h3 3 j (by decide) e, h3 0 i (by decide) e2, h3 1 i (by decide) e2, h3 2 i (by decide) e2, h3 3 i (by decide) e2]
        exact i6 i j hij hj
  · rw [h2 6 (by decide) (by decide), h2 7 (by decide) (by decide), h2 8 (by decide) (by decide), h2 9 (by decide) (by decide), h2 10 (by decide) (by decide)]
    exact i7 w hw
set_option maxRecDepth 100000 in
set_option maxHeartbeats 4000000 in
theorem upd_s {f : Nat → Int32} {k : Nat} {v : Int32} : upd f k v k = v := pk_us
set_option maxRecDepth 100000 in
set_option maxHeartbeats 4000000 in
theorem inv_text {n nw k : Nat} {l : Int32} (hI : inv X n nw) (hk : k < n) (h0 : ¬ l < 0) (h1 : ¬ 400 < l) : inv (xrow X 5 (upd (X.2.1 5) k l) (X.1 5)) n nw := by
  have h := hI.2.2.2.2.1 k hk
  refine inv_one hI hk (fun r _ => ?_) (fun r ha hb => xrow_fn X (by omega) _ _) (fun r j _ hj => ?_) ?_ (fun j hj hne => (show apt X j k from inv_apt hI hj hk hne))
  · by_cases e : r = 5
    · rw [e]; exact xrow_l X 5 _ _
    · exact xrow_ln X e _ _
  · by_cases e : r = 5
    · rw [e, xrow_f, pk_un hj]
    · rw [xrow_fn X e]
  · exact ⟨h.1, h.2.1, h.2.2.1, h.2.2.2.1, h.2.2.2.2.1, h.2.2.2.2.2.1, h.2.2.2.2.2.2.1, h.2.2.2.2.2.2.2.1, by show isN (upd (X.2.1 5) k l k) 400; rw [pk_us]; exact isN_of (by decide) h0 h1, h.2.2.2.2.2.2.2.2.2⟩
set_option maxRecDepth 100000 in
set_option maxHeartbeats 4000000 in
theorem inv_lock {n nw k : Nat} {p : Prop} [Decidable p] (hI : inv X n nw) (hk : k < n) : inv (xrow X 4 (upd (X.2.1 4) k (zb p)) (X.1 4)) n nw := by
  have h := hI.2.2.2.2.1 k hk
  refine inv_one hI hk (fun r _ => ?_) (fun r ha hb => xrow_fn X (by omega) _ _) (fun r j _ hj => ?_) ?_ (fun j hj hne => (show apt X j k from inv_apt hI hj hk hne))
  · by_cases e : r = 4
    · rw [e]; exact xrow_l X 4 _ _
    · exact xrow_ln X e _ _
  · by_cases e : r = 4
    · rw [e, xrow_f, pk_un hj]
    · rw [xrow_fn X e]
  · refine ⟨h.1, h.2.1, h.2.2.1, h.2.2.2.1, h.2.2.2.2.1, h.2.2.2.2.2.1, h.2.2.2.2.2.2.1, h.2.2.2.2.2.2.2.1, h.2.2.2.2.2.2.2.2.1, ?_⟩
    show upd (X.2.1 4) k (zb p) k = 0 ∨ upd (X.2.1 4) k (zb p) k = 1
    rw [pk_us]; unfold zb; split
    · exact Or.inr rfl
    · exact Or.inl rfl
set_option maxRecDepth 100000 in
set_option maxHeartbeats 4000000 in
theorem over_apt {n k : Nat} {l t w h : Int32} (h4 : n ≤ 4) (hr : rfirst (pover X (nI k) l t w h) 0 n = -1) : ∀ j, j < n → j ≠ k → k < 4 → ¬ (zmeet (X.2.1 0 j) (X.2.1 1 j) l w ∧ zmeet (X.2.1 2 j) (X.2.1 3 j) t h) := fun j hj hne hk h9 =>
  rfirst_neg n 0 (by omega) hr j (by omega) (by omega) ⟨fun e => hne ((nI_eq (by omega) (by omega)).mp e), h9⟩
set_option maxRecDepth 100000 in
set_option maxHeartbeats 4000000 in
theorem inv_move {n nw k : Nat} {l t : Int32} {e : Int64} (hI : inv X n nw) (hk : k < n) (hx : zon 200 l (X.2.1 1 k)) (hy : zon 120 t (X.2.1 3 k)) (hr : rfirst (pover X (nI k) l t (X.2.1 1 k) (X.2.1 3 k)) 0 n = -1) : inv (xmv (xrow (xrow X 0 (upd (X.2.1 0) k l) (X.1 0)) 2 (upd (X.2.1 2) k t) (X.1 2)) e) n nw := by
  have h := hI.2.2.2.2.1 k hk
  have h4 := hI.1
  have hw := h.2.1
  have hh := h.2.2.2.1
  have ex : isN l 200 ∧ num l + num (X.2.1 1 k) ≤ 200 := zon_N (L := 200) (z := num (X.2.1 1 k)) (by decide) (by have := hw.2; omega) (by rw [← hw.1]; exact hx)
  have ey : isN t 120 ∧ num t + num (X.2.1 3 k) ≤ 120 := zon_N (L := 120) (z := num (X.2.1 3 k)) (by decide) (by have := hh.2; omega) (by rw [← hh.1]; exact hy)
  have f0 : (xmv (xrow (xrow X 0 (upd (X.2.1 0) k l) (X.1 0)) 2 (upd (X.2.1 2) k t) (X.1 2)) e).2.1 0 k = l := pk_us
  have f2 : (xmv (xrow (xrow X 0 (upd (X.2.1 0) k l) (X.1 0)) 2 (upd (X.2.1 2) k t) (X.1 2)) e).2.1 2 k = t := pk_us
  refine inv_one hI hk (fun r hr => ?_) (fun r ha hb => ?_) (fun r j hr hj => ?_) ?_ (fun j hj hne => ?_)
  · show va_up (va_up X.1 0 (X.1 0)) 2 (X.1 2) r = X.1 r
    unfold va_up
    by_cases e1 : r = 2
    · rw [if_pos e1, e1]
    · rw [if_neg e1]
      by_cases e2 : r = 0
      · rw [if_pos e2, e2]
      · rw [if_neg e2]
  · show va_up (va_up X.2.1 0 _) 2 _ r = X.2.1 r
    unfold va_up
    rw [if_neg (by omega), if_neg (by omega)]
  · show va_up (va_up X.2.1 0 _) 2 _ r j = X.2.1 r j
    unfold va_up
    by_cases e1 : r = 2
    · rw [if_pos e1, e1, pk_un hj]
    · rw [if_neg e1]
      by_cases e2 : r = 0
      · rw [if_pos e2, e2, pk_un hj]
      · rw [if_neg e2]
  · unfold shp
    rw [f0, f2]
    exact ⟨ex.1, h.2.1, ey.1, h.2.2.2.1, h.2.2.2.2.1, h.2.2.2.2.2.1, ex.2, ey.2, h.2.2.2.2.2.2.2.2⟩
  · unfold apt
    rw [f0, f2]
    have h5 := over_apt h4 hr j hj hne (by omega)
    have g0 : (xmv (xrow (xrow X 0 (upd (X.2.1 0) k l) (X.1 0)) 2 (upd (X.2.1 2) k t) (X.1 2)) e).2.1 0 j = X.2.1 0 j := pk_un hne
    have g2 : (xmv (xrow (xrow X 0 (upd (X.2.1 0) k l) (X.1 0)) 2 (upd (X.2.1 2) k t) (X.1 2)) e).2.1 2 j = X.2.1 2 j := pk_un hne
    rw [g0, g2]
    exact h5
set_option maxRecDepth 100000 in
set_option maxHeartbeats 4000000 in
theorem zneed_N {w l : Nat} (h2 : 2 ≤ w) (hw : w ≤ 200) (hl : l ≤ 400) : zneed (nI w) (nI l) = nI (5 * ((l + w / 2 - 1) / (w / 2))) ∧ 5 * ((l + w / 2 - 1) / (w / 2)) ≤ 2500 := by
  have h3 : 1 ≤ w / 2 := by omega
  have h5 : (l + w / 2 - 1) / (w / 2) ≤ 500 := Nat.le_trans (Nat.div_le_self _ _) (by omega)
  unfold zneed
  rw [show (2 : Int32) = nI 2 from rfl, pk_div (by omega) (by decide) (by decide), nI_add, show (1 : Int32) = nI 1 from rfl, nI_sub (by omega), pk_div (by omega) (by omega) (by omega), show (5 : Int32) = nI 5 from rfl, nI_mul, Nat.mul_comm]
  exact ⟨rfl, by omega⟩
set_option maxRecDepth 100000 in
set_option maxHeartbeats 4000000 in
theorem inv_grow {n nw k : Nat} (hI : inv X n nw) (hk : k < n) (hnf : ¬ zneed (X.2.1 1 k) (X.2.1 5 k) ≤ X.2.1 3 k) (hy : zon 120 (X.2.1 2 k) (zneed (X.2.1 1 k) (X.2.1 5 k))) (hr : rfirst (pover X (nI k) (X.2.1 0 k) (X.2.1 2 k) (X.2.1 1 k) (zneed (X.2.1 1 k) (X.2.1 5 k))) 0 n = -1) : inv (xrow X 3 (upd (X.2.1 3) k (zneed (X.2.1 1 k) (X.2.1 5 k))) (X.1 3)) n nw := by
  have h := hI.2.2.2.2.1 k hk
  have h4 := hI.1
  have hz := zneed_N (w := num (X.2.1 1 k)) (l := num (X.2.1 5 k)) h.2.2.2.2.1 h.2.1.2 h.2.2.2.2.2.2.2.2.1.2
  rw [← h.2.1.1, ← h.2.2.2.2.2.2.2.2.1.1] at hz
  obtain ⟨m, hm⟩ : ∃ m, m = 5 * ((num (X.2.1 5 k) + num (X.2.1 1 k) / 2 - 1) / (num (X.2.1 1 k) / 2)) := ⟨_, rfl⟩
  rw [← hm] at hz
  have ey : isN (X.2.1 2 k) 120 ∧ num (X.2.1 2 k) + m ≤ 120 := zon_N (L := 120) (z := m) (by decide) (by have := hz.2; omega) (by rw [← hz.1]; exact hy)
  have hm1 : 1 ≤ m := by
    rw [hz.1, h.2.2.2.1.1, nI_leI (by have := hz.2; omega) (by have := h.2.2.2.1.2; omega)] at hnf
    omega
  have f3 : (xrow X 3 (upd (X.2.1 3) k (zneed (X.2.1 1 k) (X.2.1 5 k))) (X.1 3)).2.1 3 k = nI m := pk_us.trans hz.1
  have g3 : ∀ j, j ≠ k → (xrow X 3 (upd (X.2.1 3) k (zneed (X.2.1 1 k) (X.2.1 5 k))) (X.1 3)).2.1 3 j = X.2.1 3 j := fun j hj => pk_un hj
  have hn : num (nI m) = m := num_nI (by have := hz.2; omega)
  refine inv_one hI hk (fun r _ => ?_) (fun r ha hb => xrow_fn X (by omega) _ _) (fun r j _ hj => ?_) ?_ (fun j hj hne => ?_)
  · by_cases e : r = 3
    · rw [e]; exact xrow_l X 3 _ _
    · exact xrow_ln X e _ _
  · by_cases e : r = 3
    · rw [e, xrow_f, pk_un hj]
    · rw [xrow_fn X e]
  · unfold shp
    rw [f3, hn]
    exact ⟨h.1, h.2.1, ey.1, isN_nI (by omega) (by decide), h.2.2.2.2.1, hm1, h.2.2.2.2.2.2.1, ey.2, h.2.2.2.2.2.2.2.2⟩
  · have h5 := over_apt h4 hr j hj hne (by omega)
    rw [hz.1] at h5
    unfold apt
    rw [f3, g3 j hne]
    exact h5
set_option maxRecDepth 100000 in
set_option maxHeartbeats 4000000 in
theorem inv_add {n nw : Nat} {l t w h : Int32} (hI : inv X n nw) (hn : n < 4) (hw : ¬ w < 2 ∧ ¬ 200 < w) (hh : ¬ h < 1 ∧ ¬ 120 < h) (hx : zon 200 l w) (hy : zon 120 t h) (hr : rfirst (pover X (-1) l t w h) 0 n = -1) : inv (xadd X n l t w h) (n + 1) nw := by
  obtain ⟨i1, i2, i3, i4, i5, i6, i7⟩ := hI
  have w1 : isN w 200 := isN_of (by decide) (fun h9 => hw.1 (Int32.lt_trans h9 (by decide))) hw.2
  have h1 : isN h 120 := isN_of (by decide) (fun h9 => hh.1 (Int32.lt_trans h9 (by decide))) hh.2
  have w2 : 2 ≤ num w := by
    have h9 := hw.1
    rw [w1.1, show (2 : Int32) = nI 2 from rfl, nI_ltI (by have := w1.2; omega) (by decide)] at h9
    omega
  have h2 : 1 ≤ num h := by
    have h9 := hh.1
    rw [h1.1, show (1 : Int32) = nI 1 from rfl, nI_ltI (by have := h1.2; omega) (by decide)] at h9
    omega
  have ex : isN l 200 ∧ num l + num w ≤ 200 := zon_N (L := 200) (z := num w) (by decide) (by have := w1.2; omega) (by rw [← w1.1]; exact hx)
  have ey : isN t 120 ∧ num t + num h ≤ 120 := zon_N (L := 120) (z := num h) (by decide) (by have := h1.2; omega) (by rw [← h1.1]; exact hy)
  have ho : ∀ j, j < n → ¬ (zmeet (X.2.1 0 j) (X.2.1 1 j) l w ∧ zmeet (X.2.1 2 j) (X.2.1 3 j) t h) := fun j hj h9 =>
    rfirst_neg n 0 (by omega) hr j (by omega) (by omega) ⟨nI_m1 (by omega), h9⟩
  have ln : ∀ r, r < 6 → (xadd X n l t w h).1 r = nI (n + 1) := fun r hr => by
    rcases (show r = 0 ∨ r = 1 ∨ r = 2 ∨ r = 3 ∨ r = 4 ∨ r = 5 by omega) with rfl | rfl | rfl | rfl | rfl | rfl <;> rfl
  have lo : ∀ r, 6 ≤ r → r ≤ 10 → (xadd X n l t w h).1 r = X.1 r ∧ (xadd X n l t w h).2.1 r = X.2.1 r := fun r ha hb => by
    rcases (show r = 6 ∨ r = 7 ∨ r = 8 ∨ r = 9 ∨ r = 10 by omega) with rfl | rfl | rfl | rfl | rfl <;> exact ⟨rfl, rfl⟩
  have old : ∀ j, j ≠ n → (xadd X n l t w h).2.1 0 j = X.2.1 0 j ∧ (xadd X n l t w h).2.1 1 j = X.2.1 1 j ∧ (xadd X n l t w h).2.1 2 j = X.2.1 2 j ∧ (xadd X n l t w h).2.1 3 j = X.2.1 3 j ∧ (xadd X n l t w h).2.1 4 j = X.2.1 4 j ∧ (xadd X n l t w h).2.1 5 j = X.2.1 5 j := fun j hj => ⟨pk_un hj, pk_un hj, pk_un hj, pk_un hj, pk_un hj, pk_un hj⟩
  have new : (xadd X n l t w h).2.1 0 n = l ∧ (xadd X n l t w h).2.1 1 n = w ∧ (xadd X n l t w h).2.1 2 n = t ∧ (xadd X n l t w h).2.1 3 n = h ∧ (xadd X n l t w h).2.1 4 n = 0 ∧ (xadd X n l t w h).2.1 5 n = 0 := ⟨pk_us, pk_us, pk_us, pk_us, pk_us, pk_us⟩
  refine ⟨by omega, i2, ln, fun r ha hb => (lo r ha hb).1.trans (i4 r ha hb), fun j hj => ?_, fun i j hij hj => ?_, fun q hq => ?_⟩
  · show shp (xadd X n l t w h) j
    unfold shp
    by_cases e : j = n
    · rw [e, new.1, new.2.1, new.2.2.1, new.2.2.2.1, new.2.2.2.2.1, new.2.2.2.2.2]
      exact ⟨ex.1, w1, ey.1, h1, w2, h2, ex.2, ey.2, isN_nI (a := 0) (by decide) (by decide), Or.inl rfl⟩
    · have o := old j e
      rw [o.1, o.2.1, o.2.2.1, o.2.2.2.1, o.2.2.2.2.1, o.2.2.2.2.2]
      exact i5 j (by omega)
  · show apt (xadd X n l t w h) i j
    unfold apt
    have o := old i (by omega)
    rw [o.1, o.2.1, o.2.2.1, o.2.2.2.1]
    by_cases e : j = n
    · rw [e, new.1, new.2.1, new.2.2.1, new.2.2.2.1]
      exact ho i (by omega)
    · have o2 := old j e
      rw [o2.1, o2.2.1, o2.2.2.1, o2.2.2.2.1]
      exact i6 i j hij (by omega)
  · rw [(lo 6 (by decide) (by decide)).2, (lo 7 (by decide) (by decide)).2, (lo 8 (by decide) (by decide)).2, (lo 9 (by decide) (by decide)).2, (lo 10 (by decide) (by decide)).2]
    have h9 := i7 q hq
    exact ⟨h9.1, h9.2.1, by omega, by omega, h9.2.2.2.2⟩
set_option maxRecDepth 100000 in
set_option maxHeartbeats 4000000 in
theorem inv_wish {n nw a b : Nat} {kd f : Int32} (hI : inv X n nw) (hn : nw < 8) (ha : a < n) (hb : b < n) (hab : a ≠ b) (hk : zkx kd ∨ zky kd) (hf : ¬ f < 1 ∧ ¬ 9 < f) : inv (xwish X nw kd (nI a) (nI b) f) n (nw + 1) := by
  obtain ⟨i1, i2, i3, i4, i5, i6, i7⟩ := hI
  have f1 : isN f 9 := isN_of (by decide) (fun h9 => hf.1 (Int32.lt_trans h9 (by decide))) hf.2
  have f2 : 1 ≤ num f := by
    have h9 := hf.1
    rw [f1.1, show (1 : Int32) = nI 1 from rfl, nI_ltI (by have := f1.2; omega) (by decide)] at h9
    omega
  have lo : ∀ r, r < 6 → (xwish X nw kd (nI a) (nI b) f).1 r = X.1 r ∧ (xwish X nw kd (nI a) (nI b) f).2.1 r = X.2.1 r := fun r hr => by
    rcases (show r = 0 ∨ r = 1 ∨ r = 2 ∨ r = 3 ∨ r = 4 ∨ r = 5 by omega) with rfl | rfl | rfl | rfl | rfl | rfl <;> exact ⟨rfl, rfl⟩
  refine ⟨i1, by omega, fun r hr => (lo r hr).1.trans (i3 r hr), fun r h1 h2 => ?_, fun j hj => ?_, fun i j hij hj => ?_, fun w hw => ?_⟩
  · rcases (show r = 6 ∨ r = 7 ∨ r = 8 ∨ r = 9 ∨ r = 10 by omega) with rfl | rfl | rfl | rfl | rfl <;> rfl
  · rw [(lo 0 (by decide)).2, (lo 1 (by decide)).2, (lo 2 (by decide)).2, (lo 3 (by decide)).2, (lo 4 (by decide)).2, (lo 5 (by decide)).2]
    exact i5 j hj
  · rw [(lo 0 (by decide)).2, (lo 1 (by decide)).2, (lo 2 (by decide)).2, (lo 3 (by decide)).2]
    exact i6 i j hij hj
  · show isN (upd (X.2.1 7) nw (nI a) w) 3 ∧ isN (upd (X.2.1 8) nw (nI b) w) 3 ∧ num (upd (X.2.1 7) nw (nI a) w) < n ∧ num (upd (X.2.1 8) nw (nI b) w) < n ∧ num (upd (X.2.1 7) nw (nI a) w) ≠ num (upd (X.2.1 8) nw (nI b) w) ∧ isN (upd (X.2.1 9) nw f w) 9 ∧ 1 ≤ num (upd (X.2.1 9) nw f w) ∧ (zkx (upd (X.2.1 6) nw kd w) ∨ zky (upd (X.2.1 6) nw kd w)) ∧ (upd (X.2.1 10) nw 0 w = 0 ∨ upd (X.2.1 10) nw 0 w = 1)
    by_cases e : w = nw
    · subst e
      rw [pk_us, pk_us, pk_us, pk_us, pk_us, num_nI (by omega), num_nI (by omega)]
      exact ⟨isN_nI (by omega) (by decide), isN_nI (by omega) (by decide), ha, hb, hab, f1, f2, hk, Or.inl rfl⟩
    · rw [pk_un e, pk_un e, pk_un e, pk_un e, pk_un e]
      exact i7 w (by omega)
set_option maxRecDepth 100000 in
set_option maxHeartbeats 4000000 in
theorem inv_drop {n nw k : Nat} (hI : inv X n nw) : inv (xrow X 10 (upd (X.2.1 10) k 1) (X.1 10)) n nw := by
  obtain ⟨i1, i2, i3, i4, i5, i6, i7⟩ := hI
  refine ⟨i1, i2, fun r hr => (xrow_ln X (by omega) _ _).trans (i3 r hr), fun r h1 h2 => ?_, i5, i6, fun w hw => ?_⟩
  · by_cases e : r = 10
    · rw [e]; exact (xrow_l X 10 _ _).trans (i4 10 (by decide) (by decide))
    · exact (xrow_ln X e _ _).trans (i4 r h1 h2)
  · have h := i7 w hw
    refine ⟨h.1, h.2.1, h.2.2.1, h.2.2.2.1, h.2.2.2.2.1, h.2.2.2.2.2.1, h.2.2.2.2.2.2.1, h.2.2.2.2.2.2.2.1, ?_⟩
    show upd (X.2.1 10) k 1 w = 0 ∨ upd (X.2.1 10) k 1 w = 1
    by_cases e : w = k
    · rw [e, pk_us]; exact Or.inr rfl
    · rw [pk_un e]; exact h.2.2.2.2.2.2.2.2
/- all shapes stand anew along one axis, allowed -/
set_option maxRecDepth 100000 in
set_option maxHeartbeats 4000000 in
theorem inv_mv {n nw t c : Nat} {D : Nat → Nat} {X3 : zX} (hI : inv X n nw) (ht : t < 2) (hm : mvR X t n D c X3) (ha : allow X t n (fun j => nI (D j))) (hD : ∀ j, j < n → D j ≤ 2000) : inv X3 n nw := by
  obtain ⟨m1, m2, m3, m4⟩ := hm
  obtain ⟨i1, i2, i3, i4, i5, i6, i7⟩ := hI
  have ln : ∀ r, r ≤ 10 → X3.1 r = X.1 r := fun r hr => by
    by_cases e : r = 2 * t
    · rw [e]; exact m2
    · exact (m1 r hr e).1
  refine ⟨i1, i2, fun r hr => (ln r (by omega)).trans (i3 r hr), fun r h1 h2 => (ln r h2).trans (i4 r h1 h2), fun k hk => ?_, fun i j hij hj => ?_, fun w hw => ?_⟩
  · have h := i5 k hk
    have h5 := (ha k hk).1.1
    have d := hD k hk
    rcases (show t = 0 ∨ t = 1 by omega) with rfl | rfl
    · have e : isN (nI (D k)) 200 ∧ num (nI (D k)) + num (X.2.1 1 k) ≤ 200 := zon_N (L := 200) (z := num (X.2.1 1 k)) (by decide) (by have := h.2.1.2; omega) (by rw [← h.2.1.1]; exact h5)
      show shp X3 k
      unfold shp
      rw [(m1 1 (by decide) (by decide)).2, (m1 2 (by decide) (by decide)).2, (m1 3 (by decide) (by decide)).2, (m1 4 (by decide) (by decide)).2, (m1 5 (by decide) (by decide)).2, show X3.2.1 0 k = nI (D k) from m3 k hk]
      exact ⟨e.1, h.2.1, h.2.2.1, h.2.2.2.1, h.2.2.2.2.1, h.2.2.2.2.2.1, e.2, h.2.2.2.2.2.2.2⟩
    · have e : isN (nI (D k)) 120 ∧ num (nI (D k)) + num (X.2.1 3 k) ≤ 120 := zon_N (L := 120) (z := num (X.2.1 3 k)) (by decide) (by have := h.2.2.2.1.2; omega) (by rw [← h.2.2.2.1.1]; exact h5)
      show shp X3 k
      unfold shp
      rw [(m1 0 (by decide) (by decide)).2, (m1 1 (by decide) (by decide)).2, (m1 3 (by decide) (by decide)).2, (m1 4 (by decide) (by decide)).2, (m1 5 (by decide) (by decide)).2, show X3.2.1 2 k = nI (D k) from m3 k hk]
      exact ⟨h.1, h.2.1, e.1, h.2.2.2.1, h.2.2.2.2.1, h.2.2.2.2.2.1, h.2.2.2.2.2.2.1, e.2, h.2.2.2.2.2.2.2.2⟩
  · have h5 := (ha j hj).2 i hij
    show apt X3 i j
    unfold apt
    rcases (show t = 0 ∨ t = 1 by omega) with rfl | rfl
    · rw [(m1 1 (by decide) (by decide)).2, (m1 2 (by decide) (by decide)).2, (m1 3 (by decide) (by decide)).2, show X3.2.1 0 i = nI (D i) from m3 i (by omega), show X3.2.1 0 j = nI (D j) from m3 j hj]
      exact h5
    · rw [(m1 1 (by decide) (by decide)).2, (m1 0 (by decide) (by decide)).2, (m1 3 (by decide) (by decide)).2, show X3.2.1 2 i = nI (D i) from m3 i (by omega), show X3.2.1 2 j = nI (D j) from m3 j hj]
      exact fun h9 => h5 ⟨h9.2, h9.1⟩
  · rw [(m1 6 (by decide) (by omega)).2, (m1 7 (by decide) (by omega)).2, (m1 8 (by decide) (by omega)).2, (m1 9 (by decide) (by omega)).2, (m1 10 (by decide) (by omega)).2]
    exact i7 w hw
end
