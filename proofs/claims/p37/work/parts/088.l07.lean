section
variable {G : zG} {X X1 X2 X3 : zX} {Y : zY} {O : zO}
set_option maxRecDepth 100000 in
set_option maxHeartbeats 4000000 in
theorem ord_ex {n nw t : Nat} (hI : inv X n nw) (ht : t < 2) : ∃ o, ordR X t n o := by
  have hs : ∀ j, j < n → isN (X.2.1 (2 * t) j) 200 := fun j hj => (inv_axis hI ht hj).1
  have h : ∀ i, i ≤ n → ∃ f, slist f i (key4 X t i) := fun i => by
    induction i with
    | zero => exact fun _ => ⟨fun _ => 0, fun a b _ h => absurd h (Nat.not_lt_zero b), fun j h => absurd h (Nat.not_lt_zero j), fun v h => by obtain ⟨j, h, -⟩ := h; exact absurd h (Nat.not_lt_zero j)⟩
    | succ i ih =>
      intro hi
      obtain ⟨f, hf⟩ := ih (by omega)
      exact ⟨_, key4_new hs (show i < n by omega) hI.1 hf rfl⟩
  obtain ⟨f, hf⟩ := h n (Nat.le_refl n)
  exact ⟨_, (ordR_of hs hI.1 hf).1⟩
set_option maxRecDepth 100000 in
set_option maxHeartbeats 4000000 in
def gA : eb → Int32
  | none => -2005
  | some (_, g, _) => nI g
set_option maxRecDepth 100000 in
set_option maxHeartbeats 4000000 in
def spS (X : zX) (t n : Nat) (o : Nat → Nat) : eb → zX → Prop
  | none, X3 => keep0 X X3
  | some (c, g, s), X3 => spR X t n o c g s X3
set_option maxRecDepth 100000 in
set_option maxHeartbeats 4000000 in
theorem spR_keep {n nw t c g s : Nat} {o o2 : Nat → Nat} (hk : keep0 X X1) (ht : t < 2) (he : ∀ p, p < n → o2 p = o p) (h : spR X1 t n o2 c g s X3) : spR X t n o c g s X3 := by
  obtain ⟨D, hD, m1, m2, m3, m4⟩ := h
  have e1 : ∀ j, zN X1 t j = zN X t j := fun j => by
    show num (X1.2.1 (2 * t + 1) j) = num (X.2.1 (2 * t + 1) j)
    rw [keep0_f hk (by omega)]
  have hb : ∀ p, p ≤ n → eSb X1 t o2 p = eSb X t o p := fun p hp => sbf_congr (n := n) (fun q hq => by
    show zN X1 t (o2 q) = zN X t (o q)
    rw [he q hq, e1]) p hp
  refine ⟨D, fun p hp => ?_, fun r hr hne => ⟨(m1 r hr hne).1.trans (hk.1 r hr).1, (m1 r hr hne).2.trans (hk.1 r hr).2⟩, m2.trans (hk.1 _ (by omega)).1, m3, by rw [m4, hk.2]⟩
  have h1 := hD p hp
  rw [he p hp] at h1
  rw [h1]
  unfold pN
  rw [hb p (by omega)]
set_option maxRecDepth 100000 in
set_option maxHeartbeats 4000000 in
theorem d_spread {n nw t : Nat} {b2 c2 d2 : Int32} {o : Nat → Nat} {b : eb} (hI : inv X n nw) (hk : keep0 X X1) (ht : t < 2) (hv : evR X t n o b) : ZM G mL_deed 15 1 6 [.ref 0, .int 8, .int (zch t), .int b2, .int c2, .int d2] (zw X1 Y O) (dP Y O (gA b) (spS X t n o b)) :=
  deed_of (c_L_plain_8 (zch_c ht) (cx_spread (inv_keep hk hI) ht) (fun r w h => by
      obtain ⟨X3, o3, b3, h1, h2, h3⟩ := h
      rcases b3 with _ | ⟨c, g, s⟩
      · exact ok_thr h3.1 (by simp)
      · exact ok_int h3.1)) (fun r w h => by
      obtain ⟨X3, o3, b3, h1, h2, h3⟩ := h
      rcases b3 with _ | ⟨c, g, s⟩
      · exact ok_thr h3.1 (by simp)
      · exact ok_int h3.1) (fun r w h => by
    obtain ⟨X3, o3, b3, h1, h2, h3⟩ := h
    have h5 := evR_keep hk ht h1
    obtain ⟨h6, h7⟩ := ev_uniq hI ht h5 hv
    subst h6
    rcases b3 with _ | ⟨c, g, s⟩
    · exact ⟨la_nse h3.1, X3, h2, keep0_trans hk h3.2⟩
    · exact ⟨la_int h3.1, X3, h2, spR_keep (nw := nw) hk ht h7 h3.2⟩)
set_option maxRecDepth 100000 in
set_option maxHeartbeats 4000000 in
theorem nI_n2005 {c : Nat} (h : c ≤ 8000) : ¬ nI c = -2005 := fun h9 => absurd (congrArg Int32.toInt h9) (by
  rw [nI_toInt (by omega), show (-2005 : Int32).toInt = -2005 by decide]
  omega)
set_option maxRecDepth 100000 in
set_option maxHeartbeats 4000000 in
theorem sp_mv {n t c g s : Nat} {o : Nat → Nat} {X4 : zX} (hm : spR X t n o c g s X3) (hk : keep0 X3 X4) : lg_cmp X4.2.2.2 (X.2.2.2 + (nI c).toInt64) = 0 := by
  obtain ⟨D, -, -, -, -, h4⟩ := hm
  rw [hk.2, h4]
  exact lg_self _
set_option maxRecDepth 100000 in
set_option maxHeartbeats 4000000 in
theorem sp_rows {n t c g s : Nat} {o : Nat → Nat} (hm : spR X t n o c g s X3) : ∀ r, r ≤ 10 → r ≠ 2 * t → X3.2.1 r = X.2.1 r := by
  obtain ⟨D, -, h, -⟩ := hm
  exact fun r hr hne => (h r hr hne).2
set_option maxRecDepth 100000 in
set_option maxHeartbeats 4000000 in
theorem sp_gap {n nw t c g s p : Nat} {o : Nat → Nat} (hI : inv X n nw) (ht : t < 2) (hv : evR X t n o (some (c, g, s))) (hm : spR X t n o c g s X3) (hp : p + 1 < n) : X3.2.1 (2 * t) (o (p + 1)) = X3.2.1 (2 * t) (o p) + X3.2.1 (2 * t + 1) (o p) + nI g := by
  obtain ⟨-, -, hpos, -⟩ := sp_facts hI ht hv hm
  have z := zN_le hI ht hv.1 (show p < n by omega)
  rw [hpos (p + 1) hp, hpos p (by omega), sp_rows hm (2 * t + 1) (by omega) (by omega), z.1, nI_add, nI_add]
  congr 1
  have h := pN_next (eSb X t o) (zN X t (o p)) g s p rfl
  omega
set_option maxRecDepth 100000 in
set_option maxHeartbeats 4000000 in
theorem sp_ev0 {n nw t c g s : Nat} {o : Nat → Nat} (hI : inv X n nw) (ht : t < 2) (hv : evR X t n o (some (c, g, s))) (hm : spR X t n o c g s X3) : evV X3 t n = 0 := by
  obtain ⟨h1, h2, -⟩ := sp_facts hI ht hv hm
  exact (ev_val h1 ht h2).symm
set_option maxRecDepth 100000 in
set_option maxHeartbeats 4000000 in
theorem row_up {n k p : Nat} {t : Nat} {o : Nat → Nat} {f : Nat → Int32} (ho : ordR X t n o) (hf : ∀ q, q < n → o q < k → f q = nI (o q)) (hp : p < n) (hk : o p = k) : ∀ q, q < n → o q < k + 1 → upd f p (nI k) q = nI (o q) := fun q hq h => by
  by_cases e : q = p
  · rw [e, pk_us, hk]
  · rw [pk_un e]
    refine hf q hq ?_
    have h2 : o q ≠ k := fun h9 => by
      rcases Nat.lt_or_ge q p with h3 | h3
      · exact ordR_inj ho h3 hp (h9.trans hk.symm)
      · exact ordR_inj ho (show p < q by omega) hq (hk.trans h9.symm)
    omega
end
