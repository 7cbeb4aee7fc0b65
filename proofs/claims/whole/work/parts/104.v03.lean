section
variable {G : zG} {X X1 : zX} {Y : zY} {O : zO}
set_option maxRecDepth 100000 in
set_option maxHeartbeats 4000000 in
def good (X : zX) (Y : zY) : Prop := ∃ n nw, inv X n nw ∧ rel X Y n nw
set_option maxRecDepth 100000 in
set_option maxHeartbeats 4000000 in
def mOut (X2 : zX) (O : zO) (L : List String) (r0 : zRes) : zRes → zWorld → Prop := fun r w => ∃ (Y2 : zY) (a : Int32), r = .inl (some (.int a)) ∧ w = zw X2 Y2 O ∧ Y2.2.1 0 = lcode L r0 ∧ (∀ v, r0 = .inl (some (.int v)) → a = v) ∧ good X2 Y2
/- the c. and the reference agree on a call -/
set_option maxRecDepth 100000 in
set_option maxHeartbeats 4000000 in
def PR (G : zG) (MX MY : zM) (dx dy : Nat) (avx avy : List Value) (L : List String) (X : zX) (Y : zY) (B : Bool) : Prop := ∃ S : zRes → zX → Prop, (∀ O, ZM G MX dx 1 6 (.ref 0 :: avx) (zw X Y O) (cOut Y O S)) ∧ (∀ r X2, S r X2 → okRes L r) ∧ (∀ r X2 O, S r X2 → ZM G MY dy 0 0 (.ref 77 :: avy) (zw X2 Y O) (mOut X2 O L r)) ∧ (B = true → ∀ v X2, S (.inl (some (.int v))) X2 → bit v)
section
variable {MX MY : zM} {dx dy : Nat} {avx avy : List Value} {L : List String} {B : Bool}
set_option maxRecDepth 100000 in
set_option maxHeartbeats 4000000 in
theorem PR.r {r0 : zRes} {X' : zX} {a : Int32} {Y2 : zY} (hx : ∀ O, ZM G MX dx 1 6 (.ref 0 :: avx) (zw X Y O) (zR r0 (zw X' Y O))) (ho : okRes L r0) (hy : ∀ O, ZM G MY dy 0 0 (.ref 77 :: avy) (zw X' Y O) (mR X' O a Y2)) (hth : Y2.2.1 0 = lcode L r0) (ha : ∀ v, r0 = .inl (some (.int v)) → a = v) (hg : good X' Y2) (hb : B = true → ∀ v, r0 = .inl (some (.int v)) → bit v) : PR G MX MY dx dy avx avy L X Y B :=
  ⟨fun r X2 => r = r0 ∧ X2 = X', fun O => (hx O).mono fun r w h => ⟨X', h.2, h.1, rfl⟩, fun r X2 h => by rw [h.1]; exact ho, fun r X2 O h => by
    obtain ⟨rfl, rfl⟩ := h
    exact (hy O).mono fun r2 w h => ⟨Y2, a, h.1, h.2, hth, ha, hg⟩, fun hB v X2 h => hb hB v h.1.symm⟩
set_option maxRecDepth 100000 in
set_option maxHeartbeats 4000000 in
theorem good_thr {e : Int32} (h : good X Y) : good X (yint Y 0 e) := by
  obtain ⟨n, nw, h1, h2⟩ := h
  exact ⟨n, nw, h1, rel_thr h2 e⟩
set_option maxRecDepth 100000 in
set_option maxHeartbeats 4000000 in
theorem PR.e {E : String} {c : Int32} (hx : ∀ O, ZM G MX dx 1 6 (.ref 0 :: avx) (zw X Y O) (zTh E (zw X Y O))) (hE : E ∈ L) (hy : ∀ O, ZM G MY dy 0 0 (.ref 77 :: avy) (zw X Y O) (mR X O 0 (yth Y c))) (hc : c = lidx L E) (hg : good X Y) : PR G MX MY dx dy avx avy L X Y B :=
  PR.r (r0 := .inr E) (fun O => (hx O).toT) (Or.inr ⟨E, hE, rfl⟩) hy hc (fun v h => by cases h) (good_thr (good_thr hg)) (fun _ v h => by cases h)
set_option maxRecDepth 100000 in
set_option maxHeartbeats 4000000 in
theorem PR.a {v : Int32} (hx : ∀ O, ZM G MX dx 1 6 (.ref 0 :: avx) (zw X Y O) (zEq (some (.int v)) (zw X Y O))) (hy : ∀ O, ZM G MY dy 0 0 (.ref 77 :: avy) (zw X Y O) (mR X O v (yint Y 0 0))) (hg : good X Y) (hb : B = true → bit v) : PR G MX MY dx dy avx avy L X Y B :=
  PR.r (r0 := .inl (some (.int v))) (fun O => (hx O).toR) (Or.inl ⟨v, rfl⟩) hy rfl (fun v2 h => by cases h; rfl) (good_thr hg) (fun hB v2 h => by cases h; exact hb hB)
end
set_option maxRecDepth 100000 in
set_option maxHeartbeats 4000000 in
theorem rng (s : Int32) {n : Nat} (h : n < 2 ^ 31) : (s < 0 ∨ nI n ≤ s) ∨ ∃ k, k < n ∧ s = nI k := by
  rcases pk_ix s h with h1 | h1 | h1
  · exact Or.inl (Or.inl h1)
  · exact Or.inl (Or.inr h1)
  · exact Or.inr h1
set_option maxRecDepth 100000 in
set_option maxHeartbeats 4000000 in
theorem axs (c : Int32) : (c = zch 0) ∨ (c = zch 1) ∨ (¬ c = 120 ∧ ¬ c = 121) := by
  by_cases h : c = 120
  · exact Or.inl h
  · by_cases h2 : c = 121
    · exact Or.inr (Or.inl h2)
    · exact Or.inr (Or.inr ⟨h, h2⟩)
set_option maxRecDepth 100000 in
set_option maxHeartbeats 4000000 in
theorem inv_n {n nw : Nat} (hI : inv X n nw) : X.1 0 = nI n := hI.2.2.1 0 (by decide)
set_option maxRecDepth 100000 in
set_option maxHeartbeats 4000000 in
theorem inv_w {n nw : Nat} (hI : inv X n nw) : X.1 6 = nI nw := hI.2.2.2.1 6 (by decide) (by decide)
set_option maxRecDepth 100000 in
set_option maxHeartbeats 4000000 in
theorem inv_half {n nw k : Nat} (hI : inv X n nw) (hk : k < n) : 1 ≤ X.2.1 1 k / 2 := by
  have h := hI.2.2.2.2.1 k hk
  have h2 := h.2.1.2
  rw [h.2.1.1, show (2 : Int32) = nI 2 from rfl, pk_div (by omega) (by decide) (by decide), show (1 : Int32) = nI 1 from rfl, nI_leI (by decide) (by omega)]
  have := h.2.2.2.2.1
  omega
set_option maxRecDepth 100000 in
set_option maxHeartbeats 4000000 in
theorem zb_bit (p : Prop) [Decidable p] : bit (zb p) := by
  unfold zb; split
  · exact Or.inr rfl
  · exact Or.inl rfl
set_option maxRecDepth 100000 in
set_option maxHeartbeats 4000000 in
theorem add_cond {w h : Int32} : (w < 2 ∨ 200 < w ∨ h < 1 ∨ ¬ h ≤ 120) ↔ ¬ ((¬ w < 2 ∧ ¬ 200 < w) ∧ (¬ h < 1 ∧ ¬ 120 < h)) := by
  rw [Int32.not_le]
  by_cases a : w < 2 <;> by_cases b : 200 < w <;> by_cases c : h < 1 <;> by_cases d : 120 < h <;> simp [a, b, c, d]
set_option maxRecDepth 100000 in
set_option maxHeartbeats 4000000 in
theorem inv_x {n nw : Nat} (hI : inv X n nw) : xlen X n := ⟨hI.2.2.1 0 (by decide), hI.2.2.1 1 (by decide), hI.2.2.1 2 (by decide), hI.2.2.1 3 (by decide), hI.2.2.1 4 (by decide), hI.2.2.1 5 (by decide)⟩
set_option maxRecDepth 100000 in
set_option maxHeartbeats 4000000 in
theorem p_addShape (hg : good X Y) (l t w h : Int32) : PR G mX8_addShape mX9_addShape 4 2 [.int l, .int t, .int w, .int h] [.int l, .int t, .int w, .int h] [eIAE, eISE, eUOE] X Y false := by
  obtain ⟨n, nw, hI, hR⟩ := hg
  have h4 := hI.1
  have hn := inv_n hI
  have hg : good X Y := ⟨n, nw, hI, hR⟩
  have hA : ∀ O, ZM G mX8_addShape 4 1 6 [.ref 0, .int l, .int t, .int w, .int h] (zw X Y O) (zR (A_addShape X n l t w h).1 (zw (A_addShape X n l t w h).2 Y O)) := fun O => c_X8_addShape (inv_x hI) h4
  have hB : ∀ O X1, ZM G mX9_addShape 2 0 0 [.ref 77, .int l, .int t, .int w, .int h] (zw X1 Y O) (mR X1 O (B_addShape X Y n l t w h).1 (B_addShape X Y n l t w h).2) := fun O X1 => c_X9_addShape hR
  have ce : ∀ (E : String) (c : Int32), A_addShape X n l t w h = (.inr E, X) → B_addShape X Y n l t w h = (0, yth Y c) → E ∈ [eIAE, eISE, eUOE] → c = lidx [eIAE, eISE, eUOE] E → PR G mX8_addShape mX9_addShape 4 2 [.int l, .int t, .int w, .int h] [.int l, .int t, .int w, .int h] [eIAE, eISE, eUOE] X Y false := fun E c e1 e2 h1 h2 =>
    PR.e (E := E) (c := c) (fun O => by have h9 := hA O; rw [e1] at h9; exact h9) h1 (fun O => by have h9 := hB O X; rw [e2] at h9; exact h9) h2 hg
  by_cases c1 : ¬ w < 2 ∧ ¬ 200 < w
  · by_cases c2 : ¬ h < 1 ∧ ¬ 120 < h
    · have n1 : ¬ (w < 2 ∨ 200 < w ∨ h < 1 ∨ ¬ h ≤ 120) := fun h9 => add_cond.mp h9 ⟨c1, c2⟩
      by_cases c3 : zon 200 l w
      · by_cases c4 : zon 120 t h
        · by_cases c5 : n = 4
          · refine ce eISE 2 ?_ ?_ (by simp) (by decide)
            · unfold A_addShape; rw [if_neg n1, if_neg (fun h9 => h9 ⟨c3, c4⟩), if_pos (by rw [c5]; decide)]
            · unfold B_addShape; rw [if_neg (fun h9 => h9 c1), if_neg (fun h9 => h9 c2), if_neg (fun h9 => h9 c3), if_neg (fun h9 => h9 c4), if_pos (by rw [c5]; rfl)]
          · have lt4 : nI n < 4 := nI_lt (b := 4) (by omega) (by decide)
            have ne4 : ¬ nI n = 4 := fun h9 => c5 ((nI_eq (b := 4) (by omega) (by decide)).mp h9)
            by_cases c6 : rfirst (pover X (-1) l t w h) 0 n = -1
            · have e1 : A_addShape X n l t w h = (.inl (some (.int (nI n))), xadd X n l t w h) := by
                unfold A_addShape; rw [if_neg n1, if_neg (fun h9 => h9 ⟨c3, c4⟩), if_neg (fun h9 => h9 lt4), if_neg (fun h9 => h9 c6)]
              have e2 : B_addShape X Y n l t w h = (nI n, yadd Y n l t w h) := by
                unfold B_addShape; rw [if_neg (fun h9 => h9 c1), if_neg (fun h9 => h9 c2), if_neg (fun h9 => h9 c3), if_neg (fun h9 => h9 c4), if_neg ne4, if_neg (fun h9 => h9 c6)]
              exact PR.r (r0 := .inl (some (.int (nI n)))) (X' := xadd X n l t w h) (a := nI n) (Y2 := yadd Y n l t w h) (fun O => by have h9 := hA O; rw [e1] at h9; exact h9) (Or.inl ⟨_, rfl⟩) (fun O => by have h9 := hB O (xadd X n l t w h); rw [e2] at h9; exact h9) rfl (fun v h9 => by cases h9; rfl) ⟨n + 1, nw, inv_add hI (by omega) c1 c2 c3 c4 c6, rel_add hR (by omega) l t w h⟩ (fun h9 => by cases h9)
            · refine ce eUOE 3 ?_ ?_ (by simp) (by decide)
              · unfold A_addShape; rw [if_neg n1, if_neg (fun h9 => h9 ⟨c3, c4⟩), if_neg (fun h9 => h9 lt4), if_pos c6]
              · unfold B_addShape; rw [if_neg (fun h9 => h9 c1), if_neg (fun h9 => h9 c2), if_neg (fun h9 => h9 c3), if_neg (fun h9 => h9 c4), if_neg ne4, if_pos c6]
        · refine ce eIAE 1 ?_ ?_ (by simp) (by decide)
          · unfold A_addShape; rw [if_neg n1, if_pos (fun h9 => c4 h9.2)]
          · unfold B_addShape; rw [if_neg (fun h9 => h9 c1), if_neg (fun h9 => h9 c2), if_neg (fun h9 => h9 c3), if_pos c4]
      · refine ce eIAE 1 ?_ ?_ (by simp) (by decide)
        · unfold A_addShape; rw [if_neg n1, if_pos (fun h9 => c3 h9.1)]
        · unfold B_addShape; rw [if_neg (fun h9 => h9 c1), if_neg (fun h9 => h9 c2), if_pos c3]
    · refine ce eIAE 1 ?_ ?_ (by simp) (by decide)
      · unfold A_addShape; rw [if_pos (add_cond.mpr (fun h9 => c2 h9.2))]
      · unfold B_addShape; rw [if_neg (fun h9 => h9 c1), if_pos c2]
  · refine ce eIAE 1 ?_ ?_ (by simp) (by decide)
    · unfold A_addShape; rw [if_pos (add_cond.mpr (fun h9 => c1 h9.1))]
    · unfold B_addShape; rw [if_pos c1]
set_option maxRecDepth 100000 in
set_option maxHeartbeats 4000000 in
theorem zb_zb {p : Prop} [Decidable p] : zb (¬ zb p = 0) = zb p := by
  by_cases h : p <;> simp [zb, h]
set_option maxRecDepth 100000 in
set_option maxHeartbeats 4000000 in
theorem zb_self {v : Int32} (h : v = 0 ∨ v = 1) : zb (¬ v = 0) = v := by
  rcases h with h | h <;> rw [h] <;> decide
set_option maxRecDepth 100000 in
set_option maxHeartbeats 4000000 in
theorem p_setLocked (hg : good X Y) (s : Int32) (p : Prop) [Decidable p] : PR G mX8_setLocked mX9_setLocked 4 2 [.int s, .int (zb p)] [.int s, .int (zb p)] [eIOOBE] X Y true := by
  obtain ⟨n, nw, hI, hR⟩ := hg
  have h4 := hI.1
  have hn := inv_n hI
  have hg : good X Y := ⟨n, nw, hI, hR⟩
  rcases rng s (show n < 2 ^ 31 by omega) with h | ⟨k, hk, rfl⟩
  · exact PR.e (E := eIOOBE) (c := 1) (fun O => c_X8_setLocked_out hn h) (by simp) (fun O => c_X9_setLocked_out hR h) (by show (1 : Int32) = lidx [eIOOBE] eIOOBE; decide) hg
  · have hl := (hI.2.2.2.2.1 k hk).2.2.2.2.2.2.2.2.2
    exact PR.r (r0 := .inl (some (.int (zb (¬ X.2.1 4 k = 0))))) (X' := xrow X 4 (upd (X.2.1 4) k (zb p)) (X.1 4)) (fun O => by have h9 := c_X8_setLocked (G := G) (X := X) (Y := Y) (O := O) hn h4 hk (b := zb p); rw [zb_zb] at h9; exact h9) (Or.inl ⟨_, rfl⟩) (fun O => c_X9_setLocked hR hk hl) rfl (fun v h9 => by cases h9; exact (zb_self hl).symm) ⟨n, nw, inv_lock hI hk, rel_lock hR hk _ _⟩ (fun _ v h9 => by cases h9; exact zb_bit _)
set_option maxRecDepth 100000 in
set_option maxHeartbeats 4000000 in
theorem p_startOf (hg : good X Y) (s c : Int32) : PR G mX8_startOf mX9_startOf 4 2 [.int s, .int c] [.int s, .int c] [eIOOBE, eIAE] X Y false := by
  obtain ⟨n, nw, hI, hR⟩ := hg
  have h4 := hI.1
  have hn := inv_n hI
  have hg : good X Y := ⟨n, nw, hI, hR⟩
  rcases rng s (show n < 2 ^ 31 by omega) with h | ⟨k, hk, rfl⟩
  · exact PR.e (E := eIOOBE) (c := 1) (fun O => c_X8_startOf_out hn h) (by simp) (fun O => c_X9_startOf_out hR h) (by show (1 : Int32) = lidx [eIOOBE, eIAE] eIOOBE; decide) hg
  · rcases axs c with rfl | rfl | ⟨h1, h2⟩
    · exact PR.a (fun O => c_X8_startOf hn h4 hk (t := 0) (by decide)) (fun O => c_X9_startOf hR hk (t := 0) (by decide)) hg (fun h9 => by cases h9)
    · exact PR.a (fun O => c_X8_startOf hn h4 hk (t := 1) (by decide)) (fun O => c_X9_startOf hR hk (t := 1) (by decide)) hg (fun h9 => by cases h9)
    · exact PR.e (E := eIAE) (c := 2) (fun O => c_X8_startOf_ax hn h4 hk h1 h2) (by simp) (fun O => c_X9_startOf_ax hR hk h1 h2) (by show (2 : Int32) = lidx [eIOOBE, eIAE] eIAE; decide) hg
set_option maxRecDepth 100000 in
set_option maxHeartbeats 4000000 in
theorem p_sizeOf (hg : good X Y) (s c : Int32) : PR G mX8_sizeOf mX9_sizeOf 4 2 [.int s, .int c] [.int s, .int c] [eIOOBE, eIAE] X Y false := by
  obtain ⟨n, nw, hI, hR⟩ := hg
  have h4 := hI.1
  have hn := inv_n hI
  have hg : good X Y := ⟨n, nw, hI, hR⟩
  rcases rng s (show n < 2 ^ 31 by omega) with h | ⟨k, hk, rfl⟩
  · exact PR.e (E := eIOOBE) (c := 1) (fun O => c_X8_sizeOf_out hn h) (by simp) (fun O => c_X9_sizeOf_out hR h) (by show (1 : Int32) = lidx [eIOOBE, eIAE] eIOOBE; decide) hg
  · rcases axs c with rfl | rfl | ⟨h1, h2⟩
    · exact PR.a (fun O => c_X8_sizeOf hn h4 hk (t := 0) (by decide)) (fun O => c_X9_sizeOf hR hk (t := 0) (by decide)) hg (fun h9 => by cases h9)
    · exact PR.a (fun O => c_X8_sizeOf hn h4 hk (t := 1) (by decide)) (fun O => c_X9_sizeOf hR hk (t := 1) (by decide)) hg (fun h9 => by cases h9)
    · exact PR.e (E := eIAE) (c := 2) (fun O => c_X8_sizeOf_ax hn h4 hk h1 h2) (by simp) (fun O => c_X9_sizeOf_ax hR hk h1 h2) (by show (2 : Int32) = lidx [eIOOBE, eIAE] eIAE; decide) hg
set_option maxRecDepth 100000 in
set_option maxHeartbeats 4000000 in
theorem p_moveReason (hg : good X Y) (s l t : Int32) : PR G mX8_moveReason mX9_moveReason 5 3 [.int s, .int l, .int t] [.int s, .int l, .int t] [eIOOBE] X Y false := by
  obtain ⟨n, nw, hI, hR⟩ := hg
  have h4 := hI.1
  have hn := inv_n hI
  have hg : good X Y := ⟨n, nw, hI, hR⟩
  rcases rng s (show n < 2 ^ 31 by omega) with h | ⟨k, hk, rfl⟩
  · exact PR.e (E := eIOOBE) (c := 1) (fun O => c_X8_moveReason_out hn h) (by simp) (fun O => c_X9_moveReason_out hR h) (by show (1 : Int32) = lidx [eIOOBE] eIOOBE; decide) hg
  · exact PR.a (fun O => c_X8_moveReason hn h4 hk) (fun O => c_X9_moveReason hR hk) hg (fun h9 => by cases h9)
set_option maxRecDepth 100000 in
set_option maxHeartbeats 4000000 in
theorem mvh_ok {n k : Nat} {l t : Int32} (h1 : ¬ mvh X n k l t = 108) (h2 : ¬ mvh X n k l t = 115) (h3 : ¬ mvh X n k l t = 111) : zon 200 l (X.2.1 1 k) ∧ zon 120 t (X.2.1 3 k) ∧ rfirst (pover X (nI k) l t (X.2.1 1 k) (X.2.1 3 k)) 0 n = -1 := by
  unfold mvh at h1 h2 h3
  by_cases c1 : ¬ X.2.1 4 k = 0
  · rw [if_pos c1] at h1; exact absurd rfl h1
  · rw [if_neg c1] at h2 h3
    by_cases c2 : zon 200 l (X.2.1 1 k) ∧ zon 120 t (X.2.1 3 k)
    · rw [if_neg (fun h9 => h9 c2)] at h3
      by_cases c3 : rfirst (pover X (nI k) l t (X.2.1 1 k) (X.2.1 3 k)) 0 n = -1
      · exact ⟨c2.1, c2.2, c3⟩
      · rw [if_neg c3] at h3; exact absurd rfl h3
    · rw [if_pos c2] at h2; exact absurd rfl h2
set_option maxRecDepth 100000 in
set_option maxHeartbeats 4000000 in
theorem grh_ok {n k : Nat} (h : grh X n k = 110) : ¬ zneed (X.2.1 1 k) (X.2.1 5 k) ≤ X.2.1 3 k ∧ zon 120 (X.2.1 2 k) (zneed (X.2.1 1 k) (X.2.1 5 k)) ∧ rfirst (pover X (nI k) (X.2.1 0 k) (X.2.1 2 k) (X.2.1 1 k) (zneed (X.2.1 1 k) (X.2.1 5 k))) 0 n = -1 := by
  unfold grh at h
  by_cases c1 : zneed (X.2.1 1 k) (X.2.1 5 k) ≤ X.2.1 3 k
  · rw [if_pos c1] at h; exact absurd h (by decide)
  · rw [if_neg c1] at h
    by_cases c2 : ¬ X.2.1 4 k = 0
    · rw [if_pos c2] at h; exact absurd h (by decide)
    · rw [if_neg c2] at h
      by_cases c3 : zon 120 (X.2.1 2 k) (zneed (X.2.1 1 k) (X.2.1 5 k))
      · rw [if_neg (fun h9 => h9 c3)] at h
        by_cases c4 : rfirst (pover X (nI k) (X.2.1 0 k) (X.2.1 2 k) (X.2.1 1 k) (zneed (X.2.1 1 k) (X.2.1 5 k))) 0 n = -1
        · exact ⟨c1, c3, c4⟩
        · rw [if_neg c4] at h; exact absurd h (by decide)
      · rw [if_pos c3] at h; exact absurd h (by decide)
set_option maxRecDepth 100000 in
set_option maxHeartbeats 4000000 in
theorem p_moveTo (hg : good X Y) (s l t : Int32) : PR G mX8_moveTo mX9_moveTo 5 3 [.int s, .int l, .int t] [.int s, .int l, .int t] [eIOOBE, eISE, eIAE, eUOE] X Y false := by
  obtain ⟨n, nw, hI, hR⟩ := hg
  have h4 := hI.1
  have hn := inv_n hI
  have hg : good X Y := ⟨n, nw, hI, hR⟩
  rcases rng s (show n < 2 ^ 31 by omega) with h | ⟨k, hk, rfl⟩
  · exact PR.e (E := eIOOBE) (c := 1) (fun O => c_X8_moveTo_out hn h) (by simp) (fun O => c_X9_moveTo_out hR h) (by show (1 : Int32) = lidx [eIOOBE, eISE, eIAE, eUOE] eIOOBE; decide) hg
  · have hA : ∀ O, ZM G mX8_moveTo 5 1 6 [.ref 0, .int (nI k), .int l, .int t] (zw X Y O) (zR (A_moveTo X n k l t).1 (zw (A_moveTo X n k l t).2 Y O)) := fun O => c_X8_moveTo hn h4 hk
    have hB : ∀ O X1, ZM G mX9_moveTo 3 0 0 [.ref 77, .int (nI k), .int l, .int t] (zw X1 Y O) (mR X1 O (B_moveTo X Y n k l t).1 (B_moveTo X Y n k l t).2) := fun O X1 => c_X9_moveTo hR hk
    have ce : ∀ (E : String) (c : Int32), A_moveTo X n k l t = (.inr E, X) → B_moveTo X Y n k l t = (0, yth Y c) → E ∈ [eIOOBE, eISE, eIAE, eUOE] → c = lidx [eIOOBE, eISE, eIAE, eUOE] E → PR G mX8_moveTo mX9_moveTo 5 3 [.int (nI k), .int l, .int t] [.int (nI k), .int l, .int t] [eIOOBE, eISE, eIAE, eUOE] X Y false := fun E c e1 e2 h1 h2 =>
      PR.e (E := E) (c := c) (fun O => by have h9 := hA O; rw [e1] at h9; exact h9) h1 (fun O => by have h9 := hB O X; rw [e2] at h9; exact h9) h2 hg
    by_cases c1 : mvh X n k l t = 108
    · exact ce eISE 2 (by unfold A_moveTo; rw [if_pos c1]) (by unfold B_moveTo; rw [if_pos c1]) (by simp) (by decide)
    · by_cases c2 : mvh X n k l t = 115
      · exact ce eIAE 3 (by unfold A_moveTo; rw [if_neg c1, if_pos c2]) (by unfold B_moveTo; rw [if_neg c1, if_pos c2]) (by simp) (by decide)
      · by_cases c3 : mvh X n k l t = 111
        · exact ce eUOE 4 (by unfold A_moveTo; rw [if_neg c1, if_neg c2, if_pos c3]) (by unfold B_moveTo; rw [if_neg c1, if_neg c2, if_pos c3]) (by simp) (by decide)
        · obtain ⟨q1, q2, q3⟩ := mvh_ok c1 c2 c3
          have e1 : A_moveTo X n k l t = (.inl (some (.int (iabs (l - X.2.1 0 k) + iabs (t - X.2.1 2 k)))), xmv (xrow (xrow X 0 (upd (X.2.1 0) k l) (X.1 0)) 2 (upd (X.2.1 2) k t) (X.1 2)) (X.2.2.2 + (iabs (l - X.2.1 0 k) + iabs (t - X.2.1 2 k)).toInt64)) := by
            unfold A_moveTo; rw [if_neg c1, if_neg c2, if_neg c3]
          have e2 : B_moveTo X Y n k l t = (iabs (l - X.2.1 0 k) + iabs (t - X.2.1 2 k), ymv (yarr (yint Y 0 0) 0 (upd (upd (Y.1 0) (2 * k) l) (2 * k + 1) t)) (X.2.2.2 + (iabs (l - X.2.1 0 k) + iabs (t - X.2.1 2 k)).toInt64)) := by
            unfold B_moveTo; rw [if_neg c1, if_neg c2, if_neg c3, hR.2.2.2.2.2.2.1]
          exact PR.r (r0 := .inl (some (.int (iabs (l - X.2.1 0 k) + iabs (t - X.2.1 2 k))))) (a := iabs (l - X.2.1 0 k) + iabs (t - X.2.1 2 k)) (X' := xmv (xrow (xrow X 0 (upd (X.2.1 0) k l) (X.1 0)) 2 (upd (X.2.1 2) k t) (X.1 2)) (X.2.2.2 + (iabs (l - X.2.1 0 k) + iabs (t - X.2.1 2 k)).toInt64)) (Y2 := ymv (yarr (yint Y 0 0) 0 (upd (upd (Y.1 0) (2 * k) l) (2 * k + 1) t)) (X.2.2.2 + (iabs (l - X.2.1 0 k) + iabs (t - X.2.1 2 k)).toInt64)) (fun O => by have h9 := hA O; rw [e1] at h9; exact h9) (Or.inl ⟨_, rfl⟩) (fun O => by have h9 := hB O (xmv (xrow (xrow X 0 (upd (X.2.1 0) k l) (X.1 0)) 2 (upd (X.2.1 2) k t) (X.1 2)) (X.2.2.2 + (iabs (l - X.2.1 0 k) + iabs (t - X.2.1 2 k)).toInt64)); rw [e2] at h9; exact h9) rfl (fun v h9 => by cases h9; rfl) ⟨n, nw, inv_move hI hk q1 q2 q3, rel_move hR hk _ _ _ _ _⟩ (fun h9 => by cases h9)
set_option maxRecDepth 100000 in
set_option maxHeartbeats 4000000 in
theorem p_setText (hg : good X Y) (s l : Int32) : PR G mX8_setText mX9_setText 4 2 [.int s, .int l] [.int s, .int l] [eIOOBE, eIAE] X Y false := by
  obtain ⟨n, nw, hI, hR⟩ := hg
  have h4 := hI.1
  have hn := inv_n hI
  have hg : good X Y := ⟨n, nw, hI, hR⟩
  rcases rng s (show n < 2 ^ 31 by omega) with h | ⟨k, hk, rfl⟩
  · exact PR.e (E := eIOOBE) (c := 1) (fun O => c_X8_setText_out hn h) (by simp) (fun O => c_X9_setText_out hR h) (by show (1 : Int32) = lidx [eIOOBE, eIAE] eIOOBE; decide) hg
  · have hw := inv_half hI hk
    have hA : ∀ O, ZM G mX8_setText 4 1 6 [.ref 0, .int (nI k), .int l] (zw X Y O) (zR (A_setText X k l).1 (zw (A_setText X k l).2 Y O)) := fun O => c_X8_setText hn h4 hk hw
    have hB : ∀ O X1, ZM G mX9_setText 2 0 0 [.ref 77, .int (nI k), .int l] (zw X1 Y O) (mR X1 O (B_setText X Y k l).1 (B_setText X Y k l).2) := fun O X1 => c_X9_setText hR hk hw
    have ce : ∀ (E : String) (c : Int32), A_setText X k l = (.inr E, X) → B_setText X Y k l = (0, yth Y c) → E ∈ [eIOOBE, eIAE] → c = lidx [eIOOBE, eIAE] E → PR G mX8_setText mX9_setText 4 2 [.int (nI k), .int l] [.int (nI k), .int l] [eIOOBE, eIAE] X Y false := fun E c e1 e2 h1 h2 =>
      PR.e (E := E) (c := c) (fun O => by have h9 := hA O; rw [e1] at h9; exact h9) h1 (fun O => by have h9 := hB O X; rw [e2] at h9; exact h9) h2 hg
    by_cases c1 : ¬ l < 0 ∧ ¬ 400 < l
    · have e1 : A_setText X k l = (.inl (some (.int (zneed (X.2.1 1 k) l))), xrow X 5 (upd (X.2.1 5) k l) (X.1 5)) := by
        unfold A_setText; rw [if_neg (fun h9 => h9.elim c1.1 (fun h8 => c1.2 (Int32.not_le.mp h8)))]
      have e2 : B_setText X Y k l = (zneed (X.2.1 1 k) l, yarr (yint Y 0 0) 2 (upd (Y.1 2) k l)) := by
        unfold B_setText; rw [if_neg (fun h9 => h9 c1)]
      exact PR.r (r0 := .inl (some (.int (zneed (X.2.1 1 k) l)))) (a := zneed (X.2.1 1 k) l) (X' := xrow X 5 (upd (X.2.1 5) k l) (X.1 5)) (Y2 := yarr (yint Y 0 0) 2 (upd (Y.1 2) k l)) (fun O => by have h9 := hA O; rw [e1] at h9; exact h9) (Or.inl ⟨_, rfl⟩) (fun O => by have h9 := hB O (xrow X 5 (upd (X.2.1 5) k l) (X.1 5)); rw [e2] at h9; exact h9) rfl (fun v h9 => by cases h9; rfl) ⟨n, nw, inv_text hI hk c1.1 c1.2, rel_text hR hk _ _⟩ (fun h9 => by cases h9)
    · exact ce eIAE 2 (by unfold A_setText; rw [if_pos (by by_cases a : l < 0; exact Or.inl a; exact Or.inr (fun h8 => c1 ⟨a, Int32.not_lt.mpr h8⟩))]) (by unfold B_setText; rw [if_pos c1]) (by simp) (by decide)
set_option maxRecDepth 100000 in
set_option maxHeartbeats 4000000 in
theorem p_fits (hg : good X Y) (s : Int32) : PR G mX8_fits mX9_fits 4 3 [.int s] [.int s] [eIOOBE] X Y true := by
  obtain ⟨n, nw, hI, hR⟩ := hg
  have h4 := hI.1
  have hn := inv_n hI
  have hg : good X Y := ⟨n, nw, hI, hR⟩
  rcases rng s (show n < 2 ^ 31 by omega) with h | ⟨k, hk, rfl⟩
  · exact PR.e (E := eIOOBE) (c := 1) (fun O => c_X8_fits_out hn h) (by simp) (fun O => c_X9_fits_out hR h) (by show (1 : Int32) = lidx [eIOOBE] eIOOBE; decide) hg
  · exact PR.a (fun O => c_X8_fits hn h4 hk (inv_half hI hk)) (fun O => c_X9_fits hR hk (inv_half hI hk)) hg (fun _ => zb_bit _)
set_option maxRecDepth 100000 in
set_option maxHeartbeats 4000000 in
theorem p_growReason (hg : good X Y) (s : Int32) : PR G mX8_growReason mX9_growReason 6 4 [.int s] [.int s] [eIOOBE] X Y false := by
  obtain ⟨n, nw, hI, hR⟩ := hg
  have h4 := hI.1
  have hn := inv_n hI
  have hg : good X Y := ⟨n, nw, hI, hR⟩
  rcases rng s (show n < 2 ^ 31 by omega) with h | ⟨k, hk, rfl⟩
  · exact PR.e (E := eIOOBE) (c := 1) (fun O => c_X8_growReason_out hn h) (by simp) (fun O => c_X9_growReason_out hR h) (by show (1 : Int32) = lidx [eIOOBE] eIOOBE; decide) hg
  · exact PR.a (fun O => c_X8_growReason hn h4 hk (inv_half hI hk)) (fun O => c_X9_growReason hR hk (inv_half hI hk)) hg (fun h9 => by cases h9)
set_option maxRecDepth 100000 in
set_option maxHeartbeats 4000000 in
theorem p_grow (hg : good X Y) (s : Int32) : PR G mX8_grow mX9_grow 6 4 [.int s] [.int s] [eIOOBE, eNSE, eISE, eUOE] X Y false := by
  obtain ⟨n, nw, hI, hR⟩ := hg
  have h4 := hI.1
  have hn := inv_n hI
  have hg : good X Y := ⟨n, nw, hI, hR⟩
  rcases rng s (show n < 2 ^ 31 by omega) with h | ⟨k, hk, rfl⟩
  · exact PR.e (E := eIOOBE) (c := 1) (fun O => c_X8_grow_out hn h) (by simp) (fun O => c_X9_grow_out hR h) (by show (1 : Int32) = lidx [eIOOBE, eNSE, eISE, eUOE] eIOOBE; decide) hg
  · have hw := inv_half hI hk
    have hA : ∀ O, ZM G mX8_grow 6 1 6 [.ref 0, .int (nI k)] (zw X Y O) (zR (A_grow X n k).1 (zw (A_grow X n k).2 Y O)) := fun O => c_X8_grow hn h4 hk hw
    have hB : ∀ O X1, ZM G mX9_grow 4 0 0 [.ref 77, .int (nI k)] (zw X1 Y O) (mR X1 O (B_grow X Y n k).1 (B_grow X Y n k).2) := fun O X1 => c_X9_grow hR hk hw
    have ce : ∀ (E : String) (c : Int32), A_grow X n k = (.inr E, X) → B_grow X Y n k = (0, yth Y c) → E ∈ [eIOOBE, eNSE, eISE, eUOE] → c = lidx [eIOOBE, eNSE, eISE, eUOE] E → PR G mX8_grow mX9_grow 6 4 [.int (nI k)] [.int (nI k)] [eIOOBE, eNSE, eISE, eUOE] X Y false := fun E c e1 e2 h1 h2 =>
      PR.e (E := E) (c := c) (fun O => by have h9 := hA O; rw [e1] at h9; exact h9) h1 (fun O => by have h9 := hB O X; rw [e2] at h9; exact h9) h2 hg
    by_cases c1 : grh X n k = 102
    · exact ce eNSE 2 (by unfold A_grow; rw [if_pos c1]) (by unfold B_grow; rw [if_pos c1]) (by simp) (by decide)
    · by_cases c2 : grh X n k = 108
      · exact ce eISE 3 (by unfold A_grow; rw [if_neg c1, if_pos c2]) (by unfold B_grow; rw [if_neg c1, if_pos c2]) (by simp) (by decide)
      · by_cases c3 : grh X n k = 110
        · obtain ⟨q1, q2, q3⟩ := grh_ok c3
          have e1 : A_grow X n k = (.inl (some (.int (zneed (X.2.1 1 k) (X.2.1 5 k)))), xrow X 3 (upd (X.2.1 3) k (zneed (X.2.1 1 k) (X.2.1 5 k))) (X.1 3)) := by
            unfold A_grow; rw [if_neg c1, if_neg c2, if_neg (fun h9 => h9 c3)]
          have e2 : B_grow X Y n k = (zneed (X.2.1 1 k) (X.2.1 5 k), yarr (yint Y 0 0) 1 (upd (Y.1 1) (2 * k + 1) (zneed (X.2.1 1 k) (X.2.1 5 k)))) := by
            unfold B_grow; rw [if_neg c1, if_neg c2, if_neg (fun h9 => h9 c3)]
          exact PR.r (r0 := .inl (some (.int (zneed (X.2.1 1 k) (X.2.1 5 k))))) (a := zneed (X.2.1 1 k) (X.2.1 5 k)) (X' := xrow X 3 (upd (X.2.1 3) k (zneed (X.2.1 1 k) (X.2.1 5 k))) (X.1 3)) (Y2 := yarr (yint Y 0 0) 1 (upd (Y.1 1) (2 * k + 1) (zneed (X.2.1 1 k) (X.2.1 5 k)))) (fun O => by have h9 := hA O; rw [e1] at h9; exact h9) (Or.inl ⟨_, rfl⟩) (fun O => by have h9 := hB O (xrow X 3 (upd (X.2.1 3) k (zneed (X.2.1 1 k) (X.2.1 5 k))) (X.1 3)); rw [e2] at h9; exact h9) rfl (fun v h9 => by cases h9; rfl) ⟨n, nw, inv_grow hI hk q1 q2 q3, rel_grow hR hk _ _⟩ (fun h9 => by cases h9)
        · exact ce eUOE 4 (by unfold A_grow; rw [if_neg c1, if_neg c2, if_pos c3]) (by unfold B_grow; rw [if_neg c1, if_neg c2, if_pos c3]) (by simp) (by decide)
set_option maxRecDepth 100000 in
set_option maxHeartbeats 4000000 in
theorem p_inTheWay (hg : good X Y) (s : Int32) : PR G mX8_inTheWay mX9_inTheWay 5 3 [.int s] [.int s] [eIOOBE, eNSE] X Y false := by
  obtain ⟨n, nw, hI, hR⟩ := hg
  have h4 := hI.1
  have hn := inv_n hI
  have hg : good X Y := ⟨n, nw, hI, hR⟩
  rcases rng s (show n < 2 ^ 31 by omega) with h | ⟨k, hk, rfl⟩
  · exact PR.e (E := eIOOBE) (c := 1) (fun O => c_X8_inTheWay_out hn h) (by simp) (fun O => c_X9_inTheWay_out hR h) (by show (1 : Int32) = lidx [eIOOBE, eNSE] eIOOBE; decide) hg
  · have hw := inv_half hI hk
    have hA : ∀ O, ZM G mX8_inTheWay 5 1 6 [.ref 0, .int (nI k)] (zw X Y O) (zR (A_inTheWay X n k) (zw X Y O)) := fun O => c_X8_inTheWay hn h4 hk hw
    have hB : ∀ O X1, ZM G mX9_inTheWay 3 0 0 [.ref 77, .int (nI k)] (zw X1 Y O) (mR X1 O (B_inTheWay X Y n k).1 (B_inTheWay X Y n k).2) := fun O X1 => c_X9_inTheWay hR hk hw
    by_cases c1 : zneed (X.2.1 1 k) (X.2.1 5 k) ≤ X.2.1 3 k ∨ ¬ zon 120 (X.2.1 2 k) (zneed (X.2.1 1 k) (X.2.1 5 k))
    · have e1 : A_inTheWay X n k = .inr eNSE := by unfold A_inTheWay; rw [if_pos c1]
      have e2 : B_inTheWay X Y n k = (0, yth Y 2) := by unfold B_inTheWay; rw [if_pos c1]
      exact PR.e (E := eNSE) (c := 2) (fun O => by have h9 := hA O; rw [e1] at h9; exact h9) (by simp) (fun O => by have h9 := hB O X; rw [e2] at h9; exact h9) (by decide) hg
    · by_cases c2 : rfirst (pover X (nI k) (X.2.1 0 k) (X.2.1 2 k) (X.2.1 1 k) (zneed (X.2.1 1 k) (X.2.1 5 k))) 0 n = -1
      · have e1 : A_inTheWay X n k = .inr eNSE := by unfold A_inTheWay; rw [if_neg c1, if_pos c2]
        have e2 : B_inTheWay X Y n k = (0, yth Y 2) := by unfold B_inTheWay; rw [if_neg c1, if_pos c2]
        exact PR.e (E := eNSE) (c := 2) (fun O => by have h9 := hA O; rw [e1] at h9; exact h9) (by simp) (fun O => by have h9 := hB O X; rw [e2] at h9; exact h9) (by decide) hg
      · have e1 : A_inTheWay X n k = .inl (some (.int (rfirst (pover X (nI k) (X.2.1 0 k) (X.2.1 2 k) (X.2.1 1 k) (zneed (X.2.1 1 k) (X.2.1 5 k))) 0 n))) := by unfold A_inTheWay; rw [if_neg c1, if_neg c2]
        have e2 : B_inTheWay X Y n k = (rfirst (pover X (nI k) (X.2.1 0 k) (X.2.1 2 k) (X.2.1 1 k) (zneed (X.2.1 1 k) (X.2.1 5 k))) 0 n, yint Y 0 0) := by unfold B_inTheWay; rw [if_neg c1, if_neg c2]
        exact PR.a (fun O => by have h9 := hA O; rw [e1] at h9; exact h9) (fun O => by have h9 := hB O X; rw [e2] at h9; exact h9) hg (fun h9 => by cases h9)
set_option maxRecDepth 100000 in
set_option maxHeartbeats 4000000 in
theorem p_addWish (hg : good X Y) (kd s s2 f : Int32) : PR G mX8_addWish mX9_addWish 4 2 [.int kd, .int s, .int s2, .int f] [.int kd, .int s, .int s2, .int f] [eIOOBE, eIAE, eISE] X Y false := by
  obtain ⟨n, nw, hI, hR⟩ := hg
  have h4 := hI.1
  have hn := inv_n hI
  have hg : good X Y := ⟨n, nw, hI, hR⟩
  rcases rng s (show n < 2 ^ 31 by omega) with h | ⟨a, ha, rfl⟩
  · exact PR.e (E := eIOOBE) (c := 1) (fun O => c_X8_addWish_out hn h) (by simp) (fun O => c_X9_addWish_out hR h) (by show (1 : Int32) = lidx [eIOOBE, eIAE, eISE] eIOOBE; decide) hg
  rcases rng s2 (show n < 2 ^ 31 by omega) with h | ⟨b, hb, rfl⟩
  · exact PR.e (E := eIOOBE) (c := 1) (fun O => c_X8_addWish_out2 hn h4 ha h) (by simp) (fun O => c_X9_addWish_out2 hR ha h) (by show (1 : Int32) = lidx [eIOOBE, eIAE, eISE] eIOOBE; decide) hg
  · have hA : ∀ O, ZM G mX8_addWish 4 1 6 [.ref 0, .int kd, .int (nI a), .int (nI b), .int f] (zw X Y O) (zR (A_addWish X nw kd (nI a) (nI b) f).1 (zw (A_addWish X nw kd (nI a) (nI b) f).2 Y O)) := fun O => c_X8_addWish hn h4 ha hb (inv_w hI) (hI.2.2.2.1 7 (by decide) (by decide)) (hI.2.2.2.1 8 (by decide) (by decide)) (hI.2.2.2.1 9 (by decide) (by decide)) (hI.2.2.2.1 10 (by decide) (by decide)) hI.2.1
    have hB : ∀ O X1, ZM G mX9_addWish 2 0 0 [.ref 77, .int kd, .int (nI a), .int (nI b), .int f] (zw X1 Y O) (mR X1 O (B_addWish Y nw kd (nI a) (nI b) f).1 (B_addWish Y nw kd (nI a) (nI b) f).2) := fun O X1 => c_X9_addWish hR ha hb
    have ce : ∀ (E : String) (c : Int32), A_addWish X nw kd (nI a) (nI b) f = (.inr E, X) → B_addWish Y nw kd (nI a) (nI b) f = (0, yth Y c) → E ∈ [eIOOBE, eIAE, eISE] → c = lidx [eIOOBE, eIAE, eISE] E → PR G mX8_addWish mX9_addWish 4 2 [.int kd, .int (nI a), .int (nI b), .int f] [.int kd, .int (nI a), .int (nI b), .int f] [eIOOBE, eIAE, eISE] X Y false := fun E c e1 e2 h1 h2 =>
      PR.e (E := E) (c := c) (fun O => by have h9 := hA O; rw [e1] at h9; exact h9) h1 (fun O => by have h9 := hB O X; rw [e2] at h9; exact h9) h2 hg
    have hw8 := hI.2.1
    have bad : (akd kd = -1 ∨ nI a = nI b ∨ ¬ (¬ f < 1 ∧ ¬ 9 < f)) → PR G mX8_addWish mX9_addWish 4 2 [.int kd, .int (nI a), .int (nI b), .int f] [.int kd, .int (nI a), .int (nI b), .int f] [eIOOBE, eIAE, eISE] X Y false := fun h9 => by
      refine ce eIAE 2 ?_ ?_ (by simp) (by decide)
      · unfold A_addWish
        rw [if_pos]
        rcases h9 with h9 | h9 | h9
        · exact Or.inl (akd_no.mp h9)
        · exact Or.inr (Or.inl h9)
        · by_cases c : f < 1
          · exact Or.inr (Or.inr (Or.inl c))
          · exact Or.inr (Or.inr (Or.inr (fun h8 => h9 ⟨c, Int32.not_lt.mpr h8⟩)))
      · unfold B_addWish
        by_cases c1 : akd kd = -1
        · rw [if_pos c1]
        · rw [if_neg c1]
          by_cases c2 : nI a = nI b
          · rw [if_pos c2]
          · rw [if_neg c2, if_pos ((h9.resolve_left c1).resolve_left c2)]
    by_cases c1 : akd kd = -1
    · exact bad (Or.inl c1)
    · by_cases c2 : nI a = nI b
      · exact bad (Or.inr (Or.inl c2))
      · by_cases c3 : ¬ f < 1 ∧ ¬ 9 < f
        · have hkd : zkx kd ∨ zky kd := Classical.byContradiction fun h9 => c1 (akd_no.mpr h9)
          have n1 : ¬ (¬ (zkx kd ∨ zky kd) ∨ nI a = nI b ∨ f < 1 ∨ ¬ f ≤ 9) := fun h9 => h9.elim (fun h8 => h8 hkd) (fun h8 => h8.elim c2 (fun h7 => h7.elim c3.1 (fun h6 => c3.2 (Int32.not_le.mp h6))))
          by_cases c4 : nw = 8
          · exact ce eISE 3 (by unfold A_addWish; rw [if_neg n1, if_pos (by rw [c4]; decide)]) (by unfold B_addWish; rw [if_neg c1, if_neg c2, if_neg (fun h9 => h9 c3), if_pos (by rw [c4]; rfl)]) (by simp) (by decide)
          · have e1 : A_addWish X nw kd (nI a) (nI b) f = (.inl (some (.int (nI nw))), xwish X nw kd (nI a) (nI b) f) := by
              unfold A_addWish; rw [if_neg n1, if_neg (fun h9 => h9 (nI_lt (b := 8) (by omega) (by decide)))]
            have e2 : B_addWish Y nw kd (nI a) (nI b) f = (nI nw, ywish Y nw kd (nI a) (nI b) f) := by
              unfold B_addWish; rw [if_neg c1, if_neg c2, if_neg (fun h9 => h9 c3), if_neg (show ¬ nI nw = 8 from fun h9 => c4 ((nI_eq (b := 8) (by omega) (by decide)).mp h9))]
            exact PR.r (r0 := .inl (some (.int (nI nw)))) (a := nI nw) (X' := xwish X nw kd (nI a) (nI b) f) (Y2 := ywish Y nw kd (nI a) (nI b) f) (fun O => by have h9 := hA O; rw [e1] at h9; exact h9) (Or.inl ⟨_, rfl⟩) (fun O => by have h9 := hB O (xwish X nw kd (nI a) (nI b) f); rw [e2] at h9; exact h9) rfl (fun v h9 => by cases h9; rfl) ⟨n, nw + 1, inv_wish hI (by omega) ha hb (fun h9 => c2 (by rw [h9])) hkd c3, rel_wish hR (by omega) _ _ _ _⟩ (fun h9 => by cases h9)
        · exact bad (Or.inr (Or.inr c3))
set_option maxRecDepth 100000 in
set_option maxHeartbeats 4000000 in
theorem p_distance (hg : good X Y) (s s2 : Int32) : PR G mX8_distance mX9_distance 4 3 [.int s, .int s2] [.int s, .int s2] [eIOOBE, eIAE] X Y false := by
  obtain ⟨n, nw, hI, hR⟩ := hg
  have h4 := hI.1
  have hn := inv_n hI
  have hg : good X Y := ⟨n, nw, hI, hR⟩
  rcases rng s (show n < 2 ^ 31 by omega) with h | ⟨a, ha, rfl⟩
  · exact PR.e (E := eIOOBE) (c := 1) (fun O => c_X8_distance_out hn h) (by simp) (fun O => c_X9_distance_out hR h) (by show (1 : Int32) = lidx [eIOOBE, eIAE] eIOOBE; decide) hg
  rcases rng s2 (show n < 2 ^ 31 by omega) with h | ⟨b, hb, rfl⟩
  · exact PR.e (E := eIOOBE) (c := 1) (fun O => c_X8_distance_out2 hn h4 ha h) (by simp) (fun O => c_X9_distance_out2 hR ha h) (by show (1 : Int32) = lidx [eIOOBE, eIAE] eIOOBE; decide) hg
  by_cases hab : a = b
  · subst hab
    exact PR.e (E := eIAE) (c := 2) (fun O => c_X8_distance_same hn h4 ha) (by simp) (fun O => c_X9_distance_same hR ha) (by show (2 : Int32) = lidx [eIOOBE, eIAE] eIAE; decide) hg
  · exact PR.a (fun O => c_X8_distance hn h4 ha hb hab) (fun O => c_X9_distance hR ha hb hab) hg (fun h9 => by cases h9)
end
