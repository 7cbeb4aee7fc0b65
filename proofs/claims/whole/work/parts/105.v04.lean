section
variable {G : zG} {X X1 : zX} {Y : zY} {O : zO}
set_option maxRecDepth 100000 in
set_option maxHeartbeats 4000000 in
theorem p_dropWish (hg : good X Y) (s : Int32) : PR G mX8_dropWish mX9_dropWish 3 2 [.int s] [.int s] [eNSE] X Y false := by
  obtain ⟨n, nw, hI, hR⟩ := hg
  have h4 := hI.1
  have hn := inv_n hI
  have hg : good X Y := ⟨n, nw, hI, hR⟩
  have hw8 := hI.2.1
  rcases rng s (show nw < 2 ^ 31 by omega) with h | ⟨k, hk, rfl⟩
  · exact PR.e (E := eNSE) (c := 1) (fun O => c_X8_dropWish_out (inv_w hI) h) (by simp) (fun O => c_X9_dropWish_out hR h) (by show (1 : Int32) = lidx [eNSE] eNSE; decide) hg
  · by_cases hd : X.2.1 10 k = 0
    · exact PR.r (r0 := .inl (some (.int (rcnt (fun j => upd (X.2.1 10) k 1 j = 0) 0 nw 0)))) (a := rcnt (fun j => upd (X.2.1 10) k 1 j = 0) 0 nw 0) (X' := xrow X 10 (upd (X.2.1 10) k 1) (X.1 10)) (Y2 := yarr (yint Y 0 0) 8 (upd (Y.1 8) k 1)) (fun O => c_X8_dropWish (inv_w hI) hk hw8 hd) (Or.inl ⟨_, rfl⟩) (fun O => c_X9_dropWish hR hk hd) rfl (fun v h9 => by cases h9; rfl) ⟨n, nw, inv_drop hI, rel_drop hR hk 1 _⟩ (fun h9 => by cases h9)
    · exact PR.e (E := eNSE) (c := 1) (fun O => c_X8_dropWish_dr (inv_w hI) hk hw8 hd) (by simp) (fun O => c_X9_dropWish_dr hR hk hd) (by show (1 : Int32) = lidx [eNSE] eNSE; decide) hg
set_option maxRecDepth 100000 in
set_option maxHeartbeats 4000000 in
theorem wish_kind {n nw w : Nat} (hI : inv X n nw) (hw : w < nw) : (zkx (X.2.1 6 w) ∧ akd (X.2.1 6 w) = nI 0) ∨ (¬ zkx (X.2.1 6 w) ∧ akd (X.2.1 6 w) = nI 1) := by
  have h := (hI.2.2.2.2.2.2 w hw).2.2.2.2.2.2.2.1
  unfold akd
  by_cases h1 : zkx (X.2.1 6 w)
  · exact Or.inl ⟨h1, by rw [if_pos h1]; rfl⟩
  · exact Or.inr ⟨h1, by rw [if_neg h1, if_pos (h.resolve_left h1)]; rfl⟩
set_option maxRecDepth 100000 in
set_option maxHeartbeats 4000000 in
theorem met_iff {n nw t w : Nat} (hI : inv X n nw) (ht : t < 2) (hw : w < nw) : feat (X.2.1 6 w) (X.2.1 (2 * t) (wA X w)) (X.2.1 (2 * t + 1) (wA X w)) = feat (X.2.1 6 w) (X.2.1 (2 * t) (wB X w)) (X.2.1 (2 * t + 1) (wB X w)) ↔ 2 * X.2.1 (2 * t) (wA X w) + zedge (X.2.1 6 w) * X.2.1 (2 * t + 1) (wA X w) = 2 * X.2.1 (2 * t) (wB X w) + zedge (X.2.1 6 w) * X.2.1 (2 * t + 1) (wB X w) := by
  have hA := inv_A hI hw
  have a := inv_axis hI ht hA.2.1
  have b := inv_axis hI ht hA.2.2.2
  have e := zedge_N (X.2.1 6 w)
  have a1 := a.1.2
  have a2 := a.2.2
  have b1 := b.1.2
  have b2 := b.2.2
  have e2 := e.2
  have h := feat_iff (c := X.2.1 6 w) (a := num (X.2.1 (2 * t) (wA X w))) (za := num (X.2.1 (2 * t + 1) (wA X w))) (b := num (X.2.1 (2 * t) (wB X w))) (z2 := num (X.2.1 (2 * t + 1) (wB X w))) (by omega) (by omega) (by omega) (by omega)
  rw [← a.1.1, ← a.2.1, ← b.1.1, ← b.2.1] at h
  rw [h]
  have q1 : 2 * X.2.1 (2 * t) (wA X w) + zedge (X.2.1 6 w) * X.2.1 (2 * t + 1) (wA X w) = nI (2 * num (X.2.1 (2 * t) (wA X w)) + num (zedge (X.2.1 6 w)) * num (X.2.1 (2 * t + 1) (wA X w))) := by
    have h9 := hit_mul (a := num (X.2.1 (2 * t) (wA X w))) (b := num (zedge (X.2.1 6 w))) (c := num (X.2.1 (2 * t + 1) (wA X w)))
    rw [← a.1.1, ← a.2.1, ← e.1] at h9
    exact h9
  have q2 : 2 * X.2.1 (2 * t) (wB X w) + zedge (X.2.1 6 w) * X.2.1 (2 * t + 1) (wB X w) = nI (2 * num (X.2.1 (2 * t) (wB X w)) + num (zedge (X.2.1 6 w)) * num (X.2.1 (2 * t + 1) (wB X w))) := by
    have h9 := hit_mul (a := num (X.2.1 (2 * t) (wB X w))) (b := num (zedge (X.2.1 6 w))) (c := num (X.2.1 (2 * t + 1) (wB X w)))
    rw [← b.1.1, ← b.2.1, ← e.1] at h9
    exact h9
  rw [q1, q2, nI_eq (hit_lt a1 e2 a2) (hit_lt b1 e2 b2)]
set_option maxRecDepth 100000 in
set_option maxHeartbeats 4000000 in
theorem zb_iff {p q : Prop} [Decidable p] [Decidable q] (h : p ↔ q) : zb p = zb q := by
  unfold zb
  by_cases hp : p
  · rw [if_pos hp, if_pos (h.mp hp)]
  · rw [if_neg hp, if_neg fun h9 => hp (h.mpr h9)]
set_option maxRecDepth 100000 in
set_option maxHeartbeats 4000000 in
theorem p_isMet (hg : good X Y) (s : Int32) : PR G mX8_isMet mX9_isMet 3 3 [.int s] [.int s] [eNSE] X Y true := by
  obtain ⟨n, nw, hI, hR⟩ := hg
  have h4 := hI.1
  have hn := inv_n hI
  have hg : good X Y := ⟨n, nw, hI, hR⟩
  have hw8 := hI.2.1
  rcases rng s (show nw < 2 ^ 31 by omega) with h | ⟨k, hk, rfl⟩
  · exact PR.e (E := eNSE) (c := 1) (fun O => c_X8_isMet_out (inv_w hI) h) (by simp) (fun O => c_X9_isMet_out hR h) (by show (1 : Int32) = lidx [eNSE] eNSE; decide) hg
  · by_cases hd : X.2.1 10 k = 0
    · have hA := inv_A hI hk
      rcases wish_kind hI hk with ⟨q1, q2⟩ | ⟨q1, q2⟩
      · refine PR.a (fun O => c_X8_isMet_0 (a := wA X k) (b := wB X k) (inv_w hI) hk hw8 hd (by omega) (by omega) hA.1 hA.2.2.1 q1) (fun O => ?_) hg (fun _ => zb_bit _)
        have h9 := c_X9_isMet (G := G) (X1 := X) (O := O) hI hR hk hd (t := 0) (by decide) q2
        rw [zb_iff (met_iff hI (t := 0) (by decide) hk)] at h9
        exact h9
      · refine PR.a (fun O => c_X8_isMet_1 (a := wA X k) (b := wB X k) (inv_w hI) hk hw8 hd (by omega) (by omega) hA.1 hA.2.2.1 q1) (fun O => ?_) hg (fun _ => zb_bit _)
        have h9 := c_X9_isMet (G := G) (X1 := X) (O := O) hI hR hk hd (t := 1) (by decide) q2
        rw [zb_iff (met_iff hI (t := 1) (by decide) hk)] at h9
        exact h9
    · exact PR.e (E := eNSE) (c := 1) (fun O => c_X8_isMet_dr (inv_w hI) hk hw8 hd) (by simp) (fun O => c_X9_isMet_dr hR hk hd) (by show (1 : Int32) = lidx [eNSE] eNSE; decide) hg
set_option maxRecDepth 100000 in
set_option maxHeartbeats 4000000 in
theorem p_strength (hg : good X Y) (c : Int32) : PR G mX8_strength mX9_strength 3 4 [.int c] [.int c] [eIAE] X Y false := by
  obtain ⟨n, nw, hI, hR⟩ := hg
  have h4 := hI.1
  have hn := inv_n hI
  have hg : good X Y := ⟨n, nw, hI, hR⟩
  rcases axs c with rfl | rfl | ⟨h1, h2⟩
  · refine ⟨fun r X2 => r = .inl (some (.int (rsumc (pstr X 0 (wA X) (wB X)) (X.2.1 9) 0 nw 0))) ∧ X2 = X, fun O => (c_X8_strength (t := 0) (by decide) (inv_w hI) hI.2.1 (inv_shapes hI)).mono fun r w h => ⟨X, h.2, h.1, rfl⟩, fun r X2 h => Or.inl ⟨_, h.1⟩, fun r X2 O h => ?_, fun h9 => by cases h9⟩
    obtain ⟨rfl, rfl⟩ := h
    refine (c_X9_strength hI hR (t := 0) (by decide)).mono fun r w h => ?_
    obtain ⟨f, h5, h6⟩ := h
    refine ⟨_, _, h5, h6, rfl, fun v h9 => ?_, n, nw, hI, rel_arr (rel_thr hR 0) (by decide) f⟩
    cases h9
    exact (rsumc_congr _ _ _ fun w _ hw => by
      have hk := (hI.2.2.2.2.2.2 w (by omega)).2.2.2.2.2.2.2.1
      unfold mhit pstr
      rw [akd_sel hk (t := 0) (by decide), met_iff hI (t := 0) (by decide) (by omega)])
  · refine ⟨fun r X2 => r = .inl (some (.int (rsumc (pstr X 1 (wA X) (wB X)) (X.2.1 9) 0 nw 0))) ∧ X2 = X, fun O => (c_X8_strength (t := 1) (by decide) (inv_w hI) hI.2.1 (inv_shapes hI)).mono fun r w h => ⟨X, h.2, h.1, rfl⟩, fun r X2 h => Or.inl ⟨_, h.1⟩, fun r X2 O h => ?_, fun h9 => by cases h9⟩
    obtain ⟨rfl, rfl⟩ := h
    refine (c_X9_strength hI hR (t := 1) (by decide)).mono fun r w h => ?_
    obtain ⟨f, h5, h6⟩ := h
    refine ⟨_, _, h5, h6, rfl, fun v h9 => ?_, n, nw, hI, rel_arr (rel_thr hR 0) (by decide) f⟩
    cases h9
    exact (rsumc_congr _ _ _ fun w _ hw => by
      have hk := (hI.2.2.2.2.2.2 w (by omega)).2.2.2.2.2.2.2.1
      unfold mhit pstr
      rw [akd_sel hk (t := 1) (by decide), met_iff hI (t := 1) (by decide) (by omega)])
  · exact PR.e (E := eIAE) (c := 1) (fun O => c_X8_strength_ax h1 h2) (by simp) (fun O => c_X9_strength_ax hR h1 h2) (by show (1 : Int32) = lidx [eIAE] eIAE; decide) hg
set_option maxRecDepth 100000 in
set_option maxHeartbeats 4000000 in
theorem p_snaps (hg : good X Y) (s c : Int32) : PR G mX8_snaps mX9_snaps 4 2 [.int s, .int c] [.int s, .int c] [eIOOBE, eIAE] X Y false := by
  obtain ⟨n, nw, hI, hR⟩ := hg
  have h4 := hI.1
  have hn := inv_n hI
  have hg : good X Y := ⟨n, nw, hI, hR⟩
  rcases rng s (show n < 2 ^ 31 by omega) with h | ⟨k, hk, rfl⟩
  · exact PR.e (E := eIOOBE) (c := 1) (fun O => c_X8_snaps_out hn h) (by simp) (fun O => c_X9_snaps_out hR h) (by show (1 : Int32) = lidx [eIOOBE, eIAE] eIOOBE; decide) hg
  · rcases axs c with rfl | rfl | ⟨h1, h2⟩
    · refine ⟨fun r X2 => r = .inl (some (.int (nI (snAll (X.2.1 32) (X.2.1 0) (X.2.1 1) n k).2))) ∧ X2 = xrow X 32 (snAll (X.2.1 32) (X.2.1 0) (X.2.1 1) n k).1 (nI (snAll (X.2.1 32) (X.2.1 0) (X.2.1 1) n k).2), fun O => (c_X8_snaps_0 hn h4 hk (hI.2.2.1 0 (by decide))).mono fun r w h => ⟨_, h.2, h.1, rfl⟩, fun r X2 h => Or.inl ⟨_, h.1⟩, fun r X2 O h => ?_, fun h9 => by cases h9⟩
      obtain ⟨rfl, rfl⟩ := h
      refine (c_X9_snaps hI hR hk (t := 0) (by decide)).mono fun r w h => ?_
      obtain ⟨c, g, s, mm, h5, h6, h7⟩ := h
      have hs := slist_dset (snAll_slist (X.2.1 32) (X.2.1 0) (X.2.1 1) n k)
      have hk9 : keep0 X (xrow X 32 (snAll (X.2.1 32) (X.2.1 0) (X.2.1 1) n k).1 (nI (snAll (X.2.1 32) (X.2.1 0) (X.2.1 1) n k).2)) := ⟨fun r hr => ⟨xrow_ln X (by omega) _ _, xrow_fn X (by omega) _ _⟩, rfl⟩
      refine ⟨_, _, h5, h6, rfl, fun v h9 => ?_, n, nw, inv_keep hk9 hI, rel_keep (rel_arr (rel_arr (rel_thr hR 0) (by decide) s) (by decide) mm) hk9⟩
      cases h9
      rw [Nat.le_antisymm (dset_le h7 hs) (dset_le hs h7)]
    · refine ⟨fun r X2 => r = .inl (some (.int (nI (snAll (X.2.1 32) (X.2.1 2) (X.2.1 3) n k).2))) ∧ X2 = xrow X 32 (snAll (X.2.1 32) (X.2.1 2) (X.2.1 3) n k).1 (nI (snAll (X.2.1 32) (X.2.1 2) (X.2.1 3) n k).2), fun O => (c_X8_snaps_1 hn h4 hk (hI.2.2.1 2 (by decide))).mono fun r w h => ⟨_, h.2, h.1, rfl⟩, fun r X2 h => Or.inl ⟨_, h.1⟩, fun r X2 O h => ?_, fun h9 => by cases h9⟩
      obtain ⟨rfl, rfl⟩ := h
      refine (c_X9_snaps hI hR hk (t := 1) (by decide)).mono fun r w h => ?_
      obtain ⟨c, g, s, mm, h5, h6, h7⟩ := h
      have hs := slist_dset (snAll_slist (X.2.1 32) (X.2.1 2) (X.2.1 3) n k)
      have hk9 : keep0 X (xrow X 32 (snAll (X.2.1 32) (X.2.1 2) (X.2.1 3) n k).1 (nI (snAll (X.2.1 32) (X.2.1 2) (X.2.1 3) n k).2)) := ⟨fun r hr => ⟨xrow_ln X (by omega) _ _, xrow_fn X (by omega) _ _⟩, rfl⟩
      refine ⟨_, _, h5, h6, rfl, fun v h9 => ?_, n, nw, inv_keep hk9 hI, rel_keep (rel_arr (rel_arr (rel_thr hR 0) (by decide) s) (by decide) mm) hk9⟩
      cases h9
      rw [Nat.le_antisymm (dset_le h7 hs) (dset_le hs h7)]
    · exact PR.e (E := eIAE) (c := 2) (fun O => c_X8_snaps_ax hn h4 hk h1 h2) (by simp) (fun O => c_X9_snaps_ax hR hk h1 h2) (by show (2 : Int32) = lidx [eIOOBE, eIAE] eIAE; decide) hg
set_option maxRecDepth 100000 in
set_option maxHeartbeats 4000000 in
theorem ex_min {α : Type} {P : α → Prop} (f : α → Nat) : ∀ m a, f a = m → P a → ∃ b, P b ∧ ∀ c, P c → f b ≤ f c := fun m => by
  induction m using Nat.strongRecOn with
  | _ m ih =>
    intro a ha hp
    by_cases h : ∃ c, P c ∧ f c < f a
    · obtain ⟨c, h1, h2⟩ := h
      exact ih (f c) (by omega) c rfl h1
    · exact ⟨a, hp, fun c hc => by
        rcases Nat.lt_or_ge (f c) (f a) with h2 | h2
        · exact absurd ⟨c, hc, h2⟩ h
        · exact h2⟩
set_option maxRecDepth 100000 in
set_option maxHeartbeats 4000000 in
theorem ex_lex {S : (Nat → Nat) → Prop} (h : ∃ D, S D) : ∀ n, ∃ D, S D ∧ ∀ D2, S D2 → lexle n D D2
  | 0 => by
    obtain ⟨D, hD⟩ := h
    exact ⟨D, hD, fun D2 _ => Or.inl fun j hj => absurd hj (by omega)⟩
  | n + 1 => by
    obtain ⟨D, hD, h1⟩ := ex_lex h n
    obtain ⟨D2, ⟨h2, h3⟩, h4⟩ := ex_min (P := fun D2 => S D2 ∧ ∀ j, j < n → D2 j = D j) (fun D2 => D2 n) _ D rfl ⟨hD, fun _ _ => rfl⟩
    refine ⟨D2, h2, fun D3 hD3 => ?_⟩
    rcases h1 D3 hD3 with h5 | ⟨j, h5, h6, h7⟩
    · have h8 := h4 D3 ⟨hD3, fun j hj => (h5 j hj).symm⟩
      rcases Nat.lt_or_ge (D2 n) (D3 n) with h9 | h9
      · exact Or.inr ⟨n, by omega, fun i hi => (h3 i hi).trans (h5 i hi), h9⟩
      · refine Or.inl fun j hj => ?_
        by_cases e : j = n
        · rw [e]; omega
        · exact (h3 j (by omega)).trans (h5 j (by omega))
    · exact Or.inr ⟨j, by omega, fun i hi => (h3 i (by omega)).trans (h6 i hi), by rw [h3 j h5]; exact h7⟩
set_option maxRecDepth 100000 in
set_option maxHeartbeats 4000000 in
theorem res_ex {n M : Nat} {S : (Nat → Nat) → Prop} {v : (Nat → Nat) → Nat × Nat} (hv : ∀ D, S D → (v D).1 ≤ M) (B : bst) : ∃ B2, res n S v B B2 := by
  by_cases h : ∃ D, S D ∧ tid (v D) (B.1, B.2.1)
  · obtain ⟨D0, h0, h1⟩ := h
    obtain ⟨D1, a1, a2⟩ := ex_min (P := S) (fun D => M - (v D).1) _ D0 rfl h0
    obtain ⟨D2, ⟨b1, b2⟩, b3⟩ := ex_min (P := fun D => S D ∧ (v D).1 = (v D1).1) (fun D => (v D).2) _ D1 rfl ⟨a1, rfl⟩
    obtain ⟨D3, ⟨c1, c2⟩, c3⟩ := ex_lex (S := fun D => S D ∧ v D = v D2) ⟨D2, b1, rfl⟩ n
    have hbest : ∀ D, S D → ¬ tid (v D) (v D3) := fun D hD ht => by
      have e1 := a2 D hD
      have e2 := hv D hD
      have e3 := hv D1 a1
      rw [c2] at ht
      unfold tid at ht
      rcases ht with ht | ⟨ht, ht2⟩
      · omega
      · have e4 := b3 D ⟨hD, by omega⟩
        omega
    refine ⟨((v D3).1, (v D3).2, D3), Or.inr ⟨D3, c1, fun _ _ => rfl, rfl, ?_, fun D hD => ⟨hbest D hD, fun e => c3 D ⟨hD, e.trans c2⟩⟩⟩⟩
    have e5 := hbest D0 h0
    unfold tid at *
    omega
  · exact ⟨B, Or.inl ⟨rfl, fun D hD ht => h ⟨D, hD, ht⟩⟩⟩
set_option maxRecDepth 100000 in
set_option maxHeartbeats 4000000 in
theorem ta_td {n nw t g : Nat} (hI : inv X n nw) (ht : t < 2) (h : taR X t n nw g) : ∃ B, tdR X t n nw B ∧ B.1 = g := by
  obtain ⟨T, X1, hT, hS, hg⟩ := h
  obtain ⟨B, hr⟩ := res_ex (n := n) (M := 72) (S := comp T n 0 (Tpv T)) (v := tval T 0 n 0 0) (fun D _ => by
    show 0 + fS T D 0 n ≤ 72
    rw [fS_all hT, Nat.zero_add]; exact fAll_le hT D) (fAll T (Tpv T), 0, Tpv T)
  exact ⟨B, ⟨T, X1, hT, hS, hr⟩, best_all hI ht hT hS hr hg⟩
set_option maxRecDepth 100000 in
set_option maxHeartbeats 4000000 in
theorem FT_good {n nw : Nat} {B : bst} {X2 : zX} {Y3 : zY} (hI : inv X n nw) (hR : rel X Y n nw) (hk : keep0 X X2) (hF : FT (yint Y 0 0) Y3 n B) : good X2 Y3 := ⟨n, nw, inv_keep hk hI, rel_keep (rel_kY (rel_thr hR 0) hF.1) hk⟩
set_option maxRecDepth 100000 in
set_option maxHeartbeats 4000000 in
theorem p_bestStrength (hg : good X Y) (c : Int32) : PR G mX8_bestStrength mX9_bestStrength 13 6 [.int c] [.int c] [eIAE] X Y false := by
  obtain ⟨n, nw, hI, hR⟩ := hg
  have h4 := hI.1
  have hn := inv_n hI
  have hg : good X Y := ⟨n, nw, hI, hR⟩
  rcases axs c with rfl | rfl | ⟨h1, h2⟩
  · refine ⟨fun r X2 => ∃ B, tdR X 0 n nw B ∧ r = .inl (some (.int (nI (B.1)))) ∧ keep0 X X2, fun O => (c_X8_bestStrength_0 hI).mono fun r w ⟨X2, B, q1, q2, q3, q4⟩ => ⟨X2, q3, B, q1, q2, q4⟩, fun r X2 ⟨B, _, q, _⟩ => Or.inl ⟨_, q⟩, fun r X2 O ⟨B, q1, q2, q3⟩ => ?_, fun h9 => by cases h9⟩
    subst q2
    exact (c_X9_bestStrength hI hR (t := 0) (by decide) q1).mono fun r w ⟨Y3, g1, g2, g3⟩ => ⟨Y3, _, g1, g2, g3.2.1, fun v h9 => by cases h9; rfl, FT_good hI hR q3 g3⟩
  · refine ⟨fun r X2 => ∃ B, tdR X 1 n nw B ∧ r = .inl (some (.int (nI (B.1)))) ∧ keep0 X X2, fun O => (c_X8_bestStrength_1 hI).mono fun r w ⟨X2, B, q1, q2, q3, q4⟩ => ⟨X2, q3, B, q1, q2, q4⟩, fun r X2 ⟨B, _, q, _⟩ => Or.inl ⟨_, q⟩, fun r X2 O ⟨B, q1, q2, q3⟩ => ?_, fun h9 => by cases h9⟩
    subst q2
    exact (c_X9_bestStrength hI hR (t := 1) (by decide) q1).mono fun r w ⟨Y3, g1, g2, g3⟩ => ⟨Y3, _, g1, g2, g3.2.1, fun v h9 => by cases h9; rfl, FT_good hI hR q3 g3⟩
  · exact PR.e (E := eIAE) (c := 1) (fun O => c_X8_bestStrength_ax h1 h2) (by simp) (fun O => c_X9_bestStrength_ax hR h1 h2) (by show (1 : Int32) = lidx [eIAE] eIAE; decide) hg
set_option maxRecDepth 100000 in
set_option maxHeartbeats 4000000 in
theorem p_tidyCost (hg : good X Y) (c : Int32) : PR G mX8_tidyCost mX9_tidyCost 13 6 [.int c] [.int c] [eIAE] X Y false := by
  obtain ⟨n, nw, hI, hR⟩ := hg
  have h4 := hI.1
  have hn := inv_n hI
  have hg : good X Y := ⟨n, nw, hI, hR⟩
  rcases axs c with rfl | rfl | ⟨h1, h2⟩
  · refine ⟨fun r X2 => ∃ B, tdR X 0 n nw B ∧ r = .inl (some (.int (nI (B.2.1)))) ∧ keep0 X X2, fun O => (c_X8_tidyCost_0 hI).mono fun r w ⟨X2, B, q1, q2, q3, q4⟩ => ⟨X2, q3, B, q1, q2, q4⟩, fun r X2 ⟨B, _, q, _⟩ => Or.inl ⟨_, q⟩, fun r X2 O ⟨B, q1, q2, q3⟩ => ?_, fun h9 => by cases h9⟩
    subst q2
    exact (c_X9_tidyCost hI hR (t := 0) (by decide) q1).mono fun r w ⟨Y3, g1, g2, g3⟩ => ⟨Y3, _, g1, g2, g3.2.1, fun v h9 => by cases h9; rfl, FT_good hI hR q3 g3⟩
  · refine ⟨fun r X2 => ∃ B, tdR X 1 n nw B ∧ r = .inl (some (.int (nI (B.2.1)))) ∧ keep0 X X2, fun O => (c_X8_tidyCost_1 hI).mono fun r w ⟨X2, B, q1, q2, q3, q4⟩ => ⟨X2, q3, B, q1, q2, q4⟩, fun r X2 ⟨B, _, q, _⟩ => Or.inl ⟨_, q⟩, fun r X2 O ⟨B, q1, q2, q3⟩ => ?_, fun h9 => by cases h9⟩
    subst q2
    exact (c_X9_tidyCost hI hR (t := 1) (by decide) q1).mono fun r w ⟨Y3, g1, g2, g3⟩ => ⟨Y3, _, g1, g2, g3.2.1, fun v h9 => by cases h9; rfl, FT_good hI hR q3 g3⟩
  · exact PR.e (E := eIAE) (c := 1) (fun O => c_X8_tidyCost_ax h1 h2) (by simp) (fun O => c_X9_tidyCost_ax hR h1 h2) (by show (1 : Int32) = lidx [eIAE] eIAE; decide) hg
set_option maxRecDepth 100000 in
set_option maxHeartbeats 4000000 in
theorem p_bestByAll (hg : good X Y) (c : Int32) : PR G mX8_bestByAll mX9_bestByAll 13 7 [.int c] [.int c] [eIAE] X Y false := by
  obtain ⟨n, nw, hI, hR⟩ := hg
  have h4 := hI.1
  have hn := inv_n hI
  have hg : good X Y := ⟨n, nw, hI, hR⟩
  rcases axs c with rfl | rfl | ⟨h1, h2⟩
  · refine ⟨fun r X2 => ∃ g, taR X 0 n nw g ∧ r = .inl (some (.int (nI g))) ∧ keep0 X X2, fun O => (c_X8_bestByAll_0 hI).mono fun r w ⟨X2, g, q1, q2, q3, q4⟩ => ⟨X2, q3, g, q1, q2, q4⟩, fun r X2 ⟨g, _, q, _⟩ => Or.inl ⟨_, q⟩, fun r X2 O ⟨g, q1, q2, q3⟩ => ?_, fun h9 => by cases h9⟩
    subst q2
    obtain ⟨B, hB, rfl⟩ := ta_td hI (by decide) q1
    exact (c_X9_bestByAll hI hR (t := 0) (by decide) hB).mono fun r w ⟨Y3, g1, g2, g3⟩ => ⟨Y3, _, g1, g2, g3.2.1, fun v h9 => by cases h9; rfl, FT_good hI hR q3 g3⟩
  · refine ⟨fun r X2 => ∃ g, taR X 1 n nw g ∧ r = .inl (some (.int (nI g))) ∧ keep0 X X2, fun O => (c_X8_bestByAll_1 hI).mono fun r w ⟨X2, g, q1, q2, q3, q4⟩ => ⟨X2, q3, g, q1, q2, q4⟩, fun r X2 ⟨g, _, q, _⟩ => Or.inl ⟨_, q⟩, fun r X2 O ⟨g, q1, q2, q3⟩ => ?_, fun h9 => by cases h9⟩
    subst q2
    obtain ⟨B, hB, rfl⟩ := ta_td hI (by decide) q1
    exact (c_X9_bestByAll hI hR (t := 1) (by decide) hB).mono fun r w ⟨Y3, g1, g2, g3⟩ => ⟨Y3, _, g1, g2, g3.2.1, fun v h9 => by cases h9; rfl, FT_good hI hR q3 g3⟩
  · exact PR.e (E := eIAE) (c := 1) (fun O => c_X8_bestByAll_ax h1 h2) (by simp) (fun O => c_X9_bestByAll_ax hR h1 h2) (by show (1 : Int32) = lidx [eIAE] eIAE; decide) hg
set_option maxRecDepth 100000 in
set_option maxHeartbeats 4000000 in
theorem p_tidyStart (hg : good X Y) (s c : Int32) : PR G mX8_tidyStart mX9_tidyStart 13 5 [.int s, .int c] [.int s, .int c] [eIOOBE, eIAE] X Y false := by
  obtain ⟨n, nw, hI, hR⟩ := hg
  have h4 := hI.1
  have hn := inv_n hI
  have hg : good X Y := ⟨n, nw, hI, hR⟩
  rcases rng s (show n < 2 ^ 31 by omega) with h | ⟨k, hk, rfl⟩
  · exact PR.e (E := eIOOBE) (c := 1) (fun O => c_X8_tidyStart_out hn h) (by simp) (fun O => c_X9_tidyStart_out hR h) (by show (1 : Int32) = lidx [eIOOBE, eIAE] eIOOBE; decide) hg
  · rcases axs c with rfl | rfl | ⟨h1, h2⟩
    · refine ⟨fun r X2 => ∃ B : bst, tdR X 0 n nw B ∧ r = .inl (some (.int (nI (B.2.2 k)))) ∧ keep0 X X2, fun O => (c_X8_tidyStart_0 hI hk).mono fun r w ⟨X2, B, q1, q2, q3, q4⟩ => ⟨X2, q3, B, q1, q2, q4⟩, fun r X2 ⟨B, _, q, _⟩ => Or.inl ⟨_, q⟩, fun r X2 O ⟨B, q1, q2, q3⟩ => ?_, fun h9 => by cases h9⟩
      subst q2
      exact (c_X9_tidyStart hI hR hk (t := 0) (by decide) q1).mono fun r w ⟨Y3, g1, g2, g3⟩ => ⟨Y3, _, g1, g2, g3.2.1, fun v h9 => by cases h9; rfl, FT_good hI hR q3 g3⟩
    · refine ⟨fun r X2 => ∃ B : bst, tdR X 1 n nw B ∧ r = .inl (some (.int (nI (B.2.2 k)))) ∧ keep0 X X2, fun O => (c_X8_tidyStart_1 hI hk).mono fun r w ⟨X2, B, q1, q2, q3, q4⟩ => ⟨X2, q3, B, q1, q2, q4⟩, fun r X2 ⟨B, _, q, _⟩ => Or.inl ⟨_, q⟩, fun r X2 O ⟨B, q1, q2, q3⟩ => ?_, fun h9 => by cases h9⟩
      subst q2
      exact (c_X9_tidyStart hI hR hk (t := 1) (by decide) q1).mono fun r w ⟨Y3, g1, g2, g3⟩ => ⟨Y3, _, g1, g2, g3.2.1, fun v h9 => by cases h9; rfl, FT_good hI hR q3 g3⟩
    · exact PR.e (E := eIAE) (c := 2) (fun O => c_X8_tidyStart_ax hn h4 hk h1 h2) (by simp) (fun O => c_X9_tidyStart_ax hR hk h1 h2) (by show (2 : Int32) = lidx [eIOOBE, eIAE] eIAE; decide) hg
set_option maxRecDepth 100000 in
set_option maxHeartbeats 4000000 in
theorem td_inv {n nw t : Nat} {B : bst} {X3 : zX} (hI : inv X n nw) (ht : t < 2) (hB : tdR X t n nw B) (hm : mvR X t n B.2.2 B.2.1 X3) : inv X3 n nw := by
  obtain ⟨D, d1, d2, _, _⟩ := td_top hI ht hB
  exact inv_mv hI ht hm (allow_congr (fun j hj => by show nI (D j) = nI (B.2.2 j); rw [(d1 j hj).1]) d2.1.2) (fun j hj => by have := d1 j hj; omega)
set_option maxRecDepth 100000 in
set_option maxHeartbeats 4000000 in
theorem sp_inv {n nw t c g s : Nat} {o : Nat → Nat} {X3 : zX} (hI : inv X n nw) (ht : t < 2) (hv : evR X t n o (some (c, g, s))) (hm : spR X t n o c g s X3) : inv X3 n nw := by
  obtain ⟨D, hD, hm⟩ := hm
  have hc : cdE X t n o g s := hv.2.1
  have hl := cd_le hI ht hv.1 hc
  have hl2 := (limN_eq ht).2
  have hDe : ∀ p, p < n → (fun j => nI (D j)) (o p) = nI (pN (eSb X t o) g s p) := fun p hp => by
    show nI (D (o p)) = _
    rw [hD p hp]
  refine inv_mv hI ht hm ((allow_cand hI ht hc.1 hv.1 (by omega) (by omega) hDe).mpr hc) fun j hj => ?_
  obtain ⟨p, hp, rfl⟩ := hv.1.2.2 j hj
  rw [hD p hp]
  have := pE_le hI ht hv.1 (show g ≤ 200 by omega) (show s ≤ 200 by omega) (show p ≤ n by omega)
  omega
set_option maxRecDepth 100000 in
set_option maxHeartbeats 4000000 in
theorem p_tidy (hg : good X Y) (c : Int32) : PR G mX8_tidy mX9_tidy 13 6 [.int c] [.int c] [eIAE] X Y false := by
  obtain ⟨n, nw, hI, hR⟩ := hg
  have h4 := hI.1
  have hn := inv_n hI
  have hg : good X Y := ⟨n, nw, hI, hR⟩
  rcases axs c with rfl | rfl | ⟨h1, h2⟩
  · refine ⟨fun r X2 => ∃ B : bst, tdR X 0 n nw B ∧ r = .inl (some (.int (nI B.2.1))) ∧ mvR X 0 n B.2.2 B.2.1 X2, fun O => (c_X8_tidy_0 hI).mono fun r w ⟨X2, B, q1, q2, q3, q4⟩ => ⟨X2, q3, B, q1, q2, q4⟩, fun r X2 ⟨B, _, q, _⟩ => Or.inl ⟨_, q⟩, fun r X2 O ⟨B, q1, q2, q3⟩ => ?_, fun h9 => by cases h9⟩
    subst q2
    exact (c_X9_tidy hI hR (t := 0) (by decide) q1).mono fun r w ⟨Y3, g1, g2, g3, g4⟩ => ⟨Y3, _, g1, g2, g3, fun v h9 => by cases h9; rfl, n, nw, td_inv hI (by decide) q1 q3, g4 X2 q3⟩
  · refine ⟨fun r X2 => ∃ B : bst, tdR X 1 n nw B ∧ r = .inl (some (.int (nI B.2.1))) ∧ mvR X 1 n B.2.2 B.2.1 X2, fun O => (c_X8_tidy_1 hI).mono fun r w ⟨X2, B, q1, q2, q3, q4⟩ => ⟨X2, q3, B, q1, q2, q4⟩, fun r X2 ⟨B, _, q, _⟩ => Or.inl ⟨_, q⟩, fun r X2 O ⟨B, q1, q2, q3⟩ => ?_, fun h9 => by cases h9⟩
    subst q2
    exact (c_X9_tidy hI hR (t := 1) (by decide) q1).mono fun r w ⟨Y3, g1, g2, g3, g4⟩ => ⟨Y3, _, g1, g2, g3, fun v h9 => by cases h9; rfl, n, nw, td_inv hI (by decide) q1 q3, g4 X2 q3⟩
  · exact PR.e (E := eIAE) (c := 1) (fun O => c_X8_tidy_ax h1 h2) (by simp) (fun O => c_X9_tidy_ax hR h1 h2) (by show (1 : Int32) = lidx [eIAE] eIAE; decide) hg
set_option maxRecDepth 100000 in
set_option maxHeartbeats 4000000 in
theorem p_evenCost (hg : good X Y) (c : Int32) : PR G mX8_evenCost mX9_evenCost 6 5 [.int c] [.int c] [eIAE, eNSE] X Y false := by
  obtain ⟨n, nw, hI, hR⟩ := hg
  have h4 := hI.1
  have hn := inv_n hI
  have hg : good X Y := ⟨n, nw, hI, hR⟩
  rcases axs c with rfl | rfl | ⟨h1, h2⟩
  · refine ⟨fun r X2 => ∃ (o : Nat → Nat) (b : eb), evR X 0 n o b ∧ r = evAns b ∧ keep0 X X2, fun O => (c_X8_evenCost_0 hI).mono fun r w ⟨X2, o, b, q1, q2, q3, q4⟩ => ⟨X2, q3, o, b, q1, q2, q4⟩, fun r X2 ⟨o, b, _, q, _⟩ => ?_, fun r X2 O ⟨o, b, q1, q2, q3⟩ => ?_, fun h9 => by cases h9⟩
    · cases b with
      | none => exact Or.inr ⟨eNSE, by simp, q⟩
      | some q9 => exact Or.inl ⟨_, q⟩
    · subst q2
      cases b with
      | none => exact (c_X9_evenCost_none hI hR (t := 0) (by decide) q1).mono fun r w ⟨Y4, g1, g2, g3, g4⟩ => ⟨Y4, _, g1, g2, g4.trans (by decide), (fun v h9 => by cases h9), n, nw, inv_keep q3 hI, rel_keep (rel_kY hR g3) q3⟩
      | some q9 =>
        obtain ⟨c, g, s⟩ := q9
        exact (c_X9_evenCost_some hI hR (t := 0) (by decide) q1).mono fun r w ⟨Y4, g1, g2, g3, g4⟩ => ⟨Y4, _, g1, g2, g4, fun v h9 => by cases h9; rfl, n, nw, inv_keep q3 hI, rel_keep (rel_kY hR g3) q3⟩
  · refine ⟨fun r X2 => ∃ (o : Nat → Nat) (b : eb), evR X 1 n o b ∧ r = evAns b ∧ keep0 X X2, fun O => (c_X8_evenCost_1 hI).mono fun r w ⟨X2, o, b, q1, q2, q3, q4⟩ => ⟨X2, q3, o, b, q1, q2, q4⟩, fun r X2 ⟨o, b, _, q, _⟩ => ?_, fun r X2 O ⟨o, b, q1, q2, q3⟩ => ?_, fun h9 => by cases h9⟩
    · cases b with
      | none => exact Or.inr ⟨eNSE, by simp, q⟩
      | some q9 => exact Or.inl ⟨_, q⟩
    · subst q2
      cases b with
      | none => exact (c_X9_evenCost_none hI hR (t := 1) (by decide) q1).mono fun r w ⟨Y4, g1, g2, g3, g4⟩ => ⟨Y4, _, g1, g2, g4.trans (by decide), (fun v h9 => by cases h9), n, nw, inv_keep q3 hI, rel_keep (rel_kY hR g3) q3⟩
      | some q9 =>
        obtain ⟨c, g, s⟩ := q9
        exact (c_X9_evenCost_some hI hR (t := 1) (by decide) q1).mono fun r w ⟨Y4, g1, g2, g3, g4⟩ => ⟨Y4, _, g1, g2, g4, fun v h9 => by cases h9; rfl, n, nw, inv_keep q3 hI, rel_keep (rel_kY hR g3) q3⟩
  · exact PR.e (E := eIAE) (c := 1) (fun O => c_X8_evenCost_ax h1 h2) (by simp) (fun O => c_X9_evenCost_ax hR h1 h2) (by show (1 : Int32) = lidx [eIAE, eNSE] eIAE; decide) hg
set_option maxRecDepth 100000 in
set_option maxHeartbeats 4000000 in
theorem p_evenByAll (hg : good X Y) (c : Int32) : PR G mX8_evenByAll mX9_evenByAll 6 6 [.int c] [.int c] [eIAE, eNSE] X Y false := by
  obtain ⟨n, nw, hI, hR⟩ := hg
  have h4 := hI.1
  have hn := inv_n hI
  have hg : good X Y := ⟨n, nw, hI, hR⟩
  rcases axs c with rfl | rfl | ⟨h1, h2⟩
  · refine ⟨fun r X2 => ∃ (o : Nat → Nat) (b : eb), evR X 0 n o b ∧ r = evAns b ∧ keep0 X X2, fun O => (c_X8_evenByAll_0 hI).mono fun r w ⟨X2, o, b, q1, q2, q3, q4⟩ => ⟨X2, q3, o, b, q1, q2, q4⟩, fun r X2 ⟨o, b, _, q, _⟩ => ?_, fun r X2 O ⟨o, b, q1, q2, q3⟩ => ?_, fun h9 => by cases h9⟩
    · cases b with
      | none => exact Or.inr ⟨eNSE, by simp, q⟩
      | some q9 => exact Or.inl ⟨_, q⟩
    · subst q2
      cases b with
      | none => exact (c_X9_evenByAll_none hI hR (t := 0) (by decide) q1).mono fun r w ⟨Y4, g1, g2, g3, g4⟩ => ⟨Y4, _, g1, g2, g4.trans (by decide), (fun v h9 => by cases h9), n, nw, inv_keep q3 hI, rel_keep (rel_kY hR g3) q3⟩
      | some q9 =>
        obtain ⟨c, g, s⟩ := q9
        exact (c_X9_evenByAll_some hI hR (t := 0) (by decide) q1).mono fun r w ⟨Y4, g1, g2, g3, g4⟩ => ⟨Y4, _, g1, g2, g4, fun v h9 => by cases h9; rfl, n, nw, inv_keep q3 hI, rel_keep (rel_kY hR g3) q3⟩
  · refine ⟨fun r X2 => ∃ (o : Nat → Nat) (b : eb), evR X 1 n o b ∧ r = evAns b ∧ keep0 X X2, fun O => (c_X8_evenByAll_1 hI).mono fun r w ⟨X2, o, b, q1, q2, q3, q4⟩ => ⟨X2, q3, o, b, q1, q2, q4⟩, fun r X2 ⟨o, b, _, q, _⟩ => ?_, fun r X2 O ⟨o, b, q1, q2, q3⟩ => ?_, fun h9 => by cases h9⟩
    · cases b with
      | none => exact Or.inr ⟨eNSE, by simp, q⟩
      | some q9 => exact Or.inl ⟨_, q⟩
    · subst q2
      cases b with
      | none => exact (c_X9_evenByAll_none hI hR (t := 1) (by decide) q1).mono fun r w ⟨Y4, g1, g2, g3, g4⟩ => ⟨Y4, _, g1, g2, g4.trans (by decide), (fun v h9 => by cases h9), n, nw, inv_keep q3 hI, rel_keep (rel_kY hR g3) q3⟩
      | some q9 =>
        obtain ⟨c, g, s⟩ := q9
        exact (c_X9_evenByAll_some hI hR (t := 1) (by decide) q1).mono fun r w ⟨Y4, g1, g2, g3, g4⟩ => ⟨Y4, _, g1, g2, g4, fun v h9 => by cases h9; rfl, n, nw, inv_keep q3 hI, rel_keep (rel_kY hR g3) q3⟩
  · exact PR.e (E := eIAE) (c := 1) (fun O => c_X8_evenByAll_ax h1 h2) (by simp) (fun O => c_X9_evenByAll_ax hR h1 h2) (by show (1 : Int32) = lidx [eIAE, eNSE] eIAE; decide) hg
set_option maxRecDepth 100000 in
set_option maxHeartbeats 4000000 in
theorem p_spread (hg : good X Y) (c : Int32) : PR G mX8_spread mX9_spread 6 5 [.int c] [.int c] [eIAE, eNSE] X Y false := by
  obtain ⟨n, nw, hI, hR⟩ := hg
  have h4 := hI.1
  have hn := inv_n hI
  have hg : good X Y := ⟨n, nw, hI, hR⟩
  rcases axs c with rfl | rfl | ⟨h1, h2⟩
  · refine ⟨fun r X2 => ∃ (o : Nat → Nat) (b : eb), evR X 0 n o b ∧ spA X 0 n o X2 b r, fun O => (c_X8_spread_0 hI).mono fun r w ⟨X2, o, b, q1, q2, q3⟩ => ⟨X2, q2, o, b, q1, q3⟩, fun r X2 ⟨o, b, _, q⟩ => ?_, fun r X2 O ⟨o, b, q1, q2⟩ => ?_, fun h9 => by cases h9⟩
    · cases b with
      | none => exact Or.inr ⟨eNSE, by simp, q.1⟩
      | some q9 => exact Or.inl ⟨_, q.1⟩
    · cases b with
      | none =>
        obtain ⟨rfl, q3⟩ := q2
        exact (c_X9_spread_none hI hR (t := 0) (by decide) q1).mono fun r w ⟨Y4, g1, g2, g3, g4⟩ => ⟨Y4, _, g1, g2, g4.trans (by decide), (fun v h9 => by cases h9), n, nw, inv_keep q3 hI, rel_keep (rel_kY hR g3) q3⟩
      | some q9 =>
        obtain ⟨c, g, s⟩ := q9
        obtain ⟨rfl, q3⟩ := q2
        exact (c_X9_spread_some hI hR (t := 0) (by decide) q1).mono fun r w ⟨Y4, g1, g2, g3, g4⟩ => ⟨Y4, _, g1, g2, g3, fun v h9 => by cases h9; rfl, n, nw, sp_inv hI (by decide) q1 q3, g4 X2 q3⟩
  · refine ⟨fun r X2 => ∃ (o : Nat → Nat) (b : eb), evR X 1 n o b ∧ spA X 1 n o X2 b r, fun O => (c_X8_spread_1 hI).mono fun r w ⟨X2, o, b, q1, q2, q3⟩ => ⟨X2, q2, o, b, q1, q3⟩, fun r X2 ⟨o, b, _, q⟩ => ?_, fun r X2 O ⟨o, b, q1, q2⟩ => ?_, fun h9 => by cases h9⟩
    · cases b with
      | none => exact Or.inr ⟨eNSE, by simp, q.1⟩
      | some q9 => exact Or.inl ⟨_, q.1⟩
    · cases b with
      | none =>
        obtain ⟨rfl, q3⟩ := q2
        exact (c_X9_spread_none hI hR (t := 1) (by decide) q1).mono fun r w ⟨Y4, g1, g2, g3, g4⟩ => ⟨Y4, _, g1, g2, g4.trans (by decide), (fun v h9 => by cases h9), n, nw, inv_keep q3 hI, rel_keep (rel_kY hR g3) q3⟩
      | some q9 =>
        obtain ⟨c, g, s⟩ := q9
        obtain ⟨rfl, q3⟩ := q2
        exact (c_X9_spread_some hI hR (t := 1) (by decide) q1).mono fun r w ⟨Y4, g1, g2, g3, g4⟩ => ⟨Y4, _, g1, g2, g3, fun v h9 => by cases h9; rfl, n, nw, sp_inv hI (by decide) q1 q3, g4 X2 q3⟩
  · exact PR.e (E := eIAE) (c := 1) (fun O => c_X8_spread_ax h1 h2) (by simp) (fun O => c_X9_spread_ax hR h1 h2) (by show (1 : Int32) = lidx [eIAE, eNSE] eIAE; decide) hg
set_option maxRecDepth 100000 in
set_option maxHeartbeats 4000000 in
theorem keep0_33 (X : zX) (f : Nat → Int32) (l : Int32) : keep0 X (xrow X 33 f l) := ⟨fun r hr => ⟨xrow_ln X (by omega) _ _, xrow_fn X (by omega) _ _⟩, rfl⟩
set_option maxRecDepth 100000 in
set_option maxHeartbeats 4000000 in
theorem gd_good {n nw : Nat} {f g : Nat → Int32} {l : Int32} (hI : inv X n nw) (hR : rel X Y n nw) : good (xrow X 33 f l) (yarr (yint Y 0 0) 14 g) := ⟨n, nw, inv_keep (keep0_33 X f l) hI, rel_keep (rel_arr (rel_thr hR 0) (by decide) g) (keep0_33 X f l)⟩
set_option maxRecDepth 100000 in
set_option maxHeartbeats 4000000 in
theorem p_guides (hg : good X Y) (c : Int32) : PR G mX8_guides mX9_guides 4 3 [.int c] [.int c] [eIAE] X Y false := by
  obtain ⟨n, nw, hI, hR⟩ := hg
  have h4 := hI.1
  have hn := inv_n hI
  have hg : good X Y := ⟨n, nw, hI, hR⟩
  rcases axs c with rfl | rfl | ⟨h1, h2⟩
  · refine ⟨fun r X2 => r = .inl (some (.int (nI (gdAll (X.2.1 33) (X.2.1 0) (X.2.1 1) n).2))) ∧ X2 = xrow X 33 (gdAll (X.2.1 33) (X.2.1 0) (X.2.1 1) n).1 (nI (gdAll (X.2.1 33) (X.2.1 0) (X.2.1 1) n).2), fun O => (c_X8_guides_0 h4 (hI.2.2.1 0 (by decide))).mono fun r w h => ⟨_, h.2, h.1, rfl⟩, fun r X2 h => Or.inl ⟨_, h.1⟩, fun r X2 O h => ?_, fun h9 => by cases h9⟩
    obtain ⟨rfl, rfl⟩ := h
    exact (c_X9_guides (f0 := X.2.1 33) hI hR (t := 0) (by decide)).mono fun r w ⟨g, g1, g2⟩ => ⟨_, _, g1, g2, rfl, fun v h9 => by cases h9; rfl, gd_good hI hR⟩
  · refine ⟨fun r X2 => r = .inl (some (.int (nI (gdAll (X.2.1 33) (X.2.1 2) (X.2.1 3) n).2))) ∧ X2 = xrow X 33 (gdAll (X.2.1 33) (X.2.1 2) (X.2.1 3) n).1 (nI (gdAll (X.2.1 33) (X.2.1 2) (X.2.1 3) n).2), fun O => (c_X8_guides_1 h4 (hI.2.2.1 2 (by decide))).mono fun r w h => ⟨_, h.2, h.1, rfl⟩, fun r X2 h => Or.inl ⟨_, h.1⟩, fun r X2 O h => ?_, fun h9 => by cases h9⟩
    obtain ⟨rfl, rfl⟩ := h
    exact (c_X9_guides (f0 := X.2.1 33) hI hR (t := 1) (by decide)).mono fun r w ⟨g, g1, g2⟩ => ⟨_, _, g1, g2, rfl, fun v h9 => by cases h9; rfl, gd_good hI hR⟩
  · exact PR.e (E := eIAE) (c := 1) (fun O => c_X8_guides_ax h1 h2) (by simp) (fun O => c_X9_guides_ax hR h1 h2) (by show (1 : Int32) = lidx [eIAE] eIAE; decide) hg
set_option maxRecDepth 100000 in
set_option maxHeartbeats 4000000 in
theorem p_guideAt (hg : good X Y) (c s : Int32) : PR G mX8_guideAt mX9_guideAt 4 3 [.int c, .int s] [.int c, .int s] [eIAE, eNSE] X Y false := by
  obtain ⟨n, nw, hI, hR⟩ := hg
  have h4 := hI.1
  have hn := inv_n hI
  have hg : good X Y := ⟨n, nw, hI, hR⟩
  rcases axs c with rfl | rfl | ⟨h1, h2⟩
  · have h6 : (gdAll (X.2.1 33) (X.2.1 0) (X.2.1 1) n).2 ≤ 6 := gnv_le (gnv_All _ _ _ h4)
    rcases rng s (show (gdAll (X.2.1 33) (X.2.1 0) (X.2.1 1) n).2 < 2 ^ 31 by omega) with h | ⟨j, hj, rfl⟩
    · refine ⟨fun r X2 => r = .inr eNSE ∧ X2 = xrow X 33 (gdAll (X.2.1 33) (X.2.1 0) (X.2.1 1) n).1 (nI (gdAll (X.2.1 33) (X.2.1 0) (X.2.1 1) n).2), fun O => (c_X8_guideAt_out_0 h4 (hI.2.2.1 0 (by decide)) h).mono fun r w h => ⟨_, h.2, h.1, rfl⟩, fun r X2 h => Or.inr ⟨eNSE, by simp, h.1⟩, fun r X2 O h => ?_, fun h9 => by cases h9⟩
      obtain ⟨rfl, rfl⟩ := h
      exact (c_X9_guideAt_out (f0 := X.2.1 33) hI hR (t := 0) (by decide) h).mono fun r w ⟨g, g1, g2⟩ => ⟨_, _, g1, g2, by show (2 : Int32) = lidx [eIAE, eNSE] eNSE; decide, fun v h9 => (by cases h9), good_thr (gd_good hI hR)⟩
    · refine ⟨fun r X2 => r = .inl (some (.int ((gdAll (X.2.1 33) (X.2.1 0) (X.2.1 1) n).1 j))) ∧ X2 = xrow X 33 (gdAll (X.2.1 33) (X.2.1 0) (X.2.1 1) n).1 (nI (gdAll (X.2.1 33) (X.2.1 0) (X.2.1 1) n).2), fun O => (c_X8_guideAt_0 h4 (hI.2.2.1 0 (by decide)) hj).mono fun r w h => ⟨_, h.2, h.1, rfl⟩, fun r X2 h => Or.inl ⟨_, h.1⟩, fun r X2 O h => ?_, fun h9 => by cases h9⟩
      obtain ⟨rfl, rfl⟩ := h
      exact (c_X9_guideAt (f0 := X.2.1 33) hI hR (t := 0) (by decide) hj).mono fun r w ⟨g, g1, g2⟩ => ⟨_, _, g1, g2, rfl, fun v h9 => by cases h9; rfl, gd_good hI hR⟩
  · have h6 : (gdAll (X.2.1 33) (X.2.1 2) (X.2.1 3) n).2 ≤ 6 := gnv_le (gnv_All _ _ _ h4)
    rcases rng s (show (gdAll (X.2.1 33) (X.2.1 2) (X.2.1 3) n).2 < 2 ^ 31 by omega) with h | ⟨j, hj, rfl⟩
    · refine ⟨fun r X2 => r = .inr eNSE ∧ X2 = xrow X 33 (gdAll (X.2.1 33) (X.2.1 2) (X.2.1 3) n).1 (nI (gdAll (X.2.1 33) (X.2.1 2) (X.2.1 3) n).2), fun O => (c_X8_guideAt_out_1 h4 (hI.2.2.1 2 (by decide)) h).mono fun r w h => ⟨_, h.2, h.1, rfl⟩, fun r X2 h => Or.inr ⟨eNSE, by simp, h.1⟩, fun r X2 O h => ?_, fun h9 => by cases h9⟩
      obtain ⟨rfl, rfl⟩ := h
      exact (c_X9_guideAt_out (f0 := X.2.1 33) hI hR (t := 1) (by decide) h).mono fun r w ⟨g, g1, g2⟩ => ⟨_, _, g1, g2, by show (2 : Int32) = lidx [eIAE, eNSE] eNSE; decide, fun v h9 => (by cases h9), good_thr (gd_good hI hR)⟩
    · refine ⟨fun r X2 => r = .inl (some (.int ((gdAll (X.2.1 33) (X.2.1 2) (X.2.1 3) n).1 j))) ∧ X2 = xrow X 33 (gdAll (X.2.1 33) (X.2.1 2) (X.2.1 3) n).1 (nI (gdAll (X.2.1 33) (X.2.1 2) (X.2.1 3) n).2), fun O => (c_X8_guideAt_1 h4 (hI.2.2.1 2 (by decide)) hj).mono fun r w h => ⟨_, h.2, h.1, rfl⟩, fun r X2 h => Or.inl ⟨_, h.1⟩, fun r X2 O h => ?_, fun h9 => by cases h9⟩
      obtain ⟨rfl, rfl⟩ := h
      exact (c_X9_guideAt (f0 := X.2.1 33) hI hR (t := 1) (by decide) hj).mono fun r w ⟨g, g1, g2⟩ => ⟨_, _, g1, g2, rfl, fun v h9 => by cases h9; rfl, gd_good hI hR⟩
  · exact PR.e (E := eIAE) (c := 1) (fun O => c_X8_guideAt_ax h1 h2) (by simp) (fun O => c_X9_guideAt_ax hR h1 h2) (by show (1 : Int32) = lidx [eIAE, eNSE] eIAE; decide) hg
set_option maxRecDepth 100000 in
set_option maxHeartbeats 4000000 in
theorem dist_iff {d : Int32} : (¬ d < 0 ∧ d ≤ 200) ↔ (¬ d < 0 ∧ ¬ 200 < d) := by rw [Int32.not_lt (a := 200)]
set_option maxRecDepth 100000 in
set_option maxHeartbeats 4000000 in
theorem gr_good {n nw : Nat} (hI : inv X n nw) (hR : rel X Y n nw) (low : Nat → Int32) (l : Int32) (g : Nat → Int32) (c : Int32) : good (xg X low l g c) (yint Y 0 0) := ⟨n, nw, inv_keep (keep0_xg X low l g c) hI, rel_keep (rel_thr hR 0) (keep0_xg X low l g c)⟩
set_option maxRecDepth 100000 in
set_option maxHeartbeats 4000000 in
theorem p_groups (hg : good X Y) (d : Int32) : PR G mX8_groups mX9_groups 5 4 [.int d] [.int d] [eIAE] X Y false := by
  obtain ⟨n, nw, hI, hR⟩ := hg
  have h4 := hI.1
  have hn := inv_n hI
  have hg : good X Y := ⟨n, nw, hI, hR⟩
  by_cases hd : ¬ d < 0 ∧ d ≤ 200
  · obtain ⟨b, hb64, hb⟩ := linked_ex X h4 d
    refine ⟨fun r X2 => r = .inl (some (.int (nI (grGo X n b).2))) ∧ ∃ (g : Nat → Int32) (c : Int32), X2 = xg X (grGo X n b).1 (nI n) g c, fun O => (c_X8_groups hn h4 hb hd).mono fun r w ⟨q1, g, c, q2⟩ => ⟨_, q2, q1, g, c, rfl⟩, fun r X2 h => Or.inl ⟨_, h.1⟩, fun r X2 O h => ?_, fun h9 => by cases h9⟩
    obtain ⟨rfl, g, c, rfl⟩ := h
    exact (c_X9_groups hR hb hb64 (dist_iff.mp hd)).mono fun r w h => ⟨_, _, h.1, h.2, rfl, fun v h9 => by cases h9; rfl, gr_good hI hR _ _ _ _⟩
  · exact PR.e (E := eIAE) (c := 1) (fun O => c_X8_groups_out hd) (by simp) (fun O => c_X9_groups_out hR (fun h9 => hd (dist_iff.mpr h9))) (by show (1 : Int32) = lidx [eIAE] eIAE; decide) hg
set_option maxRecDepth 100000 in
set_option maxHeartbeats 4000000 in
theorem p_groupsByLinks (hg : good X Y) (d : Int32) : PR G mX8_groupsByLinks mX9_groupsByLinks 4 5 [.int d] [.int d] [eIAE] X Y false := by
  obtain ⟨n, nw, hI, hR⟩ := hg
  have h4 := hI.1
  have hn := inv_n hI
  have hg : good X Y := ⟨n, nw, hI, hR⟩
  by_cases hd : ¬ d < 0 ∧ d ≤ 200
  · obtain ⟨b, hb64, hb⟩ := linked_ex X h4 d
    refine ⟨fun r X2 => r = .inl (some (.int ((grJoin X n b).2))) ∧ ∃ (g : Nat → Int32) (c : Int32), X2 = xg X (grJoin X n b).1 (nI n) g c, fun O => (c_X8_groupsByLinks hn h4 hb hd).mono fun r w ⟨q1, g, c, q2⟩ => ⟨_, q2, q1, g, c, rfl⟩, fun r X2 h => Or.inl ⟨_, h.1⟩, fun r X2 O h => ?_, fun h9 => by cases h9⟩
    obtain ⟨rfl, g, c, rfl⟩ := h
    exact (c_X9_groupsByLinks hR hb hb64 (dist_iff.mp hd)).mono fun r w h => ⟨_, _, h.1, h.2, rfl, fun v h9 => by cases h9; exact counts_agree h4 hb64, gr_good hI hR _ _ _ _⟩
  · exact PR.e (E := eIAE) (c := 1) (fun O => c_X8_groupsByLinks_out hd) (by simp) (fun O => c_X9_groupsByLinks_out hR (fun h9 => hd (dist_iff.mpr h9))) (by show (1 : Int32) = lidx [eIAE] eIAE; decide) hg
set_option maxRecDepth 100000 in
set_option maxHeartbeats 4000000 in
theorem p_groupOf (hg : good X Y) (s d : Int32) : PR G mX8_groupOf mX9_groupOf 5 4 [.int s, .int d] [.int s, .int d] [eIOOBE, eIAE] X Y false := by
  obtain ⟨n, nw, hI, hR⟩ := hg
  have h4 := hI.1
  have hn := inv_n hI
  have hg : good X Y := ⟨n, nw, hI, hR⟩
  rcases rng s (show n < 2 ^ 31 by omega) with h | ⟨k, hk, rfl⟩
  · exact PR.e (E := eIOOBE) (c := 1) (fun O => c_X8_groupOf_out hn h) (by simp) (fun O => c_X9_groupOf_out hR h) (by show (1 : Int32) = lidx [eIOOBE, eIAE] eIOOBE; decide) hg
  · by_cases hd : ¬ d < 0 ∧ d ≤ 200
    · obtain ⟨b, hb64, hb⟩ := linked_ex X h4 d
      refine ⟨fun r X2 => r = .inl (some (.int ((grGo X n b).1 k))) ∧ ∃ (g : Nat → Int32) (c : Int32), X2 = xg X (grGo X n b).1 (nI n) g c, fun O => (c_X8_groupOf hn h4 hb hd hk).mono fun r w ⟨q1, g, c, q2⟩ => ⟨_, q2, q1, g, c, rfl⟩, fun r X2 h => Or.inl ⟨_, h.1⟩, fun r X2 O h => ?_, fun h9 => by cases h9⟩
      obtain ⟨rfl, g, c, rfl⟩ := h
      exact (c_X9_groupOf hR hb hk hb64 (dist_iff.mp hd)).mono fun r w h => ⟨_, _, h.1, h.2, rfl, fun v h9 => by cases h9; rfl, gr_good hI hR _ _ _ _⟩
    · exact PR.e (E := eIAE) (c := 2) (fun O => c_X8_groupOf_d hn h4 hk hd) (by simp) (fun O => c_X9_groupOf_d hR hk (fun h9 => hd (dist_iff.mpr h9))) (by show (2 : Int32) = lidx [eIOOBE, eIAE] eIAE; decide) hg
end
