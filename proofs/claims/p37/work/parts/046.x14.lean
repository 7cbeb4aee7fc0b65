section
variable {G : zG} {X : zX} {Y : zY} {O : zO}
/- how many numbers below m have p -/
set_option maxRecDepth 100000 in
set_option maxHeartbeats 4000000 in
def cnt (p : Nat → Bool) : Nat → Nat
  | 0 => 0
  | m + 1 => cnt p m + (if p m = true then 1 else 0)
set_option maxRecDepth 100000 in
set_option maxHeartbeats 4000000 in
theorem cnt_le (p : Nat → Bool) : ∀ m, cnt p m ≤ m
  | 0 => Nat.le_refl _
  | m + 1 => by unfold cnt; have := cnt_le p m; split <;> omega
set_option maxRecDepth 100000 in
set_option maxHeartbeats 4000000 in
theorem cnt_add {p r s : Nat → Bool} (hd : ∀ q, ¬ (p q = true ∧ r q = true)) (hs : ∀ q, s q = true ↔ p q = true ∨ r q = true) : ∀ m, cnt p m + cnt r m = cnt s m
  | 0 => rfl
  | m + 1 => by
    have h1 := cnt_add hd hs m
    have h2 := hd m
    have h3 := hs m
    unfold cnt
    cases hp : p m <;> cases hr : r m <;> simp_all <;> omega
set_option maxRecDepth 100000 in
set_option maxHeartbeats 4000000 in
theorem cnt_one {p : Nat → Bool} : ∀ m q, q < m → p q = true → 1 ≤ cnt p m
  | 0, _, h, _ => absurd h (Nat.not_lt_zero _)
  | m + 1, q, h, hp => by
    unfold cnt
    rcases Nat.lt_or_ge q m with h1 | h1
    · have := cnt_one m q h1 hp; omega
    · have h2 : q = m := by omega
      subst h2; rw [if_pos hp]; omega
set_option maxRecDepth 100000 in
set_option maxHeartbeats 4000000 in
theorem cnt_two {p : Nat → Bool} : ∀ m q s, q < s → s < m → p q = true → p s = true → 2 ≤ cnt p m
  | 0, _, _, _, h, _, _ => absurd h (Nat.not_lt_zero _)
  | m + 1, q, s, hqs, hs, hp, hr => by
    unfold cnt
    rcases Nat.lt_or_ge s m with h1 | h1
    · have := cnt_two m q s hqs h1 hp hr; omega
    · have h2 : s = m := by omega
      subst h2; rw [if_pos hr]
      have := cnt_one s q hqs hp; omega
/- different values, each met twice at least: twice as many places -/
set_option maxRecDepth 100000 in
set_option maxHeartbeats 4000000 in
theorem cnt_pairs {F g : Nat → Int32} {M : Nat} : ∀ c, (∀ j k, j < k → k < c → g j ≠ g k) → (∀ j, j < c → ∃ a b, a < b ∧ b < M ∧ F a = g j ∧ F b = g j) → 2 * c ≤ cnt (fun q => rany (fun j => g j = F q) 0 c) M
  | 0, _, _ => Nat.zero_le _
  | c + 1, hne, hex => by
    have h1 := cnt_pairs c (fun j k hjk hk => hne j k hjk (by omega)) (fun j hj => hex j (by omega))
    obtain ⟨a, b, hab, hb, ea, eb⟩ := hex c (Nat.lt_succ_self c)
    have h2 : 2 ≤ cnt (fun q => decide (g c = F q)) M := cnt_two M a b hab hb (decide_eq_true ea.symm) (decide_eq_true eb.symm)
    have h3 : cnt (fun q => rany (fun j => g j = F q) 0 c) M + cnt (fun q => decide (g c = F q)) M = cnt (fun q => rany (fun j => g j = F q) 0 (c + 1)) M := cnt_add (fun q h => by
        obtain ⟨x, y⟩ := h
        obtain ⟨j, _, hj, e⟩ := (rany_iff _ _).mp x
        exact hne j c (by omega) (Nat.lt_succ_self c) (e.trans (of_decide_eq_true y).symm)) (fun q => by
        constructor
        · intro h
          obtain ⟨j, _, hj, e⟩ := (rany_iff _ _).mp h
          rcases Nat.lt_or_ge j c with h4 | h4
          · exact Or.inl ((rany_iff _ _).mpr ⟨j, Nat.zero_le _, by omega, e⟩)
          · have h5 : j = c := by omega
            subst h5; exact Or.inr (decide_eq_true e)
        · intro h
          rcases h with h | h
          · obtain ⟨j, _, hj, e⟩ := (rany_iff _ _).mp h
            exact (rany_iff _ _).mpr ⟨j, Nat.zero_le _, by omega, e⟩
          · exact (rany_iff _ _).mpr ⟨c, Nat.zero_le _, by omega, of_decide_eq_true h⟩) M
    omega
/- twice the edge e of the shape i -/
set_option maxRecDepth 100000 in
set_option maxHeartbeats 4000000 in
abbrev tedge (S Z : Nat → Int32) (i e : Nat) : Int32 := 2 * S i + nI e * Z i
set_option maxRecDepth 100000 in
set_option maxHeartbeats 4000000 in
abbrev redge (S Z : Nat → Int32) (v : Int32) (i : Nat) : Bool := rany (fun e => 2 * S i + nI e * Z i = v) 0 3
set_option maxRecDepth 100000 in
set_option maxHeartbeats 4000000 in
abbrev rlow (S Z : Nat → Int32) (v : Int32) (k : Nat) : Bool := rany (fun i => redge S Z v i = true) 0 k
set_option maxRecDepth 100000 in
set_option maxHeartbeats 4000000 in
def gdE (S Z : Nat → Int32) (i : Nat) : Nat → Nat → rst → rst
  | _, 0, a => a
  | e, m + 1, a => gdE S Z i (e + 1) m (if rlow S Z (tedge S Z i e) i = true then insNew (tedge S Z i e) a else a)
set_option maxRecDepth 100000 in
set_option maxHeartbeats 4000000 in
def gdO (S Z : Nat → Int32) : Nat → Nat → rst → rst
  | _, 0, a => a
  | i, m + 1, a => gdO S Z (i + 1) m (gdE S Z i 0 3 a)
set_option maxRecDepth 100000 in
set_option maxHeartbeats 4000000 in
def gdAll (f : Nat → Int32) (S Z : Nat → Int32) (n : Nat) : rst := gdO S Z 0 n (f, 0)
/- guides: all different, each an edge of two shapes -/
set_option maxRecDepth 100000 in
set_option maxHeartbeats 4000000 in
def gnv (S Z : Nat → Int32) (a : rst) : Prop := (∀ j k, j < k → k < a.2 → a.1 j ≠ a.1 k) ∧ ∀ j, j < a.2 → ∃ q s, q < s ∧ s < 12 ∧ tedge S Z (q / 3) (q % 3) = a.1 j ∧ tedge S Z (s / 3) (s % 3) = a.1 j
set_option maxRecDepth 100000 in
set_option maxHeartbeats 4000000 in
theorem gnv_le {S Z : Nat → Int32} {a : rst} (h : gnv S Z a) : a.2 ≤ 6 := by
  have h1 := cnt_pairs (F := fun q => tedge S Z (q / 3) (q % 3)) (M := 12) a.2 h.1 h.2
  have h2 := cnt_le (fun q => rany (fun j => a.1 j = tedge S Z (q / 3) (q % 3)) 0 a.2) 12
  omega
set_option maxRecDepth 100000 in
set_option maxHeartbeats 4000000 in
theorem rins_at (v : Int32) : ∀ (k : Nat) (f : Nat → Int32), ∃ s, s ≤ k ∧ (∀ j, rins f v k j = if j < s then f j else if j = s then v else if j ≤ k then f (j - 1) else f j) ∧ (s = 0 ∨ ¬ v < f (s - 1)) ∧ ∀ j, s ≤ j → j < k → v < f j
  | 0, f => ⟨0, Nat.le_refl _, fun j => by
      show (if j = 0 then v else f j) = _
      rcases Decidable.em (j = 0) with h | h
      · rw [if_pos h, if_neg (show ¬ j < 0 by omega), if_pos h]
      · rw [if_neg h, if_neg (show ¬ j < 0 by omega), if_neg h, if_neg (show ¬ j ≤ 0 by omega)], Or.inl rfl, fun j h1 h2 => absurd h2 (Nat.not_lt_zero _)⟩
  | p + 1, f => by
    rcases Decidable.em (v < f p) with hv | hv
    · obtain ⟨s, hs, hat, h1, h2⟩ := rins_at v p (upd f (p + 1) (f p))
      have hg : ∀ j, j ≤ p → upd f (p + 1) (f p) j = f j := fun j hj => if_neg (by omega)
      refine ⟨s, by omega, fun j => ?_, ?_, fun j h3 h4 => ?_⟩
      · rw [show rins f v (p + 1) = rins (upd f (p + 1) (f p)) v p from if_pos hv, hat j]
        rcases Nat.lt_or_ge j s with h5 | h5
        · rw [if_pos h5, if_pos h5, hg j (by omega)]
        · rw [if_neg (show ¬ j < s by omega), if_neg (show ¬ j < s by omega)]
          rcases Decidable.em (j = s) with h6 | h6
          · rw [if_pos h6, if_pos h6]
          · rw [if_neg h6, if_neg h6]
            rcases Nat.lt_or_ge p j with h7 | h7
            · rw [if_neg (show ¬ j ≤ p by omega)]
              rcases Decidable.em (j = p + 1) with h8 | h8
              · rw [if_pos (show j ≤ p + 1 by omega), h8]; exact if_pos rfl
              · rw [if_neg (show ¬ j ≤ p + 1 by omega)]; exact if_neg h8
            · rw [if_pos h7, if_pos (show j ≤ p + 1 by omega), hg (j - 1) (by omega)]
      · rcases h1 with h1 | h1
        · exact Or.inl h1
        · rw [hg (s - 1) (by omega)] at h1; exact Or.inr h1
      · rcases Nat.lt_or_ge j p with h5 | h5
        · have h6 := h2 j h3 h5
          rw [hg j (by omega)] at h6; exact h6
        · have h6 : j = p := by omega
          rw [h6]; exact hv
    · refine ⟨p + 1, Nat.le_refl _, fun j => ?_, Or.inr hv, fun j h3 h4 => absurd h4 (by omega)⟩
      rw [show rins f v (p + 1) = upd f (p + 1) v from if_neg hv]
      show (if j = p + 1 then v else f j) = _
      rcases Nat.lt_or_ge j (p + 1) with h5 | h5
      · rw [if_neg (show ¬ j = p + 1 by omega), if_pos h5]
      · rw [if_neg (show ¬ j < p + 1 by omega)]
        rcases Decidable.em (j = p + 1) with h6 | h6
        · rw [if_pos h6, if_pos h6]
        · rw [if_neg h6, if_neg h6, if_neg (show ¬ j ≤ p + 1 by omega)]
/- where each place of the new list comes from -/
set_option maxRecDepth 100000 in
set_option maxHeartbeats 4000000 in
theorem rins_from (v : Int32) (k : Nat) (f : Nat → Int32) : ∃ s, s ≤ k ∧ ∀ j, j < k + 1 → (j = s ∧ rins f v k j = v) ∨ (j ≠ s ∧ ∃ i, i < k ∧ rins f v k j = f i ∧ i = if j < s then j else j - 1) := by
  obtain ⟨s, hs, hat, _, _⟩ := rins_at v k f
  refine ⟨s, hs, fun j hj => ?_⟩
  have h := hat j
  rcases Nat.lt_or_ge j s with h5 | h5
  · rw [if_pos h5] at h; exact Or.inr ⟨by omega, j, by omega, h, (if_pos h5).symm⟩
  · rw [if_neg (show ¬ j < s by omega)] at h
    rcases Decidable.em (j = s) with h6 | h6
    · rw [if_pos h6] at h; exact Or.inl ⟨h6, h⟩
    · rw [if_neg h6, if_pos (show j ≤ k by omega)] at h
      exact Or.inr ⟨h6, j - 1, by omega, h, (if_neg (by omega)).symm⟩
set_option maxRecDepth 100000 in
set_option maxHeartbeats 4000000 in
theorem gnv_new {S Z : Nat → Int32} {a : rst} {i e : Nat} (h : gnv S Z a) (hi : i < 4) (he : e < 3) (hl : rlow S Z (tedge S Z i e) i = true) (hn : ¬ rany (fun j => a.1 j = tedge S Z i e) 0 a.2 = true) : gnv S Z (rins a.1 (tedge S Z i e) a.2, a.2 + 1) := by
  obtain ⟨i2, _, hi2, hr⟩ := (rany_iff _ _).mp hl
  obtain ⟨e2, _, he2, hv⟩ := (rany_iff _ _).mp hr
  obtain ⟨s, hs, hval⟩ := rins_from (tedge S Z i e) a.2 a.1
  have hne : ∀ x, x < a.2 → a.1 x ≠ tedge S Z i e := fun x hx h3 => hn ((rany_iff _ _).mpr ⟨x, Nat.zero_le _, by omega, h3⟩)
  refine ⟨fun j k hjk hk => ?_, fun j hj => ?_⟩
  · show rins a.1 (tedge S Z i e) a.2 j ≠ rins a.1 (tedge S Z i e) a.2 k
    have hk2 : k < a.2 + 1 := hk
    rcases hval j (by omega) with ⟨e1, v1⟩ | ⟨n1, x, hx, v1, w1⟩
    · rcases hval k hk2 with ⟨e3, v3⟩ | ⟨n3, y, hy, v3, w3⟩
      · omega
      · rw [v1, v3]; exact fun h3 => hne y hy h3.symm
    · rcases hval k hk2 with ⟨e3, v3⟩ | ⟨n3, y, hy, v3, w3⟩
      · rw [v1, v3]; exact hne x hx
      · rw [v1, v3]
        exact h.1 x y (by split at w1 <;> split at w3 <;> omega) hy
  · have hj2 : j < a.2 + 1 := hj
    show ∃ q s, q < s ∧ s < 12 ∧ tedge S Z (q / 3) (q % 3) = rins a.1 (tedge S Z i e) a.2 j ∧ tedge S Z (s / 3) (s % 3) = rins a.1 (tedge S Z i e) a.2 j
    rcases hval j hj2 with ⟨e1, v1⟩ | ⟨n1, x, hx, v1, w1⟩
    · rw [v1]
      refine ⟨3 * i2 + e2, 3 * i + e, by omega, by omega, ?_, ?_⟩
      · rw [show (3 * i2 + e2) / 3 = i2 by omega, show (3 * i2 + e2) % 3 = e2 by omega]; exact hv
      · rw [show (3 * i + e) / 3 = i by omega, show (3 * i + e) % 3 = e by omega]
    · rw [v1]; exact h.2 x hx
set_option maxRecDepth 100000 in
set_option maxHeartbeats 4000000 in
theorem gnv_E {S Z : Nat → Int32} {i : Nat} (hi : i < 4) : ∀ (m e : Nat) (a : rst), e + m ≤ 3 → gnv S Z a → gnv S Z (gdE S Z i e m a)
  | 0, _, _, _, h => h
  | m + 1, e, a, he, h => by
    unfold gdE
    refine gnv_E hi m (e + 1) _ (by omega) ?_
    split
    · rename_i h1
      unfold insNew
      split
      · exact h
      · rename_i h2; exact gnv_new h hi (by omega) h1 h2
    · exact h
set_option maxRecDepth 100000 in
set_option maxHeartbeats 4000000 in
theorem z_X0_isEdgeOfLower_10 {t : Nat} (ht : t < 2) {k i : Nat} {v : Int32} {P : zRes → zWorld → Prop} (hi : i < 4) : ∀ (m e : Nat), e + m = 3 → (rany (fun e => 2 * (X.2.1 (2 * t)) i + nI e * (X.2.1 (2 * t + 1)) i = v) e m = true → P (.inl (some (.int 1))) (zw X Y O)) → (¬ rany (fun e => 2 * (X.2.1 (2 * t)) i + nI e * (X.2.1 (2 * t + 1)) i = v) e m = true → Z G mX0_isEdgeOfLower (zrm 2 0 0) 0 0 35 [some (.ref (zax t)), some (.int (nI k)), some (.int v), some (.int (nI i)), some (.int (nI 3))] [] (zw X Y O) P) → Z G mX0_isEdgeOfLower (zrm 2 0 0) 0 0 10 [some (.ref (zax t)), some (.int (nI k)), some (.int v), some (.int (nI i)), some (.int (nI e))] [] (zw X Y O) P := by
  intro m
  induction m with
  | zero =>
    intro e he h1 h0
    have hin : e = 3 := by omega
    subst hin
    refine z_iload dX0_isEdgeOfLower_10 rfl (q := 12) rfl ?_
    refine z_iconst (v := 2) dX0_isEdgeOfLower_12 rfl (q := 13) rfl ?_
    refine z_icmp_gt (tgt := 35) dX0_isEdgeOfLower_13 (by decide) (q := 16) rfl (fun h13 => ?_) (fun h13 => absurd (nI_lt (a := 2) (b := 3) (by omega) (by omega)) h13)
    exact h0 Bool.false_ne_true
  | succ m ih =>
    intro e he h1 h0
    refine z_iload dX0_isEdgeOfLower_10 rfl (q := 12) rfl ?_
    refine z_iconst (v := 2) dX0_isEdgeOfLower_12 rfl (q := 13) rfl ?_
    refine z_icmp_gt (tgt := 35) dX0_isEdgeOfLower_13 (by decide) (q := 16) rfl (fun h13 => absurd h13 (fun h9 => absurd (nI_le (a := e) (b := 2) (by omega) (by omega)) (Int32.not_le.mpr h9))) (fun h13 => ?_)
    refine z_aload_n (i := 0) dX0_isEdgeOfLower_16 rfl rfl (q := 17) rfl ?_
    refine z_iload_n (i := 3) dX0_isEdgeOfLower_17 rfl rfl (q := 18) rfl ?_
    refine z_iload dX0_isEdgeOfLower_18 rfl (q := 20) rfl ?_
    refine z_callVF (As := [_, _]) dX0_isEdgeOfLower_20 kX0_58 (c_X0_twiceEdge (t := t) ht (by omega)) (wax_o _ _ _ ht) rfl rfl (zle rfl) ⟨zle rfl, zle rfl⟩ ⟨zle rfl, zle rfl⟩ (q := 23) rfl ?_
    refine z_iload_n (i := 2) dX0_isEdgeOfLower_23 rfl rfl (q := 24) rfl ?_
    refine z_icmp_ne (tgt := 29) dX0_isEdgeOfLower_24 (by decide) (q := 27) rfl (fun h24 => ?_) (fun h24 => ?_)
    · refine z_iinc dX0_isEdgeOfLower_29 rfl rfl (zle rfl) rfl (q := 32) rfl ?_
      refine z_goto (tgt := 10) dX0_isEdgeOfLower_32 (by decide) ?_
      refine Z.eql (zl2 := [some (.ref (zax t)), some (.int (nI k)), some (.int v), some (.int (nI i)), some (.int (nI (e + 1)))]) (by first | (rw [← nI_1 e]; done) | (rw [← nI_1 e]; rfl)) ?_
      exact ih (e + 1) (by omega) (fun h => h1 (by rw [rany, if_neg h24]; exact h)) (fun h => h0 (by rw [rany, if_neg h24]; exact h))
    · refine z_iconst (v := 1) dX0_isEdgeOfLower_27 rfl (q := 28) rfl ?_
      exact z_zret dX0_isEdgeOfLower_28 rfl rfl ⟨zle rfl, zle rfl⟩ (h1 (by rw [rany, if_pos h24]))
set_option maxRecDepth 100000 in
set_option maxHeartbeats 4000000 in
theorem z_X0_isEdgeOfLower_2 {t : Nat} (ht : t < 2) {k : Nat} {v : Int32} (hk : k ≤ 4) : ∀ (m i : Nat) (e4 : Option Value), i + m = k → Z G mX0_isEdgeOfLower (zrm 2 0 0) 0 0 2 [some (.ref (zax t)), some (.int (nI k)), some (.int v), some (.int (nI i)), e4] [] (zw X Y O) (zEq (some (.int (zB (rany (fun i => redge (X.2.1 (2 * t)) (X.2.1 (2 * t + 1)) v i = true) i m)))) (zw X Y O)) := by
  intro m
  induction m with
  | zero =>
    intro i e4 hi
    have hin : i = k := by omega
    subst hin
    refine z_iload_n (i := 3) dX0_isEdgeOfLower_2 rfl rfl (q := 3) rfl ?_
    refine z_iload_n (i := 1) dX0_isEdgeOfLower_3 rfl rfl (q := 4) rfl ?_
    refine z_icmp_ge (tgt := 41) dX0_isEdgeOfLower_4 (by decide) (q := 7) rfl (fun h4 => ?_) (fun h4 => absurd (zge_t (by omega)) h4)
    refine z_iconst (v := 0) dX0_isEdgeOfLower_41 rfl (q := 42) rfl ?_
    exact z_zret dX0_isEdgeOfLower_42 rfl (by first | rfl | assumption | decide) ⟨zle rfl, zle rfl⟩ ⟨rfl, rfl⟩
  | succ m ih =>
    intro i e4 hi
    refine z_iload_n (i := 3) dX0_isEdgeOfLower_2 rfl rfl (q := 3) rfl ?_
    refine z_iload_n (i := 1) dX0_isEdgeOfLower_3 rfl rfl (q := 4) rfl ?_
    refine z_icmp_ge (tgt := 41) dX0_isEdgeOfLower_4 (by decide) (q := 7) rfl (fun h4 => absurd h4 (zge_f (by omega) (by omega))) (fun h4 => ?_)
    refine z_iconst (v := 0) dX0_isEdgeOfLower_7 rfl (q := 8) rfl ?_
    refine z_istore dX0_isEdgeOfLower_8 (zle rfl) rfl (q := 10) rfl ?_
    refine z_X0_isEdgeOfLower_10 ht (by omega) 3 0 (by omega) (fun h => ⟨by rw [rany, if_pos (show redge (X.2.1 (2 * t)) (X.2.1 (2 * t + 1)) v i = true from h)]; rfl, rfl⟩) (fun h => ?_)
    rw [rany, if_neg (show ¬ redge (X.2.1 (2 * t)) (X.2.1 (2 * t + 1)) v i = true from h)]
    refine z_iinc dX0_isEdgeOfLower_35 rfl rfl (zle rfl) rfl (q := 38) rfl ?_
    refine z_goto (tgt := 2) dX0_isEdgeOfLower_38 (by decide) ?_
    refine Z.eql (zl2 := [some (.ref (zax t)), some (.int (nI k)), some (.int v), some (.int (nI (i + 1))), some (.int (nI 3))]) (by first | (rw [← nI_1 i]; done) | (rw [← nI_1 i]; rfl)) ?_
    exact ih (i + 1) _ (by omega)
set_option maxRecDepth 100000 in
set_option maxHeartbeats 4000000 in
theorem c_X0_isEdgeOfLower {t : Nat} (ht : t < 2) {k : Nat} {v : Int32} (hk : k ≤ 4) : ZM G mX0_isEdgeOfLower 2 0 0 [.ref (zax t), .int (nI k), .int v] (zw X Y O) (zEq (some (.int (zB (rlow (X.2.1 (2 * t)) (X.2.1 (2 * t + 1)) v k)))) (zw X Y O)) := by
  refine ZM.go pX0 rfl rfl (zle rfl) (zl := [some (.ref (zax t)), some (.int (nI k)), some (.int v), none, none]) rfl ?_
  refine z_iconst (v := 0) dX0_isEdgeOfLower_0 rfl (q := 1) rfl ?_
  refine z_istore_n (i := 3) dX0_isEdgeOfLower_1 rfl (zle rfl) rfl (q := 2) rfl ?_
  exact z_X0_isEdgeOfLower_2 ht hk k 0 none (by omega)
set_option maxRecDepth 100000 in
set_option maxHeartbeats 4000000 in
theorem z_X0_listGuides_19_0 {n : Nat} (hn : X.1 0 = nI n) (h4 : n ≤ 4) {i : Nat} {P : zRes → zWorld → Prop} (hi : i < n) : ∀ (m e : Nat) (a : rst) (tl : Option Value), e + m = 3 → gnv (X.2.1 0) (X.2.1 1) a → (∀ tl, Z G mX0_listGuides (zrm 3 0 0) 0 0 63 [some (.ref 1), some (.ref 75), some (.int (nI i)), some (.int (nI 3)), tl] [] (zw (xrow X 33 (gdE (X.2.1 0) (X.2.1 1) i e m a).1 (nI (gdE (X.2.1 0) (X.2.1 1) i e m a).2)) Y O) P) → Z G mX0_listGuides (zrm 3 0 0) 0 0 19 [some (.ref 1), some (.ref 75), some (.int (nI i)), some (.int (nI e)), tl] [] (zw (xrow X 33 a.1 (nI a.2)) Y O) P := by
  intro m
  induction m with
  | zero =>
    intro e a tl he hv hx
    have hin : e = 3 := by omega
    subst hin
    simp only [gdE] at hx
    refine z_iload_n (i := 3) dX0_listGuides_19 rfl rfl (q := 20) rfl ?_
    refine z_iconst (v := 2) dX0_listGuides_20 rfl (q := 21) rfl ?_
    refine z_icmp_gt (tgt := 63) dX0_listGuides_21 (by decide) (q := 24) rfl (fun h21 => ?_) (fun h21 => absurd (nI_lt (a := 2) (b := 3) (by omega) (by omega)) h21)
    exact hx tl
  | succ m ih =>
    intro e a tl he hv hx
    have h66 : a.2 ≤ 6 := gnv_le hv
    refine z_iload_n (i := 3) dX0_listGuides_19 rfl rfl (q := 20) rfl ?_
    refine z_iconst (v := 2) dX0_listGuides_20 rfl (q := 21) rfl ?_
    refine z_icmp_gt (tgt := 63) dX0_listGuides_21 (by decide) (q := 24) rfl (fun h21 => absurd h21 (fun h9 => absurd (nI_le (a := e) (b := 2) (by omega) (by omega)) (Int32.not_le.mpr h9))) (fun h21 => ?_)
    refine z_aload_n (i := 0) dX0_listGuides_24 rfl rfl (q := 25) rfl ?_
    refine z_iload_n (i := 2) dX0_listGuides_25 rfl rfl (q := 26) rfl ?_
    refine z_iload_n (i := 3) dX0_listGuides_26 rfl rfl (q := 27) rfl ?_
    refine z_callVF (As := [_, _]) dX0_listGuides_27 kX0_58 (c_X0_twiceEdge (t := 0) (by decide) (by omega)) (wo_across _ _ _) rfl rfl (zle rfl) ⟨zle rfl, zle rfl⟩ ⟨zle rfl, zle rfl⟩ (q := 30) rfl ?_
    refine z_istore dX0_listGuides_30 (zle rfl) rfl (q := 32) rfl ?_
    refine z_aload_n (i := 0) dX0_listGuides_32 rfl rfl (q := 33) rfl ?_
    refine z_iload_n (i := 2) dX0_listGuides_33 rfl rfl (q := 34) rfl ?_
    refine z_iload dX0_listGuides_34 rfl (q := 36) rfl ?_
    refine z_callVF (As := [_, _]) dX0_listGuides_36 kX0_61 (c_X0_isEdgeOfLower (t := 0) (by decide) (by omega)) (wo_across _ _ _) rfl rfl (zle rfl) ⟨zle rfl, zle rfl⟩ ⟨zle rfl, zle rfl⟩ (q := 39) rfl ?_
    refine z_if_eq (tgt := 57) dX0_listGuides_39 (by decide) (q := 42) rfl (fun h39 => ?_) (fun h39 => ?_)
    · refine z_iinc dX0_listGuides_57 rfl rfl (zle rfl) rfl (q := 60) rfl ?_
      refine z_goto (tgt := 19) dX0_listGuides_60 (by decide) ?_
      refine Z.eql (zl2 := [some (.ref 1), some (.ref 75), some (.int (nI i)), some (.int (nI (e + 1))), some (.int (tedge (X.2.1 0) (X.2.1 1) i e))]) (by first | (rw [← nI_1 e]; done) | (rw [← nI_1 e]; rfl)) ?_
      rw [show gdE (X.2.1 0) (X.2.1 1) i e (m + 1) a = gdE (X.2.1 0) (X.2.1 1) i (e + 1) m a from congrArg _ (if_neg (show ¬ rlow (X.2.1 0) (X.2.1 1) (tedge (X.2.1 0) (X.2.1 1) i e) i = true from zB_0 h39))] at hx
      exact ih (e + 1) a _ (by omega) hv hx
    · refine z_aload_n (i := 1) dX0_listGuides_42 rfl rfl (q := 43) rfl ?_
      refine z_iload dX0_listGuides_43 rfl (q := 45) rfl ?_
      refine z_callVF (As := [_]) dX0_listGuides_45 kX0_54 (c_X4_contains (k := a.2) (wr_33 _ _ _) rfl (by omega) (by decide)) (wr_33 _ _ _).1 rfl rfl (zle rfl) ⟨zle rfl, zle rfl⟩ ⟨zle rfl, zle rfl⟩ (q := 48) rfl ?_
      refine z_if_ne (tgt := 57) dX0_listGuides_48 (by decide) (q := 51) rfl (fun h48 => ?_) (fun h48 => ?_)
      · refine z_iinc dX0_listGuides_57 rfl rfl (zle rfl) rfl (q := 60) rfl ?_
        refine z_goto (tgt := 19) dX0_listGuides_60 (by decide) ?_
        refine Z.eql (zl2 := [some (.ref 1), some (.ref 75), some (.int (nI i)), some (.int (nI (e + 1))), some (.int (tedge (X.2.1 0) (X.2.1 1) i e))]) (by first | (rw [← nI_1 e]; done) | (rw [← nI_1 e]; rfl)) ?_
        rw [show gdE (X.2.1 0) (X.2.1 1) i e (m + 1) a = gdE (X.2.1 0) (X.2.1 1) i (e + 1) m a from congrArg _ ((if_pos (show rlow (X.2.1 0) (X.2.1 1) (tedge (X.2.1 0) (X.2.1 1) i e) i = true from zB_1 h39)).trans (if_pos (show rany (fun j => a.1 j = (tedge (X.2.1 0) (X.2.1 1) i e)) 0 a.2 = true from zB_1 h48)))] at hx
        exact ih (e + 1) a _ (by omega) hv hx
      · have hnv := gnv_new (e := e) hv (show i < 4 by omega) (by omega) (show rlow (X.2.1 0) (X.2.1 1) (tedge (X.2.1 0) (X.2.1 1) i e) i = true from zB_1 h39) (show ¬ rany (fun j => a.1 j = (tedge (X.2.1 0) (X.2.1 1) i e)) 0 a.2 = true from zB_0 h48)
        have hle : a.2 + 1 ≤ 6 := gnv_le hnv
        refine z_aload_n (i := 1) dX0_listGuides_51 rfl rfl (q := 52) rfl ?_
        refine z_iload dX0_listGuides_52 rfl (q := 54) rfl ?_
        refine z_callVF (As := [_]) dX0_listGuides_54 kX0_51 (c_X4_insert' (k := a.2) (wr_33 _ _ _) rfl (by omega) (by decide)) (wr_33 _ _ _).1 rfl rfl (zle rfl) ⟨zle rfl, zle rfl⟩ ⟨zle rfl, zle rfl⟩ (q := 57) rfl ?_
        refine Z.eqw (wp_33 _ _ _ _ _) ?_
        rw [xrow_xrow]
        refine z_iinc dX0_listGuides_57 rfl rfl (zle rfl) rfl (q := 60) rfl ?_
        refine z_goto (tgt := 19) dX0_listGuides_60 (by decide) ?_
        refine Z.eql (zl2 := [some (.ref 1), some (.ref 75), some (.int (nI i)), some (.int (nI (e + 1))), some (.int (tedge (X.2.1 0) (X.2.1 1) i e))]) (by first | (rw [← nI_1 e]; done) | (rw [← nI_1 e]; rfl)) ?_
        rw [show gdE (X.2.1 0) (X.2.1 1) i e (m + 1) a = gdE (X.2.1 0) (X.2.1 1) i (e + 1) m (rins a.1 (tedge (X.2.1 0) (X.2.1 1) i e) a.2, a.2 + 1) from congrArg _ ((if_pos (show rlow (X.2.1 0) (X.2.1 1) (tedge (X.2.1 0) (X.2.1 1) i e) i = true from zB_1 h39)).trans (if_neg (show ¬ rany (fun j => a.1 j = (tedge (X.2.1 0) (X.2.1 1) i e)) 0 a.2 = true from zB_0 h48)))] at hx
        exact ih (e + 1) (rins a.1 (tedge (X.2.1 0) (X.2.1 1) i e) a.2, a.2 + 1) _ (by omega) hnv hx
set_option maxRecDepth 100000 in
set_option maxHeartbeats 4000000 in
theorem z_X0_listGuides_6_0 {n : Nat} (hn : X.1 0 = nI n) (h4 : n ≤ 4) : ∀ (m i : Nat) (a : rst) (e3 e4 : Option Value), i + m = n → gnv (X.2.1 0) (X.2.1 1) a → Z G mX0_listGuides (zrm 3 0 0) 0 0 6 [some (.ref 1), some (.ref 75), some (.int (nI i)), e3, e4] [] (zw (xrow X 33 a.1 (nI a.2)) Y O) (fun r w2 => r = .inl none ∧ w2 = zw (xrow X 33 (gdO (X.2.1 0) (X.2.1 1) i m a).1 (nI (gdO (X.2.1 0) (X.2.1 1) i m a).2)) Y O) := by
  intro m
  induction m with
  | zero =>
    intro i a e3 e4 hi hv
    refine z_iload_n (i := 2) dX0_listGuides_6 rfl rfl (q := 7) rfl ?_
    refine z_aload_n (i := 0) dX0_listGuides_7 rfl rfl (q := 8) rfl ?_
    refine z_get dX0_listGuides_8 fX0_14 (wo_across _ _ _) rfl (q := 11) rfl ?_
    refine z_callVF (As := []) dX0_listGuides_11 kX0_27 (c_X4_length (wr_0 _ _ _)) (wr_0 _ _ _).1 rfl rfl (zle rfl) ⟨zle rfl, zle rfl⟩ ⟨zle rfl, zle rfl⟩ (q := 14) rfl ?_
    rw [show (xrow X 33 a.1 (nI a.2)).1 0 = nI n from hn]
    refine z_icmp_ge (tgt := 69) dX0_listGuides_14 (by decide) (q := 17) rfl (fun h14 => ?_) (fun h14 => absurd (zge_t (by omega)) h14)
    exact z_vret dX0_listGuides_69 rfl ⟨zle rfl, zle rfl⟩ ⟨rfl, rfl⟩
  | succ m ih =>
    intro i a e3 e4 hi hv
    refine z_iload_n (i := 2) dX0_listGuides_6 rfl rfl (q := 7) rfl ?_
    refine z_aload_n (i := 0) dX0_listGuides_7 rfl rfl (q := 8) rfl ?_
    refine z_get dX0_listGuides_8 fX0_14 (wo_across _ _ _) rfl (q := 11) rfl ?_
    refine z_callVF (As := []) dX0_listGuides_11 kX0_27 (c_X4_length (wr_0 _ _ _)) (wr_0 _ _ _).1 rfl rfl (zle rfl) ⟨zle rfl, zle rfl⟩ ⟨zle rfl, zle rfl⟩ (q := 14) rfl ?_
    rw [show (xrow X 33 a.1 (nI a.2)).1 0 = nI n from hn]
    refine z_icmp_ge (tgt := 69) dX0_listGuides_14 (by decide) (q := 17) rfl (fun h14 => absurd h14 (zge_f (by omega) (by omega))) (fun h14 => ?_)
    refine z_iconst (v := 0) dX0_listGuides_17 rfl (q := 18) rfl ?_
    refine z_istore_n (i := 3) dX0_listGuides_18 rfl (zle rfl) rfl (q := 19) rfl ?_
    refine z_X0_listGuides_19_0 hn h4 (by omega) 3 0 a _ (by omega) hv (fun tl => ?_)
    refine z_iinc dX0_listGuides_63 rfl rfl (zle rfl) rfl (q := 66) rfl ?_
    refine z_goto (tgt := 6) dX0_listGuides_66 (by decide) ?_
    refine Z.eql (zl2 := [some (.ref 1), some (.ref 75), some (.int (nI (i + 1))), some (.int (nI 3)), tl]) (by first | (rw [← nI_1 i]; done) | (rw [← nI_1 i]; rfl)) ?_
    rw [show gdO (X.2.1 0) (X.2.1 1) i (m + 1) a = gdO (X.2.1 0) (X.2.1 1) (i + 1) m (gdE (X.2.1 0) (X.2.1 1) i 0 3 a) from rfl]
    exact ih (i + 1) _ _ _ (by omega) (gnv_E (by omega) 3 0 a (by omega) hv)
set_option maxRecDepth 100000 in
set_option maxHeartbeats 4000000 in
theorem c_X0_listGuides_0 {n : Nat} (hn : X.1 0 = nI n) (h4 : n ≤ 4) : ZM G mX0_listGuides 3 0 0 [.ref 1, .ref 75] (zw X Y O) (zEq none (zw (xrow X 33 (gdAll (X.2.1 33) (X.2.1 0) (X.2.1 1) n).1 (nI (gdAll (X.2.1 33) (X.2.1 0) (X.2.1 1) n).2)) Y O)) := by
  refine ZM.go pX0 rfl rfl (zle rfl) (zl := [some (.ref 1), some (.ref 75), none, none, none]) rfl ?_
  refine z_aload_n (i := 1) dX0_listGuides_0 rfl rfl (q := 1) rfl ?_
  refine z_callVF (As := []) dX0_listGuides_1 kX0_48 (c_X4_clear (wr_33 _ _ _)) (wr_33 _ _ _).1 rfl rfl (zle rfl) ⟨zle rfl, zle rfl⟩ ⟨zle rfl, zle rfl⟩ (q := 4) rfl ?_
  refine Z.eqw (wp_33 _ _ _ _ _) ?_
  refine z_iconst (v := 0) dX0_listGuides_4 rfl (q := 5) rfl ?_
  refine z_istore_n (i := 2) dX0_listGuides_5 rfl (zle rfl) rfl (q := 6) rfl ?_
  exact z_X0_listGuides_6_0 hn h4 n 0 ((X.2.1 33), 0) none none (by omega) ⟨fun j k _ h => absurd h (Nat.not_lt_zero _), fun j h => absurd h (Nat.not_lt_zero _)⟩
set_option maxRecDepth 100000 in
set_option maxHeartbeats 4000000 in
theorem z_X0_listGuides_19_1 {n : Nat} (hn : X.1 2 = nI n) (h4 : n ≤ 4) {i : Nat} {P : zRes → zWorld → Prop} (hi : i < n) : ∀ (m e : Nat) (a : rst) (tl : Option Value), e + m = 3 → gnv (X.2.1 2) (X.2.1 3) a → (∀ tl, Z G mX0_listGuides (zrm 3 0 0) 0 0 63 [some (.ref 6), some (.ref 75), some (.int (nI i)), some (.int (nI 3)), tl] [] (zw (xrow X 33 (gdE (X.2.1 2) (X.2.1 3) i e m a).1 (nI (gdE (X.2.1 2) (X.2.1 3) i e m a).2)) Y O) P) → Z G mX0_listGuides (zrm 3 0 0) 0 0 19 [some (.ref 6), some (.ref 75), some (.int (nI i)), some (.int (nI e)), tl] [] (zw (xrow X 33 a.1 (nI a.2)) Y O) P := by
  intro m
  induction m with
  | zero =>
    intro e a tl he hv hx
    have hin : e = 3 := by omega
    subst hin
    simp only [gdE] at hx
    refine z_iload_n (i := 3) dX0_listGuides_19 rfl rfl (q := 20) rfl ?_
    refine z_iconst (v := 2) dX0_listGuides_20 rfl (q := 21) rfl ?_
    refine z_icmp_gt (tgt := 63) dX0_listGuides_21 (by decide) (q := 24) rfl (fun h21 => ?_) (fun h21 => absurd (nI_lt (a := 2) (b := 3) (by omega) (by omega)) h21)
    exact hx tl
  | succ m ih =>
    intro e a tl he hv hx
    have h66 : a.2 ≤ 6 := gnv_le hv
    refine z_iload_n (i := 3) dX0_listGuides_19 rfl rfl (q := 20) rfl ?_
    refine z_iconst (v := 2) dX0_listGuides_20 rfl (q := 21) rfl ?_
    refine z_icmp_gt (tgt := 63) dX0_listGuides_21 (by decide) (q := 24) rfl (fun h21 => absurd h21 (fun h9 => absurd (nI_le (a := e) (b := 2) (by omega) (by omega)) (Int32.not_le.mpr h9))) (fun h21 => ?_)
    refine z_aload_n (i := 0) dX0_listGuides_24 rfl rfl (q := 25) rfl ?_
    refine z_iload_n (i := 2) dX0_listGuides_25 rfl rfl (q := 26) rfl ?_
    refine z_iload_n (i := 3) dX0_listGuides_26 rfl rfl (q := 27) rfl ?_
    refine z_callVF (As := [_, _]) dX0_listGuides_27 kX0_58 (c_X0_twiceEdge (t := 1) (by decide) (by omega)) (wo_down _ _ _) rfl rfl (zle rfl) ⟨zle rfl, zle rfl⟩ ⟨zle rfl, zle rfl⟩ (q := 30) rfl ?_
    refine z_istore dX0_listGuides_30 (zle rfl) rfl (q := 32) rfl ?_
    refine z_aload_n (i := 0) dX0_listGuides_32 rfl rfl (q := 33) rfl ?_
    refine z_iload_n (i := 2) dX0_listGuides_33 rfl rfl (q := 34) rfl ?_
    refine z_iload dX0_listGuides_34 rfl (q := 36) rfl ?_
    refine z_callVF (As := [_, _]) dX0_listGuides_36 kX0_61 (c_X0_isEdgeOfLower (t := 1) (by decide) (by omega)) (wo_down _ _ _) rfl rfl (zle rfl) ⟨zle rfl, zle rfl⟩ ⟨zle rfl, zle rfl⟩ (q := 39) rfl ?_
    refine z_if_eq (tgt := 57) dX0_listGuides_39 (by decide) (q := 42) rfl (fun h39 => ?_) (fun h39 => ?_)
    · refine z_iinc dX0_listGuides_57 rfl rfl (zle rfl) rfl (q := 60) rfl ?_
      refine z_goto (tgt := 19) dX0_listGuides_60 (by decide) ?_
      refine Z.eql (zl2 := [some (.ref 6), some (.ref 75), some (.int (nI i)), some (.int (nI (e + 1))), some (.int (tedge (X.2.1 2) (X.2.1 3) i e))]) (by first | (rw [← nI_1 e]; done) | (rw [← nI_1 e]; rfl)) ?_
      rw [show gdE (X.2.1 2) (X.2.1 3) i e (m + 1) a = gdE (X.2.1 2) (X.2.1 3) i (e + 1) m a from congrArg _ (if_neg (show ¬ rlow (X.2.1 2) (X.2.1 3) (tedge (X.2.1 2) (X.2.1 3) i e) i = true from zB_0 h39))] at hx
      exact ih (e + 1) a _ (by omega) hv hx
    · refine z_aload_n (i := 1) dX0_listGuides_42 rfl rfl (q := 43) rfl ?_
      refine z_iload dX0_listGuides_43 rfl (q := 45) rfl ?_
      refine z_callVF (As := [_]) dX0_listGuides_45 kX0_54 (c_X4_contains (k := a.2) (wr_33 _ _ _) rfl (by omega) (by decide)) (wr_33 _ _ _).1 rfl rfl (zle rfl) ⟨zle rfl, zle rfl⟩ ⟨zle rfl, zle rfl⟩ (q := 48) rfl ?_
      refine z_if_ne (tgt := 57) dX0_listGuides_48 (by decide) (q := 51) rfl (fun h48 => ?_) (fun h48 => ?_)
      · refine z_iinc dX0_listGuides_57 rfl rfl (zle rfl) rfl (q := 60) rfl ?_
        refine z_goto (tgt := 19) dX0_listGuides_60 (by decide) ?_
        refine Z.eql (zl2 := [some (.ref 6), some (.ref 75), some (.int (nI i)), some (.int (nI (e + 1))), some (.int (tedge (X.2.1 2) (X.2.1 3) i e))]) (by first | (rw [← nI_1 e]; done) | (rw [← nI_1 e]; rfl)) ?_
        rw [show gdE (X.2.1 2) (X.2.1 3) i e (m + 1) a = gdE (X.2.1 2) (X.2.1 3) i (e + 1) m a from congrArg _ ((if_pos (show rlow (X.2.1 2) (X.2.1 3) (tedge (X.2.1 2) (X.2.1 3) i e) i = true from zB_1 h39)).trans (if_pos (show rany (fun j => a.1 j = (tedge (X.2.1 2) (X.2.1 3) i e)) 0 a.2 = true from zB_1 h48)))] at hx
        exact ih (e + 1) a _ (by omega) hv hx
      · have hnv := gnv_new (e := e) hv (show i < 4 by omega) (by omega) (show rlow (X.2.1 2) (X.2.1 3) (tedge (X.2.1 2) (X.2.1 3) i e) i = true from zB_1 h39) (show ¬ rany (fun j => a.1 j = (tedge (X.2.1 2) (X.2.1 3) i e)) 0 a.2 = true from zB_0 h48)
        have hle : a.2 + 1 ≤ 6 := gnv_le hnv
        refine z_aload_n (i := 1) dX0_listGuides_51 rfl rfl (q := 52) rfl ?_
        refine z_iload dX0_listGuides_52 rfl (q := 54) rfl ?_
        refine z_callVF (As := [_]) dX0_listGuides_54 kX0_51 (c_X4_insert' (k := a.2) (wr_33 _ _ _) rfl (by omega) (by decide)) (wr_33 _ _ _).1 rfl rfl (zle rfl) ⟨zle rfl, zle rfl⟩ ⟨zle rfl, zle rfl⟩ (q := 57) rfl ?_
        refine Z.eqw (wp_33 _ _ _ _ _) ?_
        rw [xrow_xrow]
        refine z_iinc dX0_listGuides_57 rfl rfl (zle rfl) rfl (q := 60) rfl ?_
        refine z_goto (tgt := 19) dX0_listGuides_60 (by decide) ?_
        refine Z.eql (zl2 := [some (.ref 6), some (.ref 75), some (.int (nI i)), some (.int (nI (e + 1))), some (.int (tedge (X.2.1 2) (X.2.1 3) i e))]) (by first | (rw [← nI_1 e]; done) | (rw [← nI_1 e]; rfl)) ?_
        rw [show gdE (X.2.1 2) (X.2.1 3) i e (m + 1) a = gdE (X.2.1 2) (X.2.1 3) i (e + 1) m (rins a.1 (tedge (X.2.1 2) (X.2.1 3) i e) a.2, a.2 + 1) from congrArg _ ((if_pos (show rlow (X.2.1 2) (X.2.1 3) (tedge (X.2.1 2) (X.2.1 3) i e) i = true from zB_1 h39)).trans (if_neg (show ¬ rany (fun j => a.1 j = (tedge (X.2.1 2) (X.2.1 3) i e)) 0 a.2 = true from zB_0 h48)))] at hx
        exact ih (e + 1) (rins a.1 (tedge (X.2.1 2) (X.2.1 3) i e) a.2, a.2 + 1) _ (by omega) hnv hx
set_option maxRecDepth 100000 in
set_option maxHeartbeats 4000000 in
theorem z_X0_listGuides_6_1 {n : Nat} (hn : X.1 2 = nI n) (h4 : n ≤ 4) : ∀ (m i : Nat) (a : rst) (e3 e4 : Option Value), i + m = n → gnv (X.2.1 2) (X.2.1 3) a → Z G mX0_listGuides (zrm 3 0 0) 0 0 6 [some (.ref 6), some (.ref 75), some (.int (nI i)), e3, e4] [] (zw (xrow X 33 a.1 (nI a.2)) Y O) (fun r w2 => r = .inl none ∧ w2 = zw (xrow X 33 (gdO (X.2.1 2) (X.2.1 3) i m a).1 (nI (gdO (X.2.1 2) (X.2.1 3) i m a).2)) Y O) := by
  intro m
  induction m with
  | zero =>
    intro i a e3 e4 hi hv
    refine z_iload_n (i := 2) dX0_listGuides_6 rfl rfl (q := 7) rfl ?_
    refine z_aload_n (i := 0) dX0_listGuides_7 rfl rfl (q := 8) rfl ?_
    refine z_get dX0_listGuides_8 fX0_14 (wo_down _ _ _) rfl (q := 11) rfl ?_
    refine z_callVF (As := []) dX0_listGuides_11 kX0_27 (c_X4_length (wr_2 _ _ _)) (wr_2 _ _ _).1 rfl rfl (zle rfl) ⟨zle rfl, zle rfl⟩ ⟨zle rfl, zle rfl⟩ (q := 14) rfl ?_
    rw [show (xrow X 33 a.1 (nI a.2)).1 2 = nI n from hn]
    refine z_icmp_ge (tgt := 69) dX0_listGuides_14 (by decide) (q := 17) rfl (fun h14 => ?_) (fun h14 => absurd (zge_t (by omega)) h14)
    exact z_vret dX0_listGuides_69 rfl ⟨zle rfl, zle rfl⟩ ⟨rfl, rfl⟩
  | succ m ih =>
    intro i a e3 e4 hi hv
    refine z_iload_n (i := 2) dX0_listGuides_6 rfl rfl (q := 7) rfl ?_
    refine z_aload_n (i := 0) dX0_listGuides_7 rfl rfl (q := 8) rfl ?_
    refine z_get dX0_listGuides_8 fX0_14 (wo_down _ _ _) rfl (q := 11) rfl ?_
    refine z_callVF (As := []) dX0_listGuides_11 kX0_27 (c_X4_length (wr_2 _ _ _)) (wr_2 _ _ _).1 rfl rfl (zle rfl) ⟨zle rfl, zle rfl⟩ ⟨zle rfl, zle rfl⟩ (q := 14) rfl ?_
    rw [show (xrow X 33 a.1 (nI a.2)).1 2 = nI n from hn]
    refine z_icmp_ge (tgt := 69) dX0_listGuides_14 (by decide) (q := 17) rfl (fun h14 => absurd h14 (zge_f (by omega) (by omega))) (fun h14 => ?_)
    refine z_iconst (v := 0) dX0_listGuides_17 rfl (q := 18) rfl ?_
    refine z_istore_n (i := 3) dX0_listGuides_18 rfl (zle rfl) rfl (q := 19) rfl ?_
    refine z_X0_listGuides_19_1 hn h4 (by omega) 3 0 a _ (by omega) hv (fun tl => ?_)
    refine z_iinc dX0_listGuides_63 rfl rfl (zle rfl) rfl (q := 66) rfl ?_
    refine z_goto (tgt := 6) dX0_listGuides_66 (by decide) ?_
    refine Z.eql (zl2 := [some (.ref 6), some (.ref 75), some (.int (nI (i + 1))), some (.int (nI 3)), tl]) (by first | (rw [← nI_1 i]; done) | (rw [← nI_1 i]; rfl)) ?_
    rw [show gdO (X.2.1 2) (X.2.1 3) i (m + 1) a = gdO (X.2.1 2) (X.2.1 3) (i + 1) m (gdE (X.2.1 2) (X.2.1 3) i 0 3 a) from rfl]
    exact ih (i + 1) _ _ _ (by omega) (gnv_E (by omega) 3 0 a (by omega) hv)
set_option maxRecDepth 100000 in
set_option maxHeartbeats 4000000 in
theorem c_X0_listGuides_1 {n : Nat} (hn : X.1 2 = nI n) (h4 : n ≤ 4) : ZM G mX0_listGuides 3 0 0 [.ref 6, .ref 75] (zw X Y O) (zEq none (zw (xrow X 33 (gdAll (X.2.1 33) (X.2.1 2) (X.2.1 3) n).1 (nI (gdAll (X.2.1 33) (X.2.1 2) (X.2.1 3) n).2)) Y O)) := by
  refine ZM.go pX0 rfl rfl (zle rfl) (zl := [some (.ref 6), some (.ref 75), none, none, none]) rfl ?_
  refine z_aload_n (i := 1) dX0_listGuides_0 rfl rfl (q := 1) rfl ?_
  refine z_callVF (As := []) dX0_listGuides_1 kX0_48 (c_X4_clear (wr_33 _ _ _)) (wr_33 _ _ _).1 rfl rfl (zle rfl) ⟨zle rfl, zle rfl⟩ ⟨zle rfl, zle rfl⟩ (q := 4) rfl ?_
  refine Z.eqw (wp_33 _ _ _ _ _) ?_
  refine z_iconst (v := 0) dX0_listGuides_4 rfl (q := 5) rfl ?_
  refine z_istore_n (i := 2) dX0_listGuides_5 rfl (zle rfl) rfl (q := 6) rfl ?_
  exact z_X0_listGuides_6_1 hn h4 n 0 ((X.2.1 33), 0) none none (by omega) ⟨fun j k _ h => absurd h (Nat.not_lt_zero _), fun j h => absurd h (Nat.not_lt_zero _)⟩
end
