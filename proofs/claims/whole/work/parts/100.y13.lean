section
variable {G : zG} {X X1 : zX} {Y : zY} {O : zO}
set_option maxRecDepth 100000 in
set_option maxHeartbeats 4000000 in
abbrev hasF (X : zX) (t : Nat) (v : Int32) (k : Nat) : Prop := v = 2 * X.2.1 (2 * t) k ∨ v = X.2.1 (2 * t) k + (X.2.1 (2 * t) k + X.2.1 (2 * t + 1) k) ∨ v = 2 * (X.2.1 (2 * t) k + X.2.1 (2 * t + 1) k)
set_option maxRecDepth 100000 in
set_option maxHeartbeats 4000000 in
theorem c_X9_hasFeature {n nw k : Nat} (hR : rel X Y n nw) (hk : k < n) {t : Nat} {v : Int32} (ht : t < 2) : ZM G mX9_hasFeature 1 0 0 [.ref 77, .int (nI k), .int (nI t), .int v] (zw X1 Y O) (zEq (some (.int (zb (hasF X t v k)))) (zw X1 Y O)) := by
  have h4 := rel_4 hR
  refine ZM.go pX9 rfl rfl (zle rfl) (zl := [some (.ref 77), some (.int (nI k)), some (.int (nI t)), some (.int v), none, none]) rfl ?_
  refine z_aload_n (i := 0) dX9_hasFeature_0 rfl rfl (q := 1) rfl ?_
  refine z_iload_n (i := 1) dX9_hasFeature_1 rfl rfl (q := 2) rfl ?_
  refine z_iload_n (i := 2) dX9_hasFeature_2 rfl rfl (q := 3) rfl ?_
  refine z_callVF (As := [_, _]) dX9_hasFeature_3 kX9_75 (c_X9_at hR (by omega) ht) (wm _ _ _) rfl rfl (zle rfl) ⟨zle rfl, zle rfl⟩ ⟨zle rfl, zle rfl⟩ (q := 6) rfl ?_
  refine z_istore dX9_hasFeature_6 (zle rfl) rfl (q := 8) rfl ?_
  refine z_iload dX9_hasFeature_8 rfl (q := 10) rfl ?_
  refine z_aload_n (i := 0) dX9_hasFeature_10 rfl rfl (q := 11) rfl ?_
  refine z_iload_n (i := 1) dX9_hasFeature_11 rfl rfl (q := 12) rfl ?_
  refine z_iload_n (i := 2) dX9_hasFeature_12 rfl rfl (q := 13) rfl ?_
  refine z_callVF (As := [_, _]) dX9_hasFeature_13 kX9_79 (c_X9_sizeAt hR (by omega) ht) (wm _ _ _) rfl rfl (zle rfl) ⟨zle rfl, zle rfl⟩ ⟨zle rfl, zle rfl⟩ (q := 16) rfl ?_
  refine z_iadd dX9_hasFeature_16 (q := 17) rfl ?_
  refine z_istore dX9_hasFeature_17 (zle rfl) rfl (q := 19) rfl ?_
  refine z_iload_n (i := 3) dX9_hasFeature_19 rfl rfl (q := 20) rfl ?_
  refine z_iconst (v := 2) dX9_hasFeature_20 rfl (q := 21) rfl ?_
  refine z_iload dX9_hasFeature_21 rfl (q := 23) rfl ?_
  refine z_imul dX9_hasFeature_23 (q := 24) rfl ?_
  refine z_icmp_eq (tgt := 44) dX9_hasFeature_24 (by decide) (q := 27) rfl (fun h24 => ?_) (fun h24 => ?_)
  · refine z_iconst (v := 1) dX9_hasFeature_44 rfl (q := 45) rfl ?_
    refine z_goto (tgt := 49) dX9_hasFeature_45 (by decide) ?_
    exact z_zret dX9_hasFeature_49 rfl (by first | rfl | decide) ⟨zle rfl, zle rfl⟩ (by first | exact zr1 (Or.inl h24) | exact zr1 (Or.inr (Or.inl h33)) | exact zr1 (Or.inr (Or.inr h41)) | exact zr0 (fun h9 => h9.elim h24 (fun h9 => h9.elim h33 h41)))
  · refine z_iload_n (i := 3) dX9_hasFeature_27 rfl rfl (q := 28) rfl ?_
    refine z_iload dX9_hasFeature_28 rfl (q := 30) rfl ?_
    refine z_iload dX9_hasFeature_30 rfl (q := 32) rfl ?_
    refine z_iadd dX9_hasFeature_32 (q := 33) rfl ?_
    refine z_icmp_eq (tgt := 44) dX9_hasFeature_33 (by decide) (q := 36) rfl (fun h33 => ?_) (fun h33 => ?_)
    · refine z_iconst (v := 1) dX9_hasFeature_44 rfl (q := 45) rfl ?_
      refine z_goto (tgt := 49) dX9_hasFeature_45 (by decide) ?_
      exact z_zret dX9_hasFeature_49 rfl (by first | rfl | decide) ⟨zle rfl, zle rfl⟩ (by first | exact zr1 (Or.inl h24) | exact zr1 (Or.inr (Or.inl h33)) | exact zr1 (Or.inr (Or.inr h41)) | exact zr0 (fun h9 => h9.elim h24 (fun h9 => h9.elim h33 h41)))
    · refine z_iload_n (i := 3) dX9_hasFeature_36 rfl rfl (q := 37) rfl ?_
      refine z_iconst (v := 2) dX9_hasFeature_37 rfl (q := 38) rfl ?_
      refine z_iload dX9_hasFeature_38 rfl (q := 40) rfl ?_
      refine z_imul dX9_hasFeature_40 (q := 41) rfl ?_
      refine z_icmp_ne (tgt := 48) dX9_hasFeature_41 (by decide) (q := 44) rfl (fun h41 => ?_) (fun h41 => ?_)
      · refine z_iconst (v := 0) dX9_hasFeature_48 rfl (q := 49) rfl ?_
        exact z_zret dX9_hasFeature_49 rfl (by first | rfl | decide) ⟨zle rfl, zle rfl⟩ (by first | exact zr1 (Or.inl h24) | exact zr1 (Or.inr (Or.inl h33)) | exact zr1 (Or.inr (Or.inr h41)) | exact zr0 (fun h9 => h9.elim h24 (fun h9 => h9.elim h33 h41)))
      · refine z_iconst (v := 1) dX9_hasFeature_44 rfl (q := 45) rfl ?_
        refine z_goto (tgt := 49) dX9_hasFeature_45 (by decide) ?_
        exact z_zret dX9_hasFeature_49 rfl (by first | rfl | decide) ⟨zle rfl, zle rfl⟩ (by first | exact zr1 (Or.inl h24) | exact zr1 (Or.inr (Or.inl h33)) | exact zr1 (Or.inr (Or.inr h41)) | exact zr0 (fun h9 => h9.elim h24 (fun h9 => h9.elim h33 h41)))
/- a guide: two shapes have it -/
set_option maxRecDepth 100000 in
set_option maxHeartbeats 4000000 in
def isM (X : zX) (t n : Nat) (v : Int32) : Prop := ∃ i j, i < j ∧ j < n ∧ hasF X t v i ∧ hasF X t v j
set_option maxRecDepth 100000 in
set_option maxHeartbeats 4000000 in
theorem cnt2 {P : Nat → Prop} [DecidablePred P] : ∀ m, (1 ≤ nsum P (fun _ => 1) 0 m ↔ ∃ i, i < m ∧ P i) ∧ (2 ≤ nsum P (fun _ => 1) 0 m ↔ ∃ i j, i < j ∧ j < m ∧ P i ∧ P j)
  | 0 => ⟨⟨fun h => absurd h (by show ¬ 1 ≤ 0; omega), fun ⟨i, h, _⟩ => absurd h (by omega)⟩, ⟨fun h => absurd h (by show ¬ 2 ≤ 0; omega), fun ⟨i, j, _, h, _⟩ => absurd h (by omega)⟩⟩
  | m + 1 => by
    obtain ⟨h1, h2⟩ := cnt2 (P := P) m
    rw [nsum_last, Nat.zero_add]
    by_cases hp : P m
    · rw [if_pos hp]
      refine ⟨⟨fun _ => ⟨m, by omega, hp⟩, fun _ => by omega⟩, ⟨fun h => ?_, fun ⟨i, j, h3, h4, h5, h6⟩ => ?_⟩⟩
      · obtain ⟨i, h3, h4⟩ := h1.mp (by omega)
        exact ⟨i, m, h3, by omega, h4, hp⟩
      · have := h1.mpr ⟨i, by omega, h5⟩
        omega
    · rw [if_neg hp, Nat.add_zero]
      refine ⟨h1.trans ⟨fun ⟨i, h3, h4⟩ => ⟨i, by omega, h4⟩, fun ⟨i, h3, h4⟩ => ⟨i, by
        by_cases e : i = m
        · rw [e] at h4; exact absurd h4 hp
        · omega, h4⟩⟩, h2.trans ⟨fun ⟨i, j, h3, h4, h5⟩ => ⟨i, j, h3, by omega, h5⟩, fun ⟨i, j, h3, h4, h5, h6⟩ => ⟨i, j, h3, by
        by_cases e : j = m
        · rw [e] at h6; exact absurd h6 hp
        · omega, h5, h6⟩⟩⟩
set_option maxRecDepth 100000 in
set_option maxHeartbeats 4000000 in
theorem rcnt_n {P : Nat → Prop} [DecidablePred P] : ∀ (m i a : Nat), rcnt P i m (nI a) = nI (a + nsum P (fun _ => 1) i m)
  | 0, _, _ => rfl
  | m + 1, i, a => by
    rw [nsum]
    by_cases hq : P i
    · rw [rcnt_t hq, if_pos hq, nI_1, rcnt_n m, Nat.add_assoc]
    · rw [rcnt_f hq, if_neg hq, rcnt_n m, Nat.zero_add]
set_option maxRecDepth 100000 in
set_option maxHeartbeats 4000000 in
theorem two_mul (a : Int32) : 2 * a = a + a := by
  have h : (2 : Int32) = 1 + 1 := by decide
  rw [h, Int32.add_mul, Int32.one_mul]
set_option maxRecDepth 100000 in
set_option maxHeartbeats 4000000 in
theorem red_iff {t k : Nat} {v : Int32} : redge (X.2.1 (2 * t)) (X.2.1 (2 * t + 1)) v k = true ↔ hasF X t v k := by
  unfold redge
  rw [rany_iff]
  have e0 : 2 * X.2.1 (2 * t) k + nI 0 * X.2.1 (2 * t + 1) k = 2 * X.2.1 (2 * t) k := by
    rw [show nI 0 = 0 from rfl, Int32.zero_mul, Int32.add_zero]
  have e1 : 2 * X.2.1 (2 * t) k + nI 1 * X.2.1 (2 * t + 1) k = X.2.1 (2 * t) k + (X.2.1 (2 * t) k + X.2.1 (2 * t + 1) k) := by
    rw [show nI 1 = 1 from rfl, Int32.one_mul, two_mul, Int32.add_assoc]
  have e2 : 2 * X.2.1 (2 * t) k + nI 2 * X.2.1 (2 * t + 1) k = 2 * (X.2.1 (2 * t) k + X.2.1 (2 * t + 1) k) := by
    rw [show nI 2 = 2 from rfl, Int32.mul_add]
  constructor
  · rintro ⟨j, _, hj, h⟩
    rcases (show j = 0 ∨ j = 1 ∨ j = 2 by omega) with rfl | rfl | rfl
    · exact Or.inl (h.symm.trans e0)
    · exact Or.inr (Or.inl (h.symm.trans e1))
    · exact Or.inr (Or.inr (h.symm.trans e2))
  · rintro (h | h | h)
    · exact ⟨0, by omega, by omega, e0.trans h.symm⟩
    · exact ⟨1, by omega, by omega, e1.trans h.symm⟩
    · exact ⟨2, by omega, by omega, e2.trans h.symm⟩
set_option maxRecDepth 100000 in
set_option maxHeartbeats 4000000 in
theorem slG_E {S Z : Nat → Int32} {i : Nat} : ∀ (m e : Nat) (a : rst) (p : Int32 → Prop), slist a.1 a.2 p → slist (gdE S Z i e m a).1 (gdE S Z i e m a).2 (fun w => p w ∨ ∃ d, e ≤ d ∧ d < e + m ∧ rlow S Z (tedge S Z i d) i = true ∧ w = tedge S Z i d)
  | 0, e, a, p, h => slist_congr (fun w => ⟨fun h2 => h2.elim id (fun ⟨d, h3, h4, _⟩ => absurd h4 (by omega)), Or.inl⟩) h
  | m + 1, e, a, p, h => by
    unfold gdE
    split
    · rename_i hc
      refine slist_congr (fun w => ?_) (slG_E m (e + 1) _ (fun w => p w ∨ w = tedge S Z i e) (slist_ins h (fun w => Iff.rfl)))
      constructor
      · rintro (h2 | ⟨d, h3, h4, h5⟩)
        · exact Or.inl (Or.inl h2)
        · rcases Decidable.em (d = e) with h6 | h6
          · subst h6; exact Or.inl (Or.inr h5.2)
          · exact Or.inr ⟨d, by omega, by omega, h5⟩
      · rintro ((h2 | h2) | ⟨d, h3, h4, h5⟩)
        · exact Or.inl h2
        · exact Or.inr ⟨e, by omega, by omega, hc, h2⟩
        · exact Or.inr ⟨d, by omega, by omega, h5⟩
    · rename_i hc
      refine slist_congr (fun w => ?_) (slG_E m (e + 1) _ p h)
      constructor
      · rintro (h2 | ⟨d, h3, h4, h5⟩)
        · exact Or.inl h2
        · rcases Decidable.em (d = e) with h6 | h6
          · subst h6; exact absurd h5.1 hc
          · exact Or.inr ⟨d, by omega, by omega, h5⟩
      · rintro (h2 | ⟨d, h3, h4, h5⟩)
        · exact Or.inl h2
        · exact Or.inr ⟨d, by omega, by omega, h5⟩
set_option maxRecDepth 100000 in
set_option maxHeartbeats 4000000 in
theorem slG_O {S Z : Nat → Int32} : ∀ (m i : Nat) (a : rst) (p : Int32 → Prop), slist a.1 a.2 p → slist (gdO S Z i m a).1 (gdO S Z i m a).2 (fun w => p w ∨ ∃ j, i ≤ j ∧ j < i + m ∧ ∃ d, d < 3 ∧ rlow S Z (tedge S Z j d) j = true ∧ w = tedge S Z j d)
  | 0, i, a, p, h => slist_congr (fun w => ⟨fun h2 => h2.elim id (fun ⟨d, h3, h4, _⟩ => absurd h4 (by omega)), Or.inl⟩) h
  | m + 1, i, a, p, h => by
    unfold gdO
    refine slist_congr (fun w => ?_) (slG_O m (i + 1) _ _ (slG_E (S := S) (Z := Z) (i := i) 3 0 a p h))
    constructor
    · rintro (h2 | ⟨j, h3, h4, h5⟩)
      · exact Or.inl (Or.inl h2)
      · rcases Decidable.em (j = i) with h6 | h6
        · subst h6
          obtain ⟨d, h7, h8⟩ := h5
          exact Or.inl (Or.inr ⟨d, by omega, by omega, h8⟩)
        · exact Or.inr ⟨j, by omega, by omega, h5⟩
    · rintro ((h2 | ⟨d, h7, h8, h9⟩) | ⟨j, h3, h4, h5⟩)
      · exact Or.inl h2
      · exact Or.inr ⟨i, by omega, by omega, d, by omega, h9⟩
      · exact Or.inr ⟨j, by omega, by omega, h5⟩
set_option maxRecDepth 100000 in
set_option maxHeartbeats 4000000 in
theorem gd_slist {f : Nat → Int32} {t n : Nat} : slist (gdAll f (X.2.1 (2 * t)) (X.2.1 (2 * t + 1)) n).1 (gdAll f (X.2.1 (2 * t)) (X.2.1 (2 * t + 1)) n).2 (isM X t n) := by
  have h := slG_O (S := X.2.1 (2 * t)) (Z := X.2.1 (2 * t + 1)) n 0 (f, 0) (fun _ => False) ⟨fun a b _ hb => absurd hb (Nat.not_lt_zero _), fun j hj => absurd hj (Nat.not_lt_zero _), fun v hv => hv.elim⟩
  refine slist_congr (fun w => ?_) h
  unfold isM
  constructor
  · rintro ⟨i, j, h1, h2, h3, h4⟩
    obtain ⟨d, _, hd, e⟩ := (rany_iff _ _).mp (red_iff.mpr h4)
    refine Or.inr ⟨j, by omega, by omega, d, by omega, ?_, e.symm⟩
    show rany (fun i => redge _ _ (tedge _ _ j d) i = true) 0 j = true
    rw [show tedge (X.2.1 (2 * t)) (X.2.1 (2 * t + 1)) j d = w from e]
    exact (rany_iff _ _).mpr ⟨i, by omega, by omega, red_iff.mpr h3⟩
  · rintro (h1 | ⟨j, _, hj, d, hd, h2, h3⟩)
    · exact h1.elim
    · obtain ⟨i, _, hi, h4⟩ := (rany_iff _ _).mp h2
      refine ⟨i, j, by omega, by omega, ?_, ?_⟩
      · rw [h3]; exact red_iff.mp h4
      · exact red_iff.mp ((rany_iff _ _).mpr ⟨d, by omega, by omega, h3.symm⟩)
set_option maxRecDepth 100000 in
set_option maxHeartbeats 4000000 in
theorem slist_sub {f g : Nat → Int32} {c d : Nat} {p q : Int32 → Prop} (h : slist f c p) (h2 : slist g d q) (hs : ∀ v, p v → q v) : c ≤ d := by
  have h3 : ∀ i, ∃ j, i < c → j < d ∧ g j = f i := fun i => by
    rcases Nat.lt_or_ge i c with h4 | h4
    · obtain ⟨j, h5, h6⟩ := h2.2.2 (f i) (hs _ (h.2.1 i h4))
      exact ⟨j, fun _ => ⟨h5, h6⟩⟩
    · exact ⟨0, fun h5 => absurd h5 (by omega)⟩
  refine php d c (fun i => Classical.choose (h3 i)) (fun j hj => (Classical.choose_spec (h3 j) hj).1) (fun a b hab hb e => ?_)
  have e1 := (Classical.choose_spec (h3 a) (by omega)).2
  have e2 := (Classical.choose_spec (h3 b) hb).2
  have h4 := h.1 a b hab hb
  have h5 : g (Classical.choose (h3 a)) = g (Classical.choose (h3 b)) := congrArg g e
  rw [e1, e2] at h5
  rw [h5] at h4
  exact Int32.lt_irrefl h4
/- the guides below v -/
set_option maxRecDepth 100000 in
set_option maxHeartbeats 4000000 in
def slM (X : zX) (t n v : Nat) (g : Nat → Int32) (c : Nat) : Prop := slist g c (fun w => isM X t n w ∧ w < nI v)
set_option maxRecDepth 100000 in
set_option maxHeartbeats 4000000 in
theorem slM_6 {t n v c : Nat} {g : Nat → Int32} (h4 : n ≤ 4) (h : slM X t n v g c) : c ≤ 6 :=
  Nat.le_trans (slist_sub h (gd_slist (f := fun _ => 0)) (fun _ h => h.1)) (gnv_le (gnv_All _ _ _ h4))
set_option maxRecDepth 100000 in
set_option maxHeartbeats 4000000 in
theorem nI_lt_succ {w : Int32} {v : Nat} (hv : v < 2 ^ 30) : w < nI (v + 1) ↔ w < nI v ∨ w = nI v := by
  rw [Int32.lt_iff_toInt_lt, Int32.lt_iff_toInt_lt, ← Int32.toInt_inj, nI_toInt (by omega), nI_toInt (by omega)]
  omega
set_option maxRecDepth 100000 in
set_option maxHeartbeats 4000000 in
theorem slM_no {t n v c : Nat} {g : Nat → Int32} (hv : v < 2 ^ 30) (h : slM X t n v g c) (hn : ¬ isM X t n (nI v)) : slM X t n (v + 1) g c :=
  slist_congr (fun w => ⟨fun h1 => ⟨h1.1, ((nI_lt_succ hv).mp h1.2).resolve_right (fun e => hn (by rw [← e]; exact h1.1))⟩, fun h1 => ⟨h1.1, (nI_lt_succ hv).mpr (Or.inl h1.2)⟩⟩) h
set_option maxRecDepth 100000 in
set_option maxHeartbeats 4000000 in
theorem slM_add {t n v c : Nat} {g : Nat → Int32} (hv : v < 2 ^ 30) (h : slM X t n v g c) (hn : isM X t n (nI v)) : slM X t n (v + 1) (upd g c (nI v)) (c + 1) := by
  refine ⟨fun a b hab hb => ?_, fun j hj => ?_, fun w hw => ?_⟩
  · by_cases e : b = c
    · subst e
      rw [pk_us, pk_un (by omega)]
      exact (h.2.1 a hab).2
    · rw [pk_un e, pk_un (by omega)]
      exact h.1 a b hab (by omega)
  · by_cases e : j = c
    · subst e
      rw [pk_us]; exact ⟨hn, (nI_lt_succ hv).mpr (Or.inr rfl)⟩
    · rw [pk_un e]
      have h1 := h.2.1 j (by omega)
      exact ⟨h1.1, (nI_lt_succ hv).mpr (Or.inl h1.2)⟩
  · rcases (nI_lt_succ hv).mp hw.2 with h1 | h1
    · obtain ⟨j, hj, e⟩ := h.2.2 w ⟨hw.1, h1⟩
      exact ⟨j, by omega, by rw [pk_un (by omega)]; exact e⟩
    · exact ⟨c, by omega, by rw [pk_us]; exact h1.symm⟩
set_option maxRecDepth 100000 in
set_option maxHeartbeats 4000000 in
theorem axis_lim {n nw t k : Nat} (hI : inv X n nw) (ht : t < 2) (hk : k < n) : num (X.2.1 (2 * t) k) + num (X.2.1 (2 * t + 1) k) ≤ limN t := by
  have h2 := hI.2.2.2.2.1 k hk
  rcases (show t = 0 ∨ t = 1 by omega) with rfl | rfl
  · exact h2.2.2.2.2.2.2.1
  · exact h2.2.2.2.2.2.2.2.1
/- no guide lies beyond the slide -/
set_option maxRecDepth 100000 in
set_option maxHeartbeats 4000000 in
theorem isM_lim {n nw t : Nat} {v : Int32} (hI : inv X n nw) (ht : t < 2) (h : isM X t n v) : v < nI (2 * limN t + 1) := by
  obtain ⟨i, j, h1, h2, h3, _⟩ := h
  have a := inv_axis hI ht (show i < n by omega)
  have b := axis_lim hI ht (show i < n by omega)
  have l := limN_eq ht
  unfold hasF at h3
  rw [a.1.1, a.2.1] at h3
  have a1 := a.1.2
  have a2 := a.2.2
  have l2 := l.2
  rcases h3 with h3 | h3 | h3
  · rw [h3, ix1, nI_ltI (by omega) (by omega)]; omega
  · rw [h3, nI_add, nI_add, nI_ltI (by omega) (by omega)]; omega
  · rw [h3, nI_add, ix1, nI_ltI (by omega) (by omega)]; omega
set_option maxRecDepth 100000 in
set_option maxHeartbeats 4000000 in
theorem z_X9_gd_20 {n nw t c v : Nat} {g : Nat → Int32} {P : zRes → zWorld → Prop} (hR : rel X Y n nw) (ht : t < 2) : ∀ (m i : Nat) (a : Int32), i + m = n → Z G mX9_findGuides (zrm 2 0 0) 0 0 56 [some (.ref 77), some (.int (nI t)), some (.int (nI c)), some (.int (nI v)), some (.int (rcnt (hasF X t (nI v)) i m a)), some (.int (nI n))] [] (zw X1 (yarr Y 14 g) O) P → Z G mX9_findGuides (zrm 2 0 0) 0 0 20 [some (.ref 77), some (.int (nI t)), some (.int (nI c)), some (.int (nI v)), some (.int a), some (.int (nI i))] [] (zw X1 (yarr Y 14 g) O) P := by
  have h4 := rel_4 hR
  intro m
  induction m with
  | zero =>
    intro i a hi hx
    rw [rcnt] at hx
    refine z_iload dX9_findGuides_20 rfl (q := 22) rfl ?_
    refine z_aload_n (i := 0) dX9_findGuides_22 rfl rfl (q := 23) rfl ?_
    refine z_get dX9_findGuides_23 fX9_64 (wm _ _ _) rfl (q := 26) rfl ?_
    refine Z.eqst (st2 := [.int (nI n), .int (nI i)]) (congrArg (fun x => [Value.int x, Value.int (nI i)]) hR.1) ?_
    refine z_icmp_ge (tgt := 56) dX9_findGuides_26 (by decide) (q := 29) rfl (fun h26 => ?_) (fun h26 => absurd (zge_t (by omega)) h26)
    rw [show i = n by omega]
    exact hx
  | succ m ih =>
    intro i a hi hx
    refine z_iload dX9_findGuides_20 rfl (q := 22) rfl ?_
    refine z_aload_n (i := 0) dX9_findGuides_22 rfl rfl (q := 23) rfl ?_
    refine z_get dX9_findGuides_23 fX9_64 (wm _ _ _) rfl (q := 26) rfl ?_
    refine Z.eqst (st2 := [.int (nI n), .int (nI i)]) (congrArg (fun x => [Value.int x, Value.int (nI i)]) hR.1) ?_
    refine z_icmp_ge (tgt := 56) dX9_findGuides_26 (by decide) (q := 29) rfl (fun h26 => absurd h26 (zge_f (by omega) (by omega))) (fun h26 => ?_)
    refine z_iload dX9_findGuides_29 rfl (q := 31) rfl ?_
    refine z_aload_n (i := 0) dX9_findGuides_31 rfl rfl (q := 32) rfl ?_
    refine z_iload dX9_findGuides_32 rfl (q := 34) rfl ?_
    refine z_iload_n (i := 1) dX9_findGuides_34 rfl rfl (q := 35) rfl ?_
    refine z_iload_n (i := 3) dX9_findGuides_35 rfl rfl (q := 36) rfl ?_
    refine z_callVF (As := [_, _, _]) dX9_findGuides_36 kX9_211 (c_X9_hasFeature (rel_arr hR (by decide) g) (by omega) ht) (wm _ _ _) rfl rfl (zle rfl) ⟨zle rfl, zle rfl⟩ ⟨zle rfl, zle rfl⟩ (q := 39) rfl ?_
    refine z_if_eq (tgt := 46) dX9_findGuides_39 (by decide) (q := 42) rfl (fun h39 => ?_) (fun h39 => ?_)
    · replace h39 := zb_0.mp h39
      refine z_iconst (v := 0) dX9_findGuides_46 rfl (q := 47) rfl ?_
      refine z_iadd dX9_findGuides_47 (q := 48) rfl ?_
      refine z_istore dX9_findGuides_48 (zle rfl) rfl (q := 50) rfl ?_
      refine z_iinc dX9_findGuides_50 rfl rfl (zle rfl) rfl (q := 53) rfl ?_
      refine z_goto (tgt := 20) dX9_findGuides_53 (by decide) ?_
      rw [Int32.add_zero]
      refine Z.eql (zl2 := [some (.ref 77), some (.int (nI t)), some (.int (nI c)), some (.int (nI v)), _, some (.int (nI (i + 1)))]) (by first | (rw [← nI_1 i]; done) | (rw [← nI_1 i]; rfl)) ?_
      rw [rcnt_f h39] at hx
      exact ih (i + 1) _ (by omega) hx
    · replace h39 := zb_1.mp h39
      refine z_iconst (v := 1) dX9_findGuides_42 rfl (q := 43) rfl ?_
      refine z_goto (tgt := 47) dX9_findGuides_43 (by decide) ?_
      refine z_iadd dX9_findGuides_47 (q := 48) rfl ?_
      refine z_istore dX9_findGuides_48 (zle rfl) rfl (q := 50) rfl ?_
      refine z_iinc dX9_findGuides_50 rfl rfl (zle rfl) rfl (q := 53) rfl ?_
      refine z_goto (tgt := 20) dX9_findGuides_53 (by decide) ?_
      refine Z.eql (zl2 := [some (.ref 77), some (.int (nI t)), some (.int (nI c)), some (.int (nI v)), _, some (.int (nI (i + 1)))]) (by first | (rw [← nI_1 i]; done) | (rw [← nI_1 i]; rfl)) ?_
      rw [rcnt_t h39] at hx
      exact ih (i + 1) _ (by omega) hx
set_option maxRecDepth 100000 in
set_option maxHeartbeats 4000000 in
theorem z_X9_gd_4 {n nw t : Nat} (hI : inv X n nw) (hR : rel X Y n nw) (ht : t < 2) : ∀ (m v c : Nat) (g : Nat → Int32) (e4 e5 : Option Value), v + m = 2 * limN t + 1 → slM X t n v g c → Z G mX9_findGuides (zrm 2 0 0) 0 0 4 [some (.ref 77), some (.int (nI t)), some (.int (nI c)), some (.int (nI v)), e4, e5] [] (zw X1 (yarr Y 14 g) O) (fun r w => ∃ (c : Nat) (g : Nat → Int32), r = .inl (some (.int (nI c))) ∧ w = zw X1 (yarr Y 14 g) O ∧ slist g c (isM X t n) ∧ c ≤ 6) := by
  have h4 := rel_4 hR
  have hL := limN_eq ht
  have hL2 := hL.2
  intro m
  induction m with
  | zero =>
    intro v c g e4 e5 hv hs
    refine z_iload_n (i := 3) dX9_findGuides_4 rfl rfl (q := 5) rfl ?_
    refine z_iconst (v := 2) dX9_findGuides_5 rfl (q := 6) rfl ?_
    refine z_iload_n (i := 1) dX9_findGuides_6 rfl rfl (q := 7) rfl ?_
    refine z_callSF (As := [_]) dX9_findGuides_7 kX9_71 (c_X9_room ht) rfl (zle rfl) ⟨zle rfl, zle rfl⟩ ⟨zle rfl, zle rfl⟩ (q := 10) rfl ?_
    refine z_imul dX9_findGuides_10 (q := 11) rfl ?_
    rw [hL.1, ix1]
    refine z_icmp_gt (tgt := 78) dX9_findGuides_11 (by decide) (q := 14) rfl (fun h11 => ?_) (fun h11 => absurd (nI_lt (by omega) (by omega)) h11)
    refine z_iload_n (i := 2) dX9_findGuides_78 rfl rfl (q := 79) rfl ?_
    exact z_iret dX9_findGuides_79 rfl ⟨zle rfl, zle rfl⟩ ⟨c, g, rfl, rfl, slist_congr (fun w => ⟨fun h9 => ⟨h9, by rw [show v = 2 * limN t + 1 by omega]; exact isM_lim hI ht h9⟩, fun h9 => h9.1⟩) hs, slM_6 h4 hs⟩
  | succ m ih =>
    intro v c g e4 e5 hv hs
    refine z_iload_n (i := 3) dX9_findGuides_4 rfl rfl (q := 5) rfl ?_
    refine z_iconst (v := 2) dX9_findGuides_5 rfl (q := 6) rfl ?_
    refine z_iload_n (i := 1) dX9_findGuides_6 rfl rfl (q := 7) rfl ?_
    refine z_callSF (As := [_]) dX9_findGuides_7 kX9_71 (c_X9_room ht) rfl (zle rfl) ⟨zle rfl, zle rfl⟩ ⟨zle rfl, zle rfl⟩ (q := 10) rfl ?_
    refine z_imul dX9_findGuides_10 (q := 11) rfl ?_
    rw [hL.1, ix1]
    refine z_icmp_gt (tgt := 78) dX9_findGuides_11 (by decide) (q := 14) rfl (fun h11 => absurd h11 (nI_nlt (by omega) (by omega))) (fun h11 => ?_)
    refine z_iconst (v := 0) dX9_findGuides_14 rfl (q := 15) rfl ?_
    refine z_istore dX9_findGuides_15 (zle rfl) rfl (q := 17) rfl ?_
    refine z_iconst (v := 0) dX9_findGuides_17 rfl (q := 18) rfl ?_
    refine z_istore dX9_findGuides_18 (zle rfl) rfl (q := 20) rfl ?_
    have hc6 := slM_6 h4 hs
    refine z_X9_gd_20 hR ht n 0 0 (by omega) ?_
    refine z_iload dX9_findGuides_56 rfl (q := 58) rfl ?_
    refine z_iconst (v := 1) dX9_findGuides_58 rfl (q := 59) rfl ?_
    have hcn := nsum_le (p := hasF X t (nI v)) (g := fun _ => 1) (b := 1) n 0 (fun _ _ _ => Nat.le_refl _)
    rw [show rcnt (hasF X t (nI v)) 0 n 0 = nI (nsum (hasF X t (nI v)) (fun _ => 1) 0 n) from (rcnt_n n 0 0).trans (by rw [Nat.zero_add])]
    refine z_icmp_le (tgt := 72) dX9_findGuides_59 (by decide) (q := 62) rfl (fun h59 => ?_) (fun h59 => ?_)
    · refine z_iinc dX9_findGuides_72 rfl rfl (zle rfl) rfl (q := 75) rfl ?_
      refine z_goto (tgt := 4) dX9_findGuides_75 (by decide) ?_
      refine Z.eql (zl2 := [some (.ref 77), some (.int (nI t)), some (.int (nI c)), some (.int (nI (v + 1))), _, _]) (by rw [← nI_1 v]; rfl) ?_
      refine ih (v + 1) c g _ _ (by omega) (slM_no (by omega) hs (fun h9 => ?_))
      have h8 := (cnt2 n).2.mpr h9
      have h7 : ¬ nsum (hasF X t (nI v)) (fun _ => 1) 0 n ≤ 1 := by omega
      exact h7 ((nI_leI (b := 1) (by omega) (by omega)).mp h59)
    · refine z_aload_n (i := 0) dX9_findGuides_62 rfl rfl (q := 63) rfl ?_
      refine z_get dX9_findGuides_63 fX9_54 (wm _ _ _) rfl (q := 66) rfl ?_
      refine z_iload_n (i := 2) dX9_findGuides_66 rfl rfl (q := 67) rfl ?_
      refine z_iload_n (i := 3) dX9_findGuides_67 rfl rfl (q := 68) rfl ?_
      refine z_iast dX9_findGuides_68 (wma_guide _ _ _) (zin (k := c) (by omega) (by decide)) (q := 69) rfl ?_
      refine Z.eqw (wms_guide _ _ _ _) ?_
      rw [nI_clamp (by omega), yarr_yarr, yarr_f]
      refine z_iinc dX9_findGuides_69 rfl rfl (zle rfl) rfl (q := 72) rfl ?_
      refine z_iinc dX9_findGuides_72 rfl rfl (zle rfl) rfl (q := 75) rfl ?_
      refine z_goto (tgt := 4) dX9_findGuides_75 (by decide) ?_
      refine Z.eql (zl2 := [some (.ref 77), some (.int (nI t)), some (.int (nI (c + 1))), some (.int (nI (v + 1))), _, _]) (by rw [← nI_1 v, ← nI_1 c]; rfl) ?_
      refine ih (v + 1) (c + 1) _ _ _ (by omega) (slM_add (by omega) hs ((cnt2 n).2.mp ?_))
      rcases Nat.lt_or_ge 1 (nsum (hasF X t (nI v)) (fun _ => 1) 0 n) with h8 | h8
      · omega
      · exact absurd ((nI_leI (b := 1) (by omega) (by omega)).mpr h8) h59
set_option maxRecDepth 100000 in
set_option maxHeartbeats 4000000 in
theorem isM_pos {n nw t i : Nat} {v : Int32} (hI : inv X n nw) (ht : t < 2) (hi : i < n) (h3 : hasF X t v i) : ¬ v < nI 0 := by
  have a := inv_axis hI ht hi
  unfold hasF at h3
  rw [a.1.1, a.2.1] at h3
  have a1 := a.1.2
  have a2 := a.2.2
  rcases h3 with h3 | h3 | h3
  · rw [h3, ix1, nI_ltI (by omega) (by omega)]; omega
  · rw [h3, nI_add, nI_add, nI_ltI (by omega) (by omega)]; omega
  · rw [h3, nI_add, ix1, nI_ltI (by omega) (by omega)]; omega
set_option maxRecDepth 100000 in
set_option maxHeartbeats 4000000 in
theorem c_X9_findGuides {n nw t : Nat} (hI : inv X n nw) (hR : rel X Y n nw) (ht : t < 2) : ZM G mX9_findGuides 2 0 0 [.ref 77, .int (nI t)] (zw X1 Y O) (fun r w => ∃ (c : Nat) (g : Nat → Int32), r = .inl (some (.int (nI c))) ∧ w = zw X1 (yarr Y 14 g) O ∧ slist g c (isM X t n) ∧ c ≤ 6) := by
  refine ZM.go pX9 rfl rfl (zle rfl) (zl := [some (.ref 77), some (.int (nI t)), none, none, none, none]) rfl ?_
  refine z_iconst (v := 0) dX9_findGuides_0 rfl (q := 1) rfl ?_
  refine z_istore_n (i := 2) dX9_findGuides_1 rfl (zle rfl) rfl (q := 2) rfl ?_
  refine z_iconst (v := 0) dX9_findGuides_2 rfl (q := 3) rfl ?_
  refine z_istore_n (i := 3) dX9_findGuides_3 rfl (zle rfl) rfl (q := 4) rfl ?_
  refine Z.eqw (w2 := zw X1 (yarr Y 14 (Y.1 14)) O) (by rw [yarr_self]) ?_
  exact z_X9_gd_4 hI hR ht (2 * limN t + 1) 0 0 _ none none (by omega) ⟨fun a b _ hb => absurd hb (by omega), fun j hj => absurd hj (by omega), fun w hw => by obtain ⟨⟨i, j, a, b, c, _⟩, h9⟩ := hw; exact absurd h9 (isM_pos hI ht (by omega) c)⟩
set_option maxRecDepth 100000 in
set_option maxHeartbeats 4000000 in
theorem c_X9_guides {n nw t : Nat} {f0 : Nat → Int32} (hI : inv X n nw) (hR : rel X Y n nw) (ht : t < 2) : ZM G mX9_guides 3 0 0 [.ref 77, .int (zch t)] (zw X1 Y O) (fun r w => ∃ g, r = .inl (some (.int (nI (gdAll f0 (X.2.1 (2 * t)) (X.2.1 (2 * t + 1)) n).2))) ∧ w = zw X1 (yarr (yint Y 0 0) 14 g) O) := by
  have h4 := rel_4 hR
  have hR0 : rel X (yint Y 0 0) n nw := rel_thr hR 0
  refine ZM.go pX9 rfl rfl (zle rfl) (zl := [some (.ref 77), some (.int (zch t))]) rfl ?_
  refine z_aload_n (i := 0) dX9_guides_0 rfl rfl (q := 1) rfl ?_
  refine z_iconst (v := 0) dX9_guides_1 rfl (q := 2) rfl ?_
  refine z_put dX9_guides_2 fX9_60 (wm _ _ _) (zle rfl) (zfit_int _) (q := 5) rfl ?_
  refine Z.eqw (wmi_thrown _ _ _ _) ?_
  refine z_aload_n (i := 0) dX9_guides_5 rfl rfl (q := 6) rfl ?_
  refine z_iload_n (i := 1) dX9_guides_6 rfl rfl (q := 7) rfl ?_
  refine z_callSF (As := [_]) dX9_guides_7 kX9_101 (c_X9_axisOf ht) rfl (zle rfl) ⟨zle rfl, zle rfl⟩ ⟨zle rfl, zle rfl⟩ (q := 10) rfl ?_
  refine z_iconst (v := (-1)) dX9_guides_10 rfl (q := 11) rfl ?_
  refine z_icmp_ne (tgt := 18) dX9_guides_11 (by decide) (q := 14) rfl (fun h11 => ?_) (fun h11 => absurd h11 (nI_m1 (by omega)))
  refine z_iconst (v := 0) dX9_guides_18 rfl (q := 19) rfl ?_
  refine z_iconst (v := 1) dX9_guides_19 rfl (q := 20) rfl ?_
  refine z_callVF (As := [_, _]) dX9_guides_20 kX9_89 (c_X9_fails_f rfl) (wm _ _ _) rfl rfl (zle rfl) ⟨zle rfl, zle rfl⟩ ⟨zle rfl, zle rfl⟩ (q := 23) rfl ?_
  refine z_if_eq (tgt := 30) dX9_guides_23 (by decide) (q := 26) rfl (fun h23 => ?_) (fun h23 => absurd h23 (by decide))
  refine z_aload_n (i := 0) dX9_guides_30 rfl rfl (q := 31) rfl ?_
  refine z_iload_n (i := 1) dX9_guides_31 rfl rfl (q := 32) rfl ?_
  refine z_callSF (As := [_]) dX9_guides_32 kX9_101 (c_X9_axisOf ht) rfl (zle rfl) ⟨zle rfl, zle rfl⟩ ⟨zle rfl, zle rfl⟩ (q := 35) rfl ?_
  refine z_callV (As := [_]) dX9_guides_35 kX9_214 (c_X9_findGuides hI hR0 ht) (wm _ _ _) rfl rfl (zle rfl) ⟨zle rfl, zle rfl⟩ ⟨zle rfl, zle rfl⟩ (q := 38) rfl (fun rv w2 hw2 => ?_) (fun E w2 h9 => by obtain ⟨_, _, h9, _⟩ := h9; cases h9)
  obtain ⟨c, g, h9, rfl, hs, hc6⟩ := hw2
  cases h9
  have hcd : c = (gdAll f0 (X.2.1 (2 * t)) (X.2.1 (2 * t + 1)) n).2 := Nat.le_antisymm (slist_len hs gd_slist) (slist_len gd_slist hs)
  exact z_iret dX9_guides_38 rfl ⟨zle rfl, zle rfl⟩ ⟨g, by rw [hcd], rfl⟩
set_option maxRecDepth 100000 in
set_option maxHeartbeats 4000000 in
theorem c_X9_guides_ax {n nw : Nat} {c : Int32} (hR : rel X Y n nw) (h1 : ¬ c = 120) (h2 : ¬ c = 121) : ZM G mX9_guides 3 0 0 [.ref 77, .int c] (zw X1 Y O) (mR X1 O (0) (yth Y 1)) := by
  have h4 := rel_4 hR
  have hR0 : rel X (yint Y 0 0) n nw := rel_thr hR 0
  refine ZM.go pX9 rfl rfl (zle rfl) (zl := [some (.ref 77), some (.int c)]) rfl ?_
  refine z_aload_n (i := 0) dX9_guides_0 rfl rfl (q := 1) rfl ?_
  refine z_iconst (v := 0) dX9_guides_1 rfl (q := 2) rfl ?_
  refine z_put dX9_guides_2 fX9_60 (wm _ _ _) (zle rfl) (zfit_int _) (q := 5) rfl ?_
  refine Z.eqw (wmi_thrown _ _ _ _) ?_
  refine z_aload_n (i := 0) dX9_guides_5 rfl rfl (q := 6) rfl ?_
  refine z_iload_n (i := 1) dX9_guides_6 rfl rfl (q := 7) rfl ?_
  refine z_callSF (As := [_]) dX9_guides_7 kX9_101 (c_X9_axisOf_no h1 h2) rfl (zle rfl) ⟨zle rfl, zle rfl⟩ ⟨zle rfl, zle rfl⟩ (q := 10) rfl ?_
  refine z_iconst (v := (-1)) dX9_guides_10 rfl (q := 11) rfl ?_
  refine z_icmp_ne (tgt := 18) dX9_guides_11 (by decide) (q := 14) rfl (fun h11 => absurd h11 (by decide)) (fun h11 => ?_)
  refine z_iconst (v := 1) dX9_guides_14 rfl (q := 15) rfl ?_
  refine z_goto (tgt := 19) dX9_guides_15 (by decide) ?_
  refine z_iconst (v := 1) dX9_guides_19 rfl (q := 20) rfl ?_
  refine z_callVF (As := [_, _]) dX9_guides_20 kX9_89 (c_X9_fails_t rfl (by decide)) (wm _ _ _) rfl rfl (zle rfl) ⟨zle rfl, zle rfl⟩ ⟨zle rfl, zle rfl⟩ (q := 23) rfl ?_
  refine z_if_eq (tgt := 30) dX9_guides_23 (by decide) (q := 26) rfl (fun h23 => absurd h23 (by decide)) (fun h23 => ?_)
  refine z_iconst (v := 0) dX9_guides_26 rfl (q := 27) rfl ?_
  refine z_goto (tgt := 38) dX9_guides_27 (by decide) ?_
  exact z_iret dX9_guides_38 rfl ⟨zle rfl, zle rfl⟩ ⟨rfl, rfl⟩
set_option maxRecDepth 100000 in
set_option maxHeartbeats 4000000 in
theorem c_X9_guideAt {n nw t : Nat} {f0 : Nat → Int32} (hI : inv X n nw) (hR : rel X Y n nw) (ht : t < 2) {j : Nat} (hj : j < (gdAll f0 (X.2.1 (2 * t)) (X.2.1 (2 * t + 1)) n).2) : ZM G mX9_guideAt 3 0 0 [.ref 77, .int (zch t), .int (nI j)] (zw X1 Y O) (fun r w => ∃ g, r = .inl (some (.int ((gdAll f0 (X.2.1 (2 * t)) (X.2.1 (2 * t + 1)) n).1 j))) ∧ w = zw X1 (yarr (yint Y 0 0) 14 g) O) := by
  have h4 := rel_4 hR
  have hR0 : rel X (yint Y 0 0) n nw := rel_thr hR 0
  refine ZM.go pX9 rfl rfl (zle rfl) (zl := [some (.ref 77), some (.int (zch t)), some (.int (nI j)), none]) rfl ?_
  refine z_aload_n (i := 0) dX9_guideAt_0 rfl rfl (q := 1) rfl ?_
  refine z_iconst (v := 0) dX9_guideAt_1 rfl (q := 2) rfl ?_
  refine z_put dX9_guideAt_2 fX9_60 (wm _ _ _) (zle rfl) (zfit_int _) (q := 5) rfl ?_
  refine Z.eqw (wmi_thrown _ _ _ _) ?_
  refine z_aload_n (i := 0) dX9_guideAt_5 rfl rfl (q := 6) rfl ?_
  refine z_iload_n (i := 1) dX9_guideAt_6 rfl rfl (q := 7) rfl ?_
  refine z_callSF (As := [_]) dX9_guideAt_7 kX9_101 (c_X9_axisOf ht) rfl (zle rfl) ⟨zle rfl, zle rfl⟩ ⟨zle rfl, zle rfl⟩ (q := 10) rfl ?_
  refine z_iconst (v := (-1)) dX9_guideAt_10 rfl (q := 11) rfl ?_
  refine z_icmp_ne (tgt := 18) dX9_guideAt_11 (by decide) (q := 14) rfl (fun h11 => ?_) (fun h11 => absurd h11 (nI_m1 (by omega)))
  refine z_iconst (v := 0) dX9_guideAt_18 rfl (q := 19) rfl ?_
  refine z_iconst (v := 1) dX9_guideAt_19 rfl (q := 20) rfl ?_
  refine z_callVF (As := [_, _]) dX9_guideAt_20 kX9_89 (c_X9_fails_f rfl) (wm _ _ _) rfl rfl (zle rfl) ⟨zle rfl, zle rfl⟩ ⟨zle rfl, zle rfl⟩ (q := 23) rfl ?_
  refine z_if_eq (tgt := 28) dX9_guideAt_23 (by decide) (q := 26) rfl (fun h23 => ?_) (fun h23 => absurd h23 (by decide))
  refine z_aload_n (i := 0) dX9_guideAt_28 rfl rfl (q := 29) rfl ?_
  refine z_iload_n (i := 1) dX9_guideAt_29 rfl rfl (q := 30) rfl ?_
  refine z_callSF (As := [_]) dX9_guideAt_30 kX9_101 (c_X9_axisOf ht) rfl (zle rfl) ⟨zle rfl, zle rfl⟩ ⟨zle rfl, zle rfl⟩ (q := 33) rfl ?_
  refine z_callV (As := [_]) dX9_guideAt_33 kX9_214 (c_X9_findGuides hI hR0 ht) (wm _ _ _) rfl rfl (zle rfl) ⟨zle rfl, zle rfl⟩ ⟨zle rfl, zle rfl⟩ (q := 36) rfl (fun rv w2 hw2 => ?_) (fun E w2 h9 => by obtain ⟨_, _, h9, _⟩ := h9; cases h9)
  obtain ⟨c, g, h9, rfl, hs, hc6⟩ := hw2
  cases h9
  have hcd : c = (gdAll f0 (X.2.1 (2 * t)) (X.2.1 (2 * t + 1)) n).2 := Nat.le_antisymm (slist_len hs gd_slist) (slist_len gd_slist hs)
  refine z_istore_n (i := 3) dX9_guideAt_36 rfl (zle rfl) rfl (q := 37) rfl ?_
  refine z_aload_n (i := 0) dX9_guideAt_37 rfl rfl (q := 38) rfl ?_
  refine z_iload_n (i := 2) dX9_guideAt_38 rfl rfl (q := 39) rfl ?_
  refine z_iconst (v := 0) dX9_guideAt_39 rfl (q := 40) rfl ?_
  refine z_iload_n (i := 3) dX9_guideAt_40 rfl rfl (q := 41) rfl ?_
  refine z_iconst (v := 1) dX9_guideAt_41 rfl (q := 42) rfl ?_
  refine z_isub dX9_guideAt_42 (q := 43) rfl ?_
  refine z_callSF (As := [_, _, _]) dX9_guideAt_43 kX9_67 (c_X9_in ) rfl (zle rfl) ⟨zle rfl, zle rfl⟩ ⟨zle rfl, zle rfl⟩ (q := 46) rfl ?_
  refine z_if_ne (tgt := 53) dX9_guideAt_46 (by decide) (q := 49) rfl (fun h46 => ?_) (fun h46 => absurd (nosh_in (n := c) (by omega) (by omega)) (zb_0.mp h46))
  refine z_iconst (v := 0) dX9_guideAt_53 rfl (q := 54) rfl ?_
  refine z_iconst (v := 2) dX9_guideAt_54 rfl (q := 55) rfl ?_
  refine z_callVF (As := [_, _]) dX9_guideAt_55 kX9_89 (c_X9_fails_f rfl) (wm _ _ _) rfl rfl (zle rfl) ⟨zle rfl, zle rfl⟩ ⟨zle rfl, zle rfl⟩ (q := 58) rfl ?_
  refine z_if_eq (tgt := 65) dX9_guideAt_58 (by decide) (q := 61) rfl (fun h58 => ?_) (fun h58 => absurd h58 (by decide))
  refine z_aload_n (i := 0) dX9_guideAt_65 rfl rfl (q := 66) rfl ?_
  refine z_get dX9_guideAt_66 fX9_54 (wm _ _ _) rfl (q := 69) rfl ?_
  refine z_iload_n (i := 2) dX9_guideAt_69 rfl rfl (q := 70) rfl ?_
  refine z_iald dX9_guideAt_70 (wma_guide _ _ _) (zin (k := j) (by omega) (by decide)) (q := 71) rfl ?_
  rw [nI_clamp (by omega)]
  exact z_iret dX9_guideAt_71 rfl ⟨zle rfl, zle rfl⟩ ⟨g, by rw [show (yarr (yint Y 0 0) 14 g).1 14 j = (gdAll f0 (X.2.1 (2 * t)) (X.2.1 (2 * t + 1)) n).1 j from slist_head hs gd_slist j (by omega) hj], rfl⟩
set_option maxRecDepth 100000 in
set_option maxHeartbeats 4000000 in
theorem c_X9_guideAt_out {n nw t : Nat} {f0 : Nat → Int32} (hI : inv X n nw) (hR : rel X Y n nw) (ht : t < 2) {s : Int32} (hj : s < 0 ∨ nI (gdAll f0 (X.2.1 (2 * t)) (X.2.1 (2 * t + 1)) n).2 ≤ s) : ZM G mX9_guideAt 3 0 0 [.ref 77, .int (zch t), .int s] (zw X1 Y O) (fun r w => ∃ g, r = .inl (some (.int 0)) ∧ w = zw X1 (yint (yarr (yint Y 0 0) 14 g) 0 2) O) := by
  have h4 := rel_4 hR
  have hR0 : rel X (yint Y 0 0) n nw := rel_thr hR 0
  refine ZM.go pX9 rfl rfl (zle rfl) (zl := [some (.ref 77), some (.int (zch t)), some (.int s), none]) rfl ?_
  refine z_aload_n (i := 0) dX9_guideAt_0 rfl rfl (q := 1) rfl ?_
  refine z_iconst (v := 0) dX9_guideAt_1 rfl (q := 2) rfl ?_
  refine z_put dX9_guideAt_2 fX9_60 (wm _ _ _) (zle rfl) (zfit_int _) (q := 5) rfl ?_
  refine Z.eqw (wmi_thrown _ _ _ _) ?_
  refine z_aload_n (i := 0) dX9_guideAt_5 rfl rfl (q := 6) rfl ?_
  refine z_iload_n (i := 1) dX9_guideAt_6 rfl rfl (q := 7) rfl ?_
  refine z_callSF (As := [_]) dX9_guideAt_7 kX9_101 (c_X9_axisOf ht) rfl (zle rfl) ⟨zle rfl, zle rfl⟩ ⟨zle rfl, zle rfl⟩ (q := 10) rfl ?_
  refine z_iconst (v := (-1)) dX9_guideAt_10 rfl (q := 11) rfl ?_
  refine z_icmp_ne (tgt := 18) dX9_guideAt_11 (by decide) (q := 14) rfl (fun h11 => ?_) (fun h11 => absurd h11 (nI_m1 (by omega)))
  refine z_iconst (v := 0) dX9_guideAt_18 rfl (q := 19) rfl ?_
  refine z_iconst (v := 1) dX9_guideAt_19 rfl (q := 20) rfl ?_
  refine z_callVF (As := [_, _]) dX9_guideAt_20 kX9_89 (c_X9_fails_f rfl) (wm _ _ _) rfl rfl (zle rfl) ⟨zle rfl, zle rfl⟩ ⟨zle rfl, zle rfl⟩ (q := 23) rfl ?_
  refine z_if_eq (tgt := 28) dX9_guideAt_23 (by decide) (q := 26) rfl (fun h23 => ?_) (fun h23 => absurd h23 (by decide))
  refine z_aload_n (i := 0) dX9_guideAt_28 rfl rfl (q := 29) rfl ?_
  refine z_iload_n (i := 1) dX9_guideAt_29 rfl rfl (q := 30) rfl ?_
  refine z_callSF (As := [_]) dX9_guideAt_30 kX9_101 (c_X9_axisOf ht) rfl (zle rfl) ⟨zle rfl, zle rfl⟩ ⟨zle rfl, zle rfl⟩ (q := 33) rfl ?_
  refine z_callV (As := [_]) dX9_guideAt_33 kX9_214 (c_X9_findGuides hI hR0 ht) (wm _ _ _) rfl rfl (zle rfl) ⟨zle rfl, zle rfl⟩ ⟨zle rfl, zle rfl⟩ (q := 36) rfl (fun rv w2 hw2 => ?_) (fun E w2 h9 => by obtain ⟨_, _, h9, _⟩ := h9; cases h9)
  obtain ⟨c, g, h9, rfl, hs, hc6⟩ := hw2
  cases h9
  have hcd : c = (gdAll f0 (X.2.1 (2 * t)) (X.2.1 (2 * t + 1)) n).2 := Nat.le_antisymm (slist_len hs gd_slist) (slist_len gd_slist hs)
  refine z_istore_n (i := 3) dX9_guideAt_36 rfl (zle rfl) rfl (q := 37) rfl ?_
  refine z_aload_n (i := 0) dX9_guideAt_37 rfl rfl (q := 38) rfl ?_
  refine z_iload_n (i := 2) dX9_guideAt_38 rfl rfl (q := 39) rfl ?_
  refine z_iconst (v := 0) dX9_guideAt_39 rfl (q := 40) rfl ?_
  refine z_iload_n (i := 3) dX9_guideAt_40 rfl rfl (q := 41) rfl ?_
  refine z_iconst (v := 1) dX9_guideAt_41 rfl (q := 42) rfl ?_
  refine z_isub dX9_guideAt_42 (q := 43) rfl ?_
  refine z_callSF (As := [_, _, _]) dX9_guideAt_43 kX9_67 (c_X9_in ) rfl (zle rfl) ⟨zle rfl, zle rfl⟩ ⟨zle rfl, zle rfl⟩ (q := 46) rfl ?_
  refine z_if_ne (tgt := 53) dX9_guideAt_46 (by decide) (q := 49) rfl (fun h46 => absurd (zb_1.mp h46) (nosh_out (n := c) (by omega) (by rw [hcd]; exact hj))) (fun h46 => ?_)
  refine z_iconst (v := 1) dX9_guideAt_49 rfl (q := 50) rfl ?_
  refine z_goto (tgt := 54) dX9_guideAt_50 (by decide) ?_
  refine z_iconst (v := 2) dX9_guideAt_54 rfl (q := 55) rfl ?_
  refine z_callVF (As := [_, _]) dX9_guideAt_55 kX9_89 (c_X9_fails_t rfl (by decide)) (wm _ _ _) rfl rfl (zle rfl) ⟨zle rfl, zle rfl⟩ ⟨zle rfl, zle rfl⟩ (q := 58) rfl ?_
  refine z_if_eq (tgt := 65) dX9_guideAt_58 (by decide) (q := 61) rfl (fun h58 => absurd h58 (by decide)) (fun h58 => ?_)
  refine z_iconst (v := 0) dX9_guideAt_61 rfl (q := 62) rfl ?_
  refine z_goto (tgt := 71) dX9_guideAt_62 (by decide) ?_
  exact z_iret dX9_guideAt_71 rfl ⟨zle rfl, zle rfl⟩ ⟨g, rfl, rfl⟩
set_option maxRecDepth 100000 in
set_option maxHeartbeats 4000000 in
theorem c_X9_guideAt_ax {n nw : Nat} {c : Int32} (hR : rel X Y n nw) (h1 : ¬ c = 120) (h2 : ¬ c = 121) {s : Int32} : ZM G mX9_guideAt 3 0 0 [.ref 77, .int c, .int s] (zw X1 Y O) (mR X1 O (0) (yth Y 1)) := by
  have h4 := rel_4 hR
  have hR0 : rel X (yint Y 0 0) n nw := rel_thr hR 0
  refine ZM.go pX9 rfl rfl (zle rfl) (zl := [some (.ref 77), some (.int c), some (.int s), none]) rfl ?_
  refine z_aload_n (i := 0) dX9_guideAt_0 rfl rfl (q := 1) rfl ?_
  refine z_iconst (v := 0) dX9_guideAt_1 rfl (q := 2) rfl ?_
  refine z_put dX9_guideAt_2 fX9_60 (wm _ _ _) (zle rfl) (zfit_int _) (q := 5) rfl ?_
  refine Z.eqw (wmi_thrown _ _ _ _) ?_
  refine z_aload_n (i := 0) dX9_guideAt_5 rfl rfl (q := 6) rfl ?_
  refine z_iload_n (i := 1) dX9_guideAt_6 rfl rfl (q := 7) rfl ?_
  refine z_callSF (As := [_]) dX9_guideAt_7 kX9_101 (c_X9_axisOf_no h1 h2) rfl (zle rfl) ⟨zle rfl, zle rfl⟩ ⟨zle rfl, zle rfl⟩ (q := 10) rfl ?_
  refine z_iconst (v := (-1)) dX9_guideAt_10 rfl (q := 11) rfl ?_
  refine z_icmp_ne (tgt := 18) dX9_guideAt_11 (by decide) (q := 14) rfl (fun h11 => absurd h11 (by decide)) (fun h11 => ?_)
  refine z_iconst (v := 1) dX9_guideAt_14 rfl (q := 15) rfl ?_
  refine z_goto (tgt := 19) dX9_guideAt_15 (by decide) ?_
  refine z_iconst (v := 1) dX9_guideAt_19 rfl (q := 20) rfl ?_
  refine z_callVF (As := [_, _]) dX9_guideAt_20 kX9_89 (c_X9_fails_t rfl (by decide)) (wm _ _ _) rfl rfl (zle rfl) ⟨zle rfl, zle rfl⟩ ⟨zle rfl, zle rfl⟩ (q := 23) rfl ?_
  refine z_if_eq (tgt := 28) dX9_guideAt_23 (by decide) (q := 26) rfl (fun h23 => absurd h23 (by decide)) (fun h23 => ?_)
  refine z_iconst (v := 0) dX9_guideAt_26 rfl (q := 27) rfl ?_
  exact z_iret dX9_guideAt_27 rfl ⟨zle rfl, zle rfl⟩ ⟨rfl, rfl⟩
end
