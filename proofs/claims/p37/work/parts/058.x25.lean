section
variable {G : zG} {X : zX} {Y : zY} {O : zO}
set_option maxRecDepth 100000 in
set_option maxHeartbeats 4000000 in
theorem nI_maxL {a b : Nat} (ha : a ≤ 1000) (hb : b ≤ 1000) : (if nI a < nI b then nI b else nI a) = nI (max a b) := by
  rcases Nat.lt_or_ge a b with h | h
  · rw [if_pos ((nI_ltI (by omega) (by omega)).mpr h), Nat.max_eq_right (by omega)]
  · rw [if_neg (fun h2 => absurd ((nI_ltI (by omega) (by omega)).mp h2) (by omega)), Nat.max_eq_left h]
set_option maxRecDepth 100000 in
set_option maxHeartbeats 4000000 in
def okAll (T : tsP) (D : Nat → Nat) : Prop := ∀ q, q < Tc T → ¬ nclash T D (Tbf T q) (Tbs T q)
set_option maxRecDepth 100000 in
set_option maxHeartbeats 4000000 in
theorem okAll_any {n : Nat} {T : tsP} {D : Nat → Nat} (hT : tsK X n T) (hD : lrw X 22 D n) : rany (barHit X 22 (Tbf T) (Tbs T) 0 4) 0 (Tc T) = true ↔ ¬ okAll T D := by
  have h4 := hT.1
  have hq : ∀ q, q < Tc T → (barHit X 22 (Tbf T) (Tbs T) 0 4 q ↔ nclash T D (Tbf T q) (Tbs T q)) := fun q hq => by
    obtain ⟨g1, g2, g3, g4⟩ := hT.2.2.2.1.2.2 q hq
    have e1 := hD (Tbf T q) (by omega)
    have e2 := hD (Tbs T q) (by omega)
    have s1 := hT.2.2.1 (Tbf T q) (by omega)
    have s2 := hT.2.2.1 (Tbs T q) (by omega)
    unfold barHit clash nclash
    rw [show (0 : Int32) = nI 0 from rfl, show (4 : Int32) = nI 4 from rfl, nI_ltI (by omega) (by omega), nI_ltI (by omega) (by omega), e1.1, e2.1, s1.2.2.2.2.1, s2.2.2.2.2.1, nI_add, nI_add, nI_ltI (by omega) (by omega), nI_ltI (by omega) (by omega)]
    constructor
    · rintro ⟨_, _, h⟩; exact h
    · intro h; exact ⟨by omega, by omega, h⟩
  rw [rany_iff]
  constructor
  · rintro ⟨q, _, hq2, h⟩ ho
    exact ho q (by omega) ((hq q (by omega)).mp h)
  · intro h
    refine Classical.byContradiction (fun h2 => h (fun q hq2 hc => h2 ⟨q, Nat.zero_le _, by omega, (hq q hq2).mpr hc⟩))
set_option maxRecDepth 100000 in
set_option maxHeartbeats 4000000 in
theorem okAll_congr {n : Nat} {T : tsP} {D D2 : Nat → Nat} (hT : tsK X n T) (h : ∀ j, j < n → D j = D2 j) (ho : okAll T D) : okAll T D2 := by
  intro q hq
  have h1 := hT.2.2.2.1.2.2 q hq
  unfold nclash
  rw [← h (Tbf T q) (by omega), ← h (Tbs T q) (by omega)]
  exact ho q hq
set_option maxRecDepth 100000 in
set_option maxHeartbeats 4000000 in
theorem fAll_congr {n : Nat} {T : tsP} {D D2 : Nat → Nat} (hT : tsK X n T) (h : ∀ j, j < n → D j = D2 j) : fAll T D = fAll T D2 := by
  unfold fAll
  refine nsum_congr _ _ (fun q _ hq => ?_)
  have h1 := hT.2.2.2.2.2.2 q (by omega)
  unfold hitN
  rw [h (Twf T q) (by omega), h (Tws T q) (by omega)]
/- the layout of picks -/
set_option maxRecDepth 100000 in
set_option maxHeartbeats 4000000 in
abbrev lay (T : tsP) (p : Nat → Nat) : Nat → Nat := fun j => Tcv T j (p j)
set_option maxRecDepth 100000 in
set_option maxHeartbeats 4000000 in
def pok (n : Nat) (T : tsP) (p : Nat → Nat) : Prop := ∀ j, j < n → p j < Tcc T j
/- g is the greatest strength of the allowed ones among the first N layouts -/
set_option maxRecDepth 100000 in
set_option maxHeartbeats 4000000 in
def gI (n : Nat) (T : tsP) (N g : Nat) : Prop := g ≤ 72 ∧ (∀ q, pok n T q → vl (Tcc T) q 0 n < N → okAll T (lay T q) → fAll T (lay T q) ≤ g) ∧ (g = 0 ∨ ∃ q, pok n T q ∧ okAll T (lay T q) ∧ fAll T (lay T q) = g)
set_option maxRecDepth 100000 in
set_option maxHeartbeats 4000000 in
theorem gI_same {n N : Nat} {T : tsP} {p q : Nat → Nat} (hp : pok n T p) (hq : pok n T q) (hv : vl (Tcc T) p 0 n = N) (h : vl (Tcc T) q 0 n < N + 1) (h2 : ¬ vl (Tcc T) q 0 n < N) : ∀ j, j < n → lay T p j = lay T q j := by
  intro j hj
  have h3 := vl_inj n 0 (fun i _ hi => ⟨hp i (by omega), hq i (by omega)⟩) (by omega : vl (Tcc T) p 0 n = vl (Tcc T) q 0 n) j (Nat.zero_le _) (by omega)
  show Tcv T j (p j) = Tcv T j (q j)
  rw [h3]
set_option maxRecDepth 100000 in
set_option maxHeartbeats 4000000 in
theorem gI_bad {n N g : Nat} {T : tsP} {p : Nat → Nat} (hT : tsK X n T) (h : gI n T N g) (hp : pok n T p) (hv : vl (Tcc T) p 0 n = N) (hb : ¬ okAll T (lay T p)) : gI n T (N + 1) g := by
  refine ⟨h.1, fun q hq hlt ho => ?_, h.2.2⟩
  rcases Decidable.em (vl (Tcc T) q 0 n < N) with h2 | h2
  · exact h.2.1 q hq h2 ho
  · exact absurd (okAll_congr hT (fun j hj => (gI_same hp hq hv hlt h2 j hj).symm) ho) hb
set_option maxRecDepth 100000 in
set_option maxHeartbeats 4000000 in
theorem gI_ok {n N g : Nat} {T : tsP} {p : Nat → Nat} (hT : tsK X n T) (h : gI n T N g) (hp : pok n T p) (hv : vl (Tcc T) p 0 n = N) (hb : okAll T (lay T p)) : gI n T (N + 1) (max g (fAll T (lay T p))) := by
  have h72 := fAll_le hT (lay T p)
  refine ⟨by have := h.1; omega, fun q hq hlt ho => ?_, ?_⟩
  · rcases Decidable.em (vl (Tcc T) q 0 n < N) with h2 | h2
    · have := h.2.1 q hq h2 ho; omega
    · rw [← fAll_congr hT (gI_same hp hq hv hlt h2)]; omega
  · rcases Nat.lt_or_ge g (fAll T (lay T p)) with h2 | h2
    · exact Or.inr ⟨p, hp, hb, by omega⟩
    · rw [Nat.max_eq_left h2]; exact h.2.2
set_option maxRecDepth 100000 in
set_option maxHeartbeats 4000000 in
theorem z_X6_greatestStrengthOfAll_42 {n N : Nat} {T : tsP} (hT : tsK X n T) (hN : N = pr (Tcc T) 0 n) (hN2 : N ≤ 10000) : ∀ (m i g : Nat) (p : Nat → Nat) (X1 : zX), i + m = N → ks X X1 → pkW X1 n T p → (i < N → vl (Tcc T) p 0 n = i) → gI n T i g → Z G mX6_greatestStrengthOfAll (zrm 5 0 0) 0 0 42 [some (.ref 26), some (.int (nI N)), some (.int (nI g)), some (.int (nI i))] [] (zw X1 Y O) (fun r w2 => ∃ (X2 : zX) (g : Nat), r = .inl (some (.int (nI g))) ∧ w2 = zw X2 Y O ∧ ks X X2 ∧ gI n T (pr (Tcc T) 0 n) g) := by
  intro m
  induction m with
  | zero =>
    intro i g p X1 hi hk hp hv hg
    refine z_iload_n (i := 3) dX6_greatestStrengthOfAll_42 rfl rfl (q := 43) rfl ?_
    refine z_iload_n (i := 1) dX6_greatestStrengthOfAll_43 rfl rfl (q := 44) rfl ?_
    refine z_icmp_ge (tgt := 91) dX6_greatestStrengthOfAll_44 (by decide) (q := 47) rfl (fun h44 => ?_) (fun h44 => absurd (zge_t (by omega)) h44)
    refine z_iload_n (i := 2) dX6_greatestStrengthOfAll_91 rfl rfl (q := 92) rfl ?_
    exact z_iret dX6_greatestStrengthOfAll_92 rfl ⟨zle rfl, zle rfl⟩ ⟨X1, g, rfl, rfl, hk, by rw [show pr (Tcc T) 0 n = i by omega]; exact hg⟩
  | succ m ih =>
    intro i g p X1 hi hk hp hv hg
    have hT1 := tsK_ks hk hT
    have hpo : pok n T p := fun j hj => (hp j hj).1
    have hlr : lrw X1 22 (lay T p) n := fun j hj => ⟨(hp j hj).2.2, ((hT.2.2.1 j hj).2.2.2.2.2.2.1 (p j) (hpo j hj)).2⟩
    have hg72 := hg.1
    have hf72 := fAll_le hT1 (lay T p)
    refine z_iload_n (i := 3) dX6_greatestStrengthOfAll_42 rfl rfl (q := 43) rfl ?_
    refine z_iload_n (i := 1) dX6_greatestStrengthOfAll_43 rfl rfl (q := 44) rfl ?_
    refine z_icmp_ge (tgt := 91) dX6_greatestStrengthOfAll_44 (by decide) (q := 47) rfl (fun h44 => absurd h44 (zge_f (by omega) (by omega))) (fun h44 => ?_)
    refine z_aload_n (i := 0) dX6_greatestStrengthOfAll_47 rfl rfl (q := 48) rfl ?_
    refine z_get dX6_greatestStrengthOfAll_48 fX6_21 (wo_tidySearch _ _ _) rfl (q := 51) rfl ?_
    refine z_aload_n (i := 0) dX6_greatestStrengthOfAll_51 rfl rfl (q := 52) rfl ?_
    refine z_get dX6_greatestStrengthOfAll_52 fX6_34 (wo_tidySearch _ _ _) rfl (q := 55) rfl ?_
    refine z_iconst (v := 0) dX6_greatestStrengthOfAll_55 rfl (q := 56) rfl ?_
    refine z_iconst (v := 4) dX6_greatestStrengthOfAll_56 rfl (q := 57) rfl ?_
    refine z_callVF (As := [_, _, _]) dX6_greatestStrengthOfAll_57 kX6_116 (c_X5_keepsApart (c := Tc T) (bf := Tbf T) (bs := Tbs T) (tsK_bar hT1)) (wo_rules _ _ _) rfl rfl (zle rfl) ⟨zle rfl, zle rfl⟩ ⟨zle rfl, zle rfl⟩ (q := 60) rfl ?_
    refine z_if_eq (tgt := 81) dX6_greatestStrengthOfAll_60 (by decide) (q := 63) rfl (fun h60 => ?_) (fun h60 => ?_)
    · have ho : ¬ okAll T (lay T p) := fun ho => by rw [show rany (barHit X1 22 (Tbf T) (Tbs T) 0 4) 0 (Tc T) = false from Bool.eq_false_iff.mpr (fun h9 => (okAll_any hT1 hlr).mp h9 ho)] at h60; exact absurd h60 (by decide)
      refine z_aload_n (i := 0) dX6_greatestStrengthOfAll_81 rfl rfl (q := 82) rfl ?_
      refine z_callV (As := []) dX6_greatestStrengthOfAll_82 kX6_131 (c_X6_pickNextLayout hT1 hp) (wo_tidySearch _ _ _) rfl rfl (zle rfl) ⟨zle rfl, zle rfl⟩ ⟨zle rfl, zle rfl⟩ (q := 85) rfl (fun rv w2 hw2 => ?_) (fun E w2 h9 => by cases h9.1)
      obtain ⟨h9, X2, rfl, hk2, hp2⟩ := hw2
      cases h9
      refine z_iinc dX6_greatestStrengthOfAll_85 rfl rfl (zle rfl) rfl (q := 88) rfl ?_
      refine z_goto (tgt := 42) dX6_greatestStrengthOfAll_88 (by decide) ?_
      refine Z.eql (zl2 := [some (.ref 26), some (.int (nI N)), some (.int (nI g)), some (.int (nI (i + 1)))]) (by first | (rw [← nI_1 i]; done) | (rw [← nI_1 i]; rfl)) ?_
      exact ih (i + 1) g _ X2 (by omega) (ks_trans hk hk2) hp2 (fun h9 => by rw [nx_vl n 0 p (fun j _ hj => hpo j (by omega)) (by rw [hv (by omega)]; omega), hv (by omega)]) (gI_bad hT1 hg hpo (hv (by omega)) ho)
    · have ho : okAll T (lay T p) := Classical.byContradiction (fun h9 => h60 (by rw [(okAll_any hT1 hlr).mpr h9]; rfl))
      refine z_iload_n (i := 2) dX6_greatestStrengthOfAll_63 rfl rfl (q := 64) rfl ?_
      refine z_aload_n (i := 0) dX6_greatestStrengthOfAll_64 rfl rfl (q := 65) rfl ?_
      refine z_get dX6_greatestStrengthOfAll_65 fX6_21 (wo_tidySearch _ _ _) rfl (q := 68) rfl ?_
      refine z_aload_n (i := 0) dX6_greatestStrengthOfAll_68 rfl rfl (q := 69) rfl ?_
      refine z_get dX6_greatestStrengthOfAll_69 fX6_34 (wo_tidySearch _ _ _) rfl (q := 72) rfl ?_
      refine z_iconst (v := 0) dX6_greatestStrengthOfAll_72 rfl (q := 73) rfl ?_
      refine z_iconst (v := 4) dX6_greatestStrengthOfAll_73 rfl (q := 74) rfl ?_
      refine z_callVF (As := [_, _, _]) dX6_greatestStrengthOfAll_74 kX6_80 (c_X5_strengthOf_22 (c := Tc2 T) (wf := Twf T) (ws := Tws T) (tsK_wish hT1)) (wo_rules _ _ _) rfl rfl (zle rfl) ⟨zle rfl, zle rfl⟩ ⟨zle rfl, zle rfl⟩ (q := 77) rfl ?_
      rw [fAll_eq hT1 hlr]
      refine z_max dX6_greatestStrengthOfAll_77 kX6_128 (zle rfl) ⟨zle rfl, zle rfl, zle rfl, zle rfl⟩ (q := 80) rfl ?_
      rw [nI_maxL (by omega) (by omega)]
      refine z_istore_n (i := 2) dX6_greatestStrengthOfAll_80 rfl (zle rfl) rfl (q := 81) rfl ?_
      refine z_aload_n (i := 0) dX6_greatestStrengthOfAll_81 rfl rfl (q := 82) rfl ?_
      refine z_callV (As := []) dX6_greatestStrengthOfAll_82 kX6_131 (c_X6_pickNextLayout hT1 hp) (wo_tidySearch _ _ _) rfl rfl (zle rfl) ⟨zle rfl, zle rfl⟩ ⟨zle rfl, zle rfl⟩ (q := 85) rfl (fun rv w2 hw2 => ?_) (fun E w2 h9 => by cases h9.1)
      obtain ⟨h9, X2, rfl, hk2, hp2⟩ := hw2
      cases h9
      refine z_iinc dX6_greatestStrengthOfAll_85 rfl rfl (zle rfl) rfl (q := 88) rfl ?_
      refine z_goto (tgt := 42) dX6_greatestStrengthOfAll_88 (by decide) ?_
      refine Z.eql (zl2 := [some (.ref 26), some (.int (nI N)), some (.int (nI (max g (fAll T (lay T p))))), some (.int (nI (i + 1)))]) (by first | (rw [← nI_1 i]; done) | (rw [← nI_1 i]; rfl)) ?_
      exact ih (i + 1) (max g (fAll T (lay T p))) _ X2 (by omega) (ks_trans hk hk2) hp2 (fun h9 => by rw [nx_vl n 0 p (fun j _ hj => hpo j (by omega)) (by rw [hv (by omega)]; omega), hv (by omega)]) (gI_ok hT1 hg hpo (hv (by omega)) ho)
set_option maxRecDepth 100000 in
set_option maxHeartbeats 4000000 in
theorem vl_zero (c : Nat → Nat) : ∀ m k, vl c (fun _ => 0) k m = 0
  | 0, _ => rfl
  | m + 1, k => by unfold vl; rw [vl_zero c m (k + 1)]; omega
set_option maxRecDepth 100000 in
set_option maxHeartbeats 4000000 in
theorem z_X6_greatestStrengthOfAll_4 {n : Nat} {T : tsP} (hT : tsK X n T) (hcc : ∀ j, j < n → 0 < Tcc T j) : ∀ (m i l : Nat) (X1 : zX), i + m = n → l * pr (Tcc T) i m = pr (Tcc T) 0 n → ks X X1 → (∀ j, j < i → 0 < Tcc T j ∧ X1.2.1 23 j = nI 0 ∧ X1.2.1 22 j = nI (Tcv T j 0)) → Z G mX6_greatestStrengthOfAll (zrm 5 0 0) 0 0 4 [some (.ref 26), some (.int (nI l)), some (.int (nI i)), none] [] (zw X1 Y O) (fun r w2 => ∃ (X2 : zX) (g : Nat), r = .inl (some (.int (nI g))) ∧ w2 = zw X2 Y O ∧ ks X X2 ∧ gI n T (pr (Tcc T) 0 n) g) := by
  have h4 := hT.1
  have hz := vl_zero (Tcc T) n 0
  intro m
  induction m with
  | zero =>
    intro i l X1 hi hl hk hp
    refine z_iload_n (i := 2) dX6_greatestStrengthOfAll_4 rfl rfl (q := 5) rfl ?_
    refine z_aload_n (i := 0) dX6_greatestStrengthOfAll_5 rfl rfl (q := 6) rfl ?_
    refine z_get dX6_greatestStrengthOfAll_6 fX6_30 (wo_tidySearch _ _ _) rfl (q := 9) rfl ?_
    refine z_callVF (As := []) dX6_greatestStrengthOfAll_9 kX6_99 (c_X4_length (wr_21 _ _ _)) (wr_21 _ _ _).1 rfl rfl (zle rfl) ⟨zle rfl, zle rfl⟩ ⟨zle rfl, zle rfl⟩ (q := 12) rfl ?_
    rw [show X1.1 21 = nI n from (tsK_ks hk hT).2.1]
    refine z_icmp_ge (tgt := 38) dX6_greatestStrengthOfAll_12 (by decide) (q := 15) rfl (fun h12 => ?_) (fun h12 => absurd (zge_t (by omega)) h12)
    refine z_iconst (v := 0) dX6_greatestStrengthOfAll_38 rfl (q := 39) rfl ?_
    refine z_istore_n (i := 2) dX6_greatestStrengthOfAll_39 rfl (zle rfl) rfl (q := 40) rfl ?_
    refine z_iconst (v := 0) dX6_greatestStrengthOfAll_40 rfl (q := 41) rfl ?_
    refine z_istore_n (i := 3) dX6_greatestStrengthOfAll_41 rfl (zle rfl) rfl (q := 42) rfl ?_
    have hl1 : l = pr (Tcc T) 0 n := by rw [← hl]; exact (Nat.mul_one l).symm
    have hle := pr_le (c := Tcc T) n 0 (fun j _ hj => (hT.2.2.1 j (by omega)).2.1)
    have hle2 : 10 ^ n ≤ 10 ^ 4 := Nat.pow_le_pow_right (by decide) h4
    exact z_X6_greatestStrengthOfAll_42 (N := l) hT hl1 (by omega) l 0 0 (fun _ => 0) X1 (by omega) hk (fun j hj => hp j (by omega)) (fun _ => hz) ⟨Nat.zero_le _, fun q _ h => absurd h (Nat.not_lt_zero _), Or.inl rfl⟩
  | succ m ih =>
    intro i l X1 hi hl hk hp
    have hT1 := tsK_ks hk hT
    refine z_iload_n (i := 2) dX6_greatestStrengthOfAll_4 rfl rfl (q := 5) rfl ?_
    refine z_aload_n (i := 0) dX6_greatestStrengthOfAll_5 rfl rfl (q := 6) rfl ?_
    refine z_get dX6_greatestStrengthOfAll_6 fX6_30 (wo_tidySearch _ _ _) rfl (q := 9) rfl ?_
    refine z_callVF (As := []) dX6_greatestStrengthOfAll_9 kX6_99 (c_X4_length (wr_21 _ _ _)) (wr_21 _ _ _).1 rfl rfl (zle rfl) ⟨zle rfl, zle rfl⟩ ⟨zle rfl, zle rfl⟩ (q := 12) rfl ?_
    rw [show X1.1 21 = nI n from (tsK_ks hk hT).2.1]
    refine z_icmp_ge (tgt := 38) dX6_greatestStrengthOfAll_12 (by decide) (q := 15) rfl (fun h12 => absurd h12 (zge_f (by omega) (by omega))) (fun h12 => ?_)
    refine z_iload_n (i := 1) dX6_greatestStrengthOfAll_15 rfl rfl (q := 16) rfl ?_
    refine z_aload_n (i := 0) dX6_greatestStrengthOfAll_16 rfl rfl (q := 17) rfl ?_
    refine z_get dX6_greatestStrengthOfAll_17 fX6_12 (wo_tidySearch _ _ _) rfl (q := 20) rfl ?_
    refine z_iload_n (i := 2) dX6_greatestStrengthOfAll_20 rfl rfl (q := 21) rfl ?_
    refine z_callVF (As := [_]) dX6_greatestStrengthOfAll_21 kX6_102 (c_X1_count (by omega)) (wo_choices _ _ _) rfl rfl (zle rfl) ⟨zle rfl, zle rfl⟩ ⟨zle rfl, zle rfl⟩ (q := 24) rfl ?_
    rw [show X1.2.1 12 i = nI (Tcc T i) from (hT1.2.2.1 i (by omega)).1]
    refine z_imul dX6_greatestStrengthOfAll_24 (q := 25) rfl ?_
    rw [nI_mul]
    refine z_istore_n (i := 1) dX6_greatestStrengthOfAll_25 rfl (zle rfl) rfl (q := 26) rfl ?_
    refine z_aload_n (i := 0) dX6_greatestStrengthOfAll_26 rfl rfl (q := 27) rfl ?_
    refine z_iload_n (i := 2) dX6_greatestStrengthOfAll_27 rfl rfl (q := 28) rfl ?_
    refine z_iconst (v := 0) dX6_greatestStrengthOfAll_28 rfl (q := 29) rfl ?_
    refine z_callVF (As := [_, _]) dX6_greatestStrengthOfAll_29 kX6_125 (c_X6_pick (k := i) (j := 0) (by omega) (by decide)) (wo_tidySearch _ _ _) rfl rfl (zle rfl) ⟨zle rfl, zle rfl⟩ ⟨zle rfl, zle rfl⟩ (q := 32) rfl ?_
    refine z_iinc dX6_greatestStrengthOfAll_32 rfl rfl (zle rfl) rfl (q := 35) rfl ?_
    refine z_goto (tgt := 4) dX6_greatestStrengthOfAll_35 (by decide) ?_
    refine Z.eql (zl2 := [some (.ref 26), some (.int (nI (l * Tcc T i))), some (.int (nI (i + 1))), none]) (by first | (rw [← nI_1 i]; done) | (rw [← nI_1 i]; rfl)) ?_
    refine ih (i + 1) (l * Tcc T i) _ (by omega) (by rw [Nat.mul_assoc]; exact hl) (ks_trans hk (ks_pick _ _ _ _ _)) (fun j hj => ?_)
    have h9 := pkW_set (k := i + 1) (p := fun _ => 0) (v := 0) hT1 (by omega) (fun j hj hne => hp j (by omega)) (hcc i (by omega)) (X1.1 23) (X1.1 22) j hj
    rw [show va_up (fun _ => 0) i 0 j = (0 : Nat) by unfold va_up; split <;> rfl] at h9
    exact h9
set_option maxRecDepth 100000 in
set_option maxHeartbeats 4000000 in
theorem c_X6_greatestStrengthOfAll {n : Nat} {T : tsP} (hT : tsK X n T) (hcc : ∀ j, j < n → 0 < Tcc T j) : ZM G mX6_greatestStrengthOfAll 5 0 0 [.ref 26] (zw X Y O) (fun r w2 => ∃ (X2 : zX) (g : Nat), r = .inl (some (.int (nI g))) ∧ w2 = zw X2 Y O ∧ ks X X2 ∧ gI n T (pr (Tcc T) 0 n) g) := by
  refine ZM.go pX6 rfl rfl (zle rfl) (zl := [some (.ref 26), none, none, none]) rfl ?_
  refine z_iconst (v := 1) dX6_greatestStrengthOfAll_0 rfl (q := 1) rfl ?_
  refine z_istore_n (i := 1) dX6_greatestStrengthOfAll_1 rfl (zle rfl) rfl (q := 2) rfl ?_
  refine z_iconst (v := 0) dX6_greatestStrengthOfAll_2 rfl (q := 3) rfl ?_
  refine z_istore_n (i := 2) dX6_greatestStrengthOfAll_3 rfl (zle rfl) rfl (q := 4) rfl ?_
  exact z_X6_greatestStrengthOfAll_4 hT hcc n 0 1 X (by omega) (Nat.one_mul _) (ks_refl X) (fun j h => absurd h (Nat.not_lt_zero _))
end
