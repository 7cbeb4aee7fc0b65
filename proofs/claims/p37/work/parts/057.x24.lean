section
variable {G : zG} {X : zX} {Y : zY} {O : zO}
/- counting on by one, the digits being p, the radices c -/
set_option maxRecDepth 100000 in
set_option maxHeartbeats 4000000 in
def nx (c : Nat → Nat) : Nat → Nat → (Nat → Nat) → (Nat → Nat)
  | _, 0, p => p
  | k, m + 1, p => if p k + 1 < c k then va_up p k (p k + 1) else nx c (k + 1) m (va_up p k 0)
set_option maxRecDepth 100000 in
set_option maxHeartbeats 4000000 in
def vl (c p : Nat → Nat) : Nat → Nat → Nat
  | _, 0 => 0
  | k, m + 1 => p k + c k * vl c p (k + 1) m
set_option maxRecDepth 100000 in
set_option maxHeartbeats 4000000 in
def pr (c : Nat → Nat) : Nat → Nat → Nat
  | _, 0 => 1
  | k, m + 1 => c k * pr c (k + 1) m
set_option maxRecDepth 100000 in
set_option maxHeartbeats 4000000 in
theorem vl_congr {c p q : Nat → Nat} : ∀ (m k : Nat), (∀ j, k ≤ j → j < k + m → p j = q j) → vl c p k m = vl c q k m
  | 0, _, _ => rfl
  | m + 1, k, h => by
    unfold vl
    rw [h k (Nat.le_refl _) (by omega), vl_congr m (k + 1) (fun j h1 h2 => h j (by omega) (by omega))]
set_option maxRecDepth 100000 in
set_option maxHeartbeats 4000000 in
theorem vl_lt {c p : Nat → Nat} : ∀ (m k : Nat), (∀ j, k ≤ j → j < k + m → p j < c j) → vl c p k m < pr c k m
  | 0, _, _ => Nat.lt_succ_self 0
  | m + 1, k, h => by
    have h1 := h k (Nat.le_refl _) (by omega)
    have h2 := vl_lt (c := c) (p := p) m (k + 1) (fun j h1 h2 => h j (by omega) (by omega))
    unfold vl pr
    have h3 := Nat.mul_le_mul_left (c k) (show vl c p (k + 1) m + 1 ≤ pr c (k + 1) m from h2)
    rw [Nat.mul_add, Nat.mul_one] at h3
    omega
set_option maxRecDepth 100000 in
set_option maxHeartbeats 4000000 in
theorem vl_inj {c p q : Nat → Nat} : ∀ (m k : Nat), (∀ j, k ≤ j → j < k + m → p j < c j ∧ q j < c j) → vl c p k m = vl c q k m → ∀ j, k ≤ j → j < k + m → p j = q j
  | 0, k, _, _, j, h1, h2 => absurd h2 (by omega)
  | m + 1, k, h, e, j, h1, h2 => by
    obtain ⟨g1, g2⟩ := h k (Nat.le_refl _) (by omega)
    unfold vl at e
    have e1 := congrArg (fun x => x % c k) e
    have e2 := congrArg (fun x => x / c k) e
    simp only [Nat.add_mul_mod_self_left, Nat.mod_eq_of_lt g1, Nat.mod_eq_of_lt g2] at e1
    simp only [Nat.add_mul_div_left _ _ (show 0 < c k by omega), Nat.div_eq_of_lt g1, Nat.div_eq_of_lt g2, Nat.zero_add] at e2
    rcases Decidable.em (j = k) with h3 | h3
    · rw [h3]; exact e1
    · exact vl_inj m (k + 1) (fun i h4 h5 => h i (by omega) (by omega)) e2 j (by omega) (by omega)
set_option maxRecDepth 100000 in
set_option maxHeartbeats 4000000 in
theorem nx_old {c : Nat → Nat} : ∀ (m k : Nat) (p : Nat → Nat) (j : Nat), j < k → nx c k m p j = p j
  | 0, _, _, _, _ => rfl
  | m + 1, k, p, j, h => by
    unfold nx
    split
    · exact if_neg (by omega)
    · rw [nx_old m (k + 1) _ j (by omega)]; exact if_neg (by omega)
set_option maxRecDepth 100000 in
set_option maxHeartbeats 4000000 in
theorem nx_ok {c : Nat → Nat} : ∀ (m k : Nat) (p : Nat → Nat), (∀ j, k ≤ j → j < k + m → p j < c j) → ∀ j, k ≤ j → j < k + m → nx c k m p j < c j
  | 0, k, p, h, j, h1, h2 => absurd h2 (by omega)
  | m + 1, k, p, h, j, h1, h2 => by
    have h0 := h k (Nat.le_refl _) (by omega)
    unfold nx
    split
    · rename_i h3
      show (if j = k then p k + 1 else p j) < c j
      split
      · rename_i h4; rw [h4]; exact h3
      · exact h j h1 h2
    · rcases Decidable.em (j = k) with h4 | h4
      · rw [nx_old m (k + 1) _ j (by omega), h4]
        show (if k = k then 0 else p k) < c k
        rw [if_pos rfl]; omega
      · refine nx_ok m (k + 1) _ (fun i h5 h6 => ?_) j (by omega) (by omega)
        show (if i = k then 0 else p i) < c i
        rw [if_neg (by omega)]; exact h i (by omega) (by omega)
set_option maxRecDepth 100000 in
set_option maxHeartbeats 4000000 in
theorem nx_vl {c : Nat → Nat} : ∀ (m k : Nat) (p : Nat → Nat), (∀ j, k ≤ j → j < k + m → p j < c j) → vl c p k m + 1 < pr c k m → vl c (nx c k m p) k m = vl c p k m + 1
  | 0, k, p, h, h1 => absurd h1 (by show ¬ 0 + 1 < 1; omega)
  | m + 1, k, p, h, h1 => by
    have h0 := h k (Nat.le_refl _) (by omega)
    unfold vl pr at h1
    unfold nx
    split
    · rename_i h3
      unfold vl
      rw [show va_up p k (p k + 1) k = p k + 1 from if_pos rfl, vl_congr (p := va_up p k (p k + 1)) (q := p) m (k + 1) (fun j h4 h5 => if_neg (by omega))]
      omega
    · rename_i h3
      have h4 : c k = p k + 1 := by omega
      have h5 : vl c p (k + 1) m = vl c (va_up p k 0) (k + 1) m := vl_congr m (k + 1) (fun j h4 h5 => (if_neg (by omega)).symm)
      have h6 : vl c p (k + 1) m + 1 < pr c (k + 1) m := by
        rcases Nat.lt_or_ge (vl c p (k + 1) m + 1) (pr c (k + 1) m) with h7 | h7
        · exact h7
        · exfalso
          have h8 := Nat.mul_le_mul_left (c k) h7
          rw [Nat.mul_add, Nat.mul_one] at h8
          omega
      unfold vl
      rw [nx_old m (k + 1) _ k (by omega), show va_up p k 0 k = 0 from if_pos rfl, nx_vl m (k + 1) _ (fun j h8 h9 => by show (if j = k then 0 else p j) < c j; rw [if_neg (by omega)]; exact h j (by omega) (by omega)) (by rw [← h5]; exact h6), ← h5, Nat.mul_add, Nat.mul_one]
      omega
set_option maxRecDepth 100000 in
set_option maxHeartbeats 4000000 in
theorem pr_le {c : Nat → Nat} : ∀ (m k : Nat), (∀ j, k ≤ j → j < k + m → c j ≤ 10) → pr c k m ≤ 10 ^ m
  | 0, _, _ => Nat.le_refl _
  | m + 1, k, h => by
    unfold pr
    rw [Nat.pow_succ, Nat.mul_comm]
    exact Nat.mul_le_mul (pr_le m (k + 1) (fun j h1 h2 => h j (by omega) (by omega))) (h k (Nat.le_refl _) (by omega))
/- the picks and their layout as they stand -/
set_option maxRecDepth 100000 in
set_option maxHeartbeats 4000000 in
def pkW (X : zX) (n : Nat) (T : tsP) (p : Nat → Nat) : Prop := ∀ j, j < n → p j < Tcc T j ∧ X.2.1 23 j = nI (p j) ∧ X.2.1 22 j = nI (Tcv T j (p j))
set_option maxRecDepth 100000 in
set_option maxHeartbeats 4000000 in
theorem pkW_set {n i k v : Nat} {T : tsP} {p : Nat → Nat} (hT : tsK X n T) (hi : i < n) (h : ∀ j, j < k → j ≠ i → p j < Tcc T j ∧ X.2.1 23 j = nI (p j) ∧ X.2.1 22 j = nI (Tcv T j (p j))) (hv : v < Tcc T i) (l l2 : Int32) : ∀ j, j < k → va_up p i v j < Tcc T j ∧ (xrow (xrow X 23 (upd (X.2.1 23) i (nI v)) l) 22 (upd (X.2.1 22) i (X.2.1 11 (10 * i + v))) l2).2.1 23 j = nI (va_up p i v j) ∧ (xrow (xrow X 23 (upd (X.2.1 23) i (nI v)) l) 22 (upd (X.2.1 22) i (X.2.1 11 (10 * i + v))) l2).2.1 22 j = nI (Tcv T j (va_up p i v j)) := by
  intro j hj
  show (if j = i then v else p j) < Tcc T j ∧ (if j = i then nI v else X.2.1 23 j) = nI (if j = i then v else p j) ∧ (if j = i then X.2.1 11 (10 * i + v) else X.2.1 22 j) = nI (Tcv T j (if j = i then v else p j))
  rcases Decidable.em (j = i) with h1 | h1
  · subst h1
    rw [if_pos rfl, if_pos rfl, if_pos rfl]
    exact ⟨hv, rfl, ((hT.2.2.1 j hi).2.2.2.2.2.2.1 v hv).1⟩
  · rw [if_neg h1, if_neg h1, if_neg h1]
    exact h j hj h1
set_option maxRecDepth 100000 in
set_option maxHeartbeats 4000000 in
theorem ks_pick (X : zX) (f g : Nat → Int32) (l l2 : Int32) : ks X (xrow (xrow X 23 f l) 22 g l2) := ks_trans (ks_row X (by decide) f l) (ks_row _ (by decide) g l2)
set_option maxRecDepth 100000 in
set_option maxHeartbeats 4000000 in
theorem z_X6_pickNextLayout_4 {n : Nat} {T : tsP} (hT : tsK X n T) : ∀ (m i : Nat) (p : Nat → Nat) (X1 : zX) (e3 : Option Value), i + m = n → ks X X1 → pkW X1 n T p → Z G mX6_pickNextLayout (zrm 3 0 0) 0 0 4 [some (.ref 26), some (.int 1), some (.int (nI i)), e3] [] (zw X1 Y O) (fun r w2 => r = .inl none ∧ ∃ X2, w2 = zw X2 Y O ∧ ks X X2 ∧ pkW X2 n T (nx (Tcc T) i m p)) := by
  have h4 := hT.1
  intro m
  induction m with
  | zero =>
    intro i p X1 e3 hi hk hp
    refine z_iload_n (i := 2) dX6_pickNextLayout_4 rfl rfl (q := 5) rfl ?_
    refine z_aload_n (i := 0) dX6_pickNextLayout_5 rfl rfl (q := 6) rfl ?_
    refine z_get dX6_pickNextLayout_6 fX6_30 (wo_tidySearch _ _ _) rfl (q := 9) rfl ?_
    refine z_callVF (As := []) dX6_pickNextLayout_9 kX6_99 (c_X4_length (wr_21 _ _ _)) (wr_21 _ _ _).1 rfl rfl (zle rfl) ⟨zle rfl, zle rfl⟩ ⟨zle rfl, zle rfl⟩ (q := 12) rfl ?_
    rw [show X1.1 21 = nI n from (tsK_ks hk hT).2.1]
    refine z_icmp_ge (tgt := 68) dX6_pickNextLayout_12 (by decide) (q := 15) rfl (fun h12 => ?_) (fun h12 => absurd (zge_t (by omega)) h12)
    exact z_vret dX6_pickNextLayout_68 rfl ⟨zle rfl, zle rfl⟩ ⟨rfl, X1, rfl, hk, hp⟩
  | succ m ih =>
    intro i p X1 e3 hi hk hp
    have hT1 := tsK_ks hk hT
    have hpi := (hp i (by omega)).1
    have hcc := (hT.2.2.1 i (by omega)).2.1
    refine z_iload_n (i := 2) dX6_pickNextLayout_4 rfl rfl (q := 5) rfl ?_
    refine z_aload_n (i := 0) dX6_pickNextLayout_5 rfl rfl (q := 6) rfl ?_
    refine z_get dX6_pickNextLayout_6 fX6_30 (wo_tidySearch _ _ _) rfl (q := 9) rfl ?_
    refine z_callVF (As := []) dX6_pickNextLayout_9 kX6_99 (c_X4_length (wr_21 _ _ _)) (wr_21 _ _ _).1 rfl rfl (zle rfl) ⟨zle rfl, zle rfl⟩ ⟨zle rfl, zle rfl⟩ (q := 12) rfl ?_
    rw [show X1.1 21 = nI n from (tsK_ks hk hT).2.1]
    refine z_icmp_ge (tgt := 68) dX6_pickNextLayout_12 (by decide) (q := 15) rfl (fun h12 => absurd h12 (zge_f (by omega) (by omega))) (fun h12 => ?_)
    refine z_iload_n (i := 1) dX6_pickNextLayout_15 rfl rfl (q := 16) rfl ?_
    refine z_if_eq (tgt := 68) dX6_pickNextLayout_16 (by decide) (q := 19) rfl (fun h16 => absurd h16 (by decide)) (fun h16 => ?_)
    refine z_aload_n (i := 0) dX6_pickNextLayout_19 rfl rfl (q := 20) rfl ?_
    refine z_get dX6_pickNextLayout_20 fX6_37 (wo_tidySearch _ _ _) rfl (q := 23) rfl ?_
    refine z_iload_n (i := 2) dX6_pickNextLayout_23 rfl rfl (q := 24) rfl ?_
    refine z_callVF (As := [_]) dX6_pickNextLayout_24 kX6_77 (c_X4_get  (wr_23 _ _ _) (by omega) (by decide)) (wr_23 _ _ _).1 rfl rfl (zle rfl) ⟨zle rfl, zle rfl⟩ ⟨zle rfl, zle rfl⟩ (q := 27) rfl ?_
    rw [(hp i (by omega)).2.1]
    refine z_iconst (v := 1) dX6_pickNextLayout_27 rfl (q := 28) rfl ?_
    refine z_iadd dX6_pickNextLayout_28 (q := 29) rfl ?_
    rw [nI_1]
    refine z_istore_n (i := 3) dX6_pickNextLayout_29 rfl (zle rfl) rfl (q := 30) rfl ?_
    refine z_iload_n (i := 3) dX6_pickNextLayout_30 rfl rfl (q := 31) rfl ?_
    refine z_aload_n (i := 0) dX6_pickNextLayout_31 rfl rfl (q := 32) rfl ?_
    refine z_get dX6_pickNextLayout_32 fX6_12 (wo_tidySearch _ _ _) rfl (q := 35) rfl ?_
    refine z_iload_n (i := 2) dX6_pickNextLayout_35 rfl rfl (q := 36) rfl ?_
    refine z_callVF (As := [_]) dX6_pickNextLayout_36 kX6_102 (c_X1_count (by omega)) (wo_choices _ _ _) rfl rfl (zle rfl) ⟨zle rfl, zle rfl⟩ ⟨zle rfl, zle rfl⟩ (q := 39) rfl ?_
    rw [show X1.2.1 12 i = nI (Tcc T i) from (hT1.2.2.1 i (by omega)).1]
    refine z_icmp_lt (tgt := 46) dX6_pickNextLayout_39 (by decide) (q := 42) rfl (fun h39 => ?_) (fun h39 => ?_)
    · refine z_iconst (v := 0) dX6_pickNextLayout_46 rfl (q := 47) rfl ?_
      refine z_istore_n (i := 1) dX6_pickNextLayout_47 rfl (zle rfl) rfl (q := 48) rfl ?_
      have hlt9 : p i + 1 < Tcc T i := (nI_ltI (by omega) (by omega)).mp h39
      refine z_aload_n (i := 0) dX6_pickNextLayout_48 rfl rfl (q := 49) rfl ?_
      refine z_iload_n (i := 2) dX6_pickNextLayout_49 rfl rfl (q := 50) rfl ?_
      refine z_iload_n (i := 1) dX6_pickNextLayout_50 rfl rfl (q := 51) rfl ?_
      refine z_if_eq (tgt := 58) dX6_pickNextLayout_51 (by decide) (q := 54) rfl (fun h51 => ?_) (fun h51 => absurd rfl h51)
      refine z_iload_n (i := 3) dX6_pickNextLayout_58 rfl rfl (q := 59) rfl ?_
      refine z_callVF (As := [_, _]) dX6_pickNextLayout_59 kX6_125 (c_X6_pick (k := i) (j := p i + 1) (by omega) (by omega)) (wo_tidySearch _ _ _) rfl rfl (zle rfl) ⟨zle rfl, zle rfl⟩ ⟨zle rfl, zle rfl⟩ (q := 62) rfl ?_
      refine z_iinc dX6_pickNextLayout_62 rfl rfl (zle rfl) rfl (q := 65) rfl ?_
      refine z_goto (tgt := 4) dX6_pickNextLayout_65 (by decide) ?_
      refine Z.eql (zl2 := [some (.ref 26), some (.int 0), some (.int (nI (i + 1))), some (.int (nI (p i + 1)))]) (by first | (rw [← nI_1 i]; done) | (rw [← nI_1 i]; rfl)) ?_
      have hlt : p i + 1 < Tcc T i := (nI_ltI (by omega) (by omega)).mp h39
      have hp2 : pkW _ n T (va_up p i (p i + 1)) := pkW_set (k := n) hT1 (by omega) (fun j hj _ => hp j hj) hlt (X1.1 23) (X1.1 22)
      refine z_iload_n (i := 2) dX6_pickNextLayout_4 rfl rfl (q := 5) rfl ?_
      refine z_aload_n (i := 0) dX6_pickNextLayout_5 rfl rfl (q := 6) rfl ?_
      refine z_get dX6_pickNextLayout_6 fX6_30 (wo_tidySearch _ _ _) rfl (q := 9) rfl ?_
      refine z_callVF (As := []) dX6_pickNextLayout_9 kX6_99 (c_X4_length (wr_21 _ _ _)) (wr_21 _ _ _).1 rfl rfl (zle rfl) ⟨zle rfl, zle rfl⟩ ⟨zle rfl, zle rfl⟩ (q := 12) rfl ?_
      refine z_icmp_ge (tgt := 68) dX6_pickNextLayout_12 (by decide) (q := 15) rfl (fun h12 => ?_) (fun h12 => ?_)
      · exact z_vret dX6_pickNextLayout_68 rfl ⟨zle rfl, zle rfl⟩ ⟨rfl, _, rfl, ks_trans hk (ks_pick _ _ _ _ _), by rw [show nx (Tcc T) i (m + 1) p = va_up p i (p i + 1) from if_pos hlt]; exact hp2⟩
      · refine z_iload_n (i := 1) dX6_pickNextLayout_15 rfl rfl (q := 16) rfl ?_
        refine z_if_eq (tgt := 68) dX6_pickNextLayout_16 (by decide) (q := 19) rfl (fun h16 => ?_) (fun h16 => absurd rfl h16)
        exact z_vret dX6_pickNextLayout_68 rfl ⟨zle rfl, zle rfl⟩ ⟨rfl, _, rfl, ks_trans hk (ks_pick _ _ _ _ _), by rw [show nx (Tcc T) i (m + 1) p = va_up p i (p i + 1) from if_pos hlt]; exact hp2⟩
    · refine z_iconst (v := 1) dX6_pickNextLayout_42 rfl (q := 43) rfl ?_
      refine z_goto (tgt := 47) dX6_pickNextLayout_43 (by decide) ?_
      refine z_istore_n (i := 1) dX6_pickNextLayout_47 rfl (zle rfl) rfl (q := 48) rfl ?_
      refine z_aload_n (i := 0) dX6_pickNextLayout_48 rfl rfl (q := 49) rfl ?_
      refine z_iload_n (i := 2) dX6_pickNextLayout_49 rfl rfl (q := 50) rfl ?_
      refine z_iload_n (i := 1) dX6_pickNextLayout_50 rfl rfl (q := 51) rfl ?_
      refine z_if_eq (tgt := 58) dX6_pickNextLayout_51 (by decide) (q := 54) rfl (fun h51 => absurd h51 (by decide)) (fun h51 => ?_)
      refine z_iconst (v := 0) dX6_pickNextLayout_54 rfl (q := 55) rfl ?_
      refine z_goto (tgt := 59) dX6_pickNextLayout_55 (by decide) ?_
      refine z_callVF (As := [_, _]) dX6_pickNextLayout_59 kX6_125 (c_X6_pick (k := i) (j := 0) (by omega) (by omega)) (wo_tidySearch _ _ _) rfl rfl (zle rfl) ⟨zle rfl, zle rfl⟩ ⟨zle rfl, zle rfl⟩ (q := 62) rfl ?_
      refine z_iinc dX6_pickNextLayout_62 rfl rfl (zle rfl) rfl (q := 65) rfl ?_
      refine z_goto (tgt := 4) dX6_pickNextLayout_65 (by decide) ?_
      refine Z.eql (zl2 := [some (.ref 26), some (.int 1), some (.int (nI (i + 1))), some (.int (nI (p i + 1)))]) (by first | (rw [← nI_1 i]; done) | (rw [← nI_1 i]; rfl)) ?_
      have hge : ¬ p i + 1 < Tcc T i := fun h9 => h39 ((nI_ltI (by omega) (by omega)).mpr h9)
      have hp2 : pkW _ n T (va_up p i 0) := pkW_set (k := n) hT1 (by omega) (fun j hj _ => hp j hj) (show 0 < Tcc T i by have := (hp i (by omega)).1; omega) (X1.1 23) (X1.1 22)
      rw [show nx (Tcc T) i (m + 1) p = nx (Tcc T) (i + 1) m (va_up p i 0) from if_neg hge]
      exact ih (i + 1) _ _ _ (by omega) (ks_trans hk (ks_pick _ _ _ _ _)) hp2
set_option maxRecDepth 100000 in
set_option maxHeartbeats 4000000 in
theorem c_X6_pickNextLayout {n : Nat} {T : tsP} {p : Nat → Nat} (hT : tsK X n T) (hp : pkW X n T p) : ZM G mX6_pickNextLayout 3 0 0 [.ref 26] (zw X Y O) (fun r w2 => r = .inl none ∧ ∃ X2, w2 = zw X2 Y O ∧ ks X X2 ∧ pkW X2 n T (nx (Tcc T) 0 n p)) := by
  refine ZM.go pX6 rfl rfl (zle rfl) (zl := [some (.ref 26), none, none, none]) rfl ?_
  refine z_iconst (v := 1) dX6_pickNextLayout_0 rfl (q := 1) rfl ?_
  refine z_istore_n (i := 1) dX6_pickNextLayout_1 rfl (zle rfl) rfl (q := 2) rfl ?_
  refine z_iconst (v := 0) dX6_pickNextLayout_2 rfl (q := 3) rfl ?_
  refine z_istore_n (i := 2) dX6_pickNextLayout_3 rfl (zle rfl) rfl (q := 4) rfl ?_
  exact z_X6_pickNextLayout_4 hT n 0 p X none (by omega) (ks_refl X) hp
end
