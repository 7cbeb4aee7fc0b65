section
variable {G : zG} {w : zWorld} {c N : Nat} {f : Nat → Int32} {len : Int32}
set_option maxRecDepth 100000 in
set_option maxHeartbeats 4000000 in
theorem c_X4_length (h : isRow w c N f len) : ZM G mX4_length 0 0 0 [.ref c] w (zEq (some (.int len)) w) := by
  refine ZM.go pX4 rfl rfl (zle rfl) (zl := [some (.ref c)]) rfl ?_
  refine z_aload_n (i := 0) dX4_length_0 rfl rfl (q := 1) rfl ?_
  refine z_get dX4_length_1 fX4_13 h.1 rfl (q := 4) rfl ?_
  exact z_iret dX4_length_4 rfl ⟨zle rfl, zle rfl⟩ ⟨rfl, rfl⟩
set_option maxRecDepth 100000 in
set_option maxHeartbeats 4000000 in
theorem c_X4_get {k : Nat} (h : isRow w c N f len) (hk : k < N) (hN : N < 2 ^ 31) : ZM G mX4_get 0 0 0 [.ref c, .int (nI k)] w (zEq (some (.int (f k))) w) := by
  refine ZM.go pX4 rfl rfl (zle rfl) (zl := [some (.ref c), some (.int (nI k))]) rfl ?_
  refine z_iload_n (i := 1) dX4_get_0 rfl rfl (q := 1) rfl ?_
  refine z_if_lt (tgt := 13) dX4_get_1 (by decide) (q := 4) rfl (fun h1 => absurd h1 (nI_pos (by omega))) (fun h1 => ?_)
  refine z_iload_n (i := 1) dX4_get_4 rfl rfl (q := 5) rfl ?_
  refine z_aload_n (i := 0) dX4_get_5 rfl rfl (q := 6) rfl ?_
  refine z_get dX4_get_6 fX4_7 h.1 rfl (q := 9) rfl ?_
  refine z_alen (L := 0) dX4_get_9 h.2 (zle rfl) rfl (q := 10) rfl ?_
  refine z_icmp_lt (tgt := 15) dX4_get_10 (by decide) (q := 13) rfl (fun h10 => ?_) (fun h10 => absurd h10 (fun h9 => h9 (nI_lt hk hN)))
  refine z_aload_n (i := 0) dX4_get_15 rfl rfl (q := 16) rfl ?_
  refine z_get dX4_get_16 fX4_7 h.1 rfl (q := 19) rfl ?_
  refine z_iload_n (i := 1) dX4_get_19 rfl rfl (q := 20) rfl ?_
  refine z_iald dX4_get_20 h.2 (zin hk hN) (q := 21) rfl ?_
  exact z_iret dX4_get_21 rfl ⟨zle rfl, zle rfl⟩ ⟨by rw [nI_clamp (by omega)], rfl⟩
set_option maxRecDepth 100000 in
set_option maxHeartbeats 4000000 in
theorem c_X4_set {k : Nat} {x : Int32} (h : isRow w c N f len) (hk : k < N) (hN : N < 2 ^ 31) : ZM G mX4_set 0 0 0 [.ref c, .int (nI k), .int x] w (zEq none (zput w c N (upd f k x) len)) := by
  refine ZM.go pX4 rfl rfl (zle rfl) (zl := [some (.ref c), some (.int (nI k)), some (.int x)]) rfl ?_
  refine z_iload_n (i := 1) dX4_set_0 rfl rfl (q := 1) rfl ?_
  refine z_if_lt (tgt := 20) dX4_set_1 (by decide) (q := 4) rfl (fun h1 => absurd h1 (nI_pos (by omega))) (fun h1 => ?_)
  refine z_iload_n (i := 1) dX4_set_4 rfl rfl (q := 5) rfl ?_
  refine z_aload_n (i := 0) dX4_set_5 rfl rfl (q := 6) rfl ?_
  refine z_get dX4_set_6 fX4_7 h.1 rfl (q := 9) rfl ?_
  refine z_alen (L := 0) dX4_set_9 h.2 (zle rfl) rfl (q := 10) rfl ?_
  refine z_icmp_ge (tgt := 20) dX4_set_10 (by decide) (q := 13) rfl (fun h10 => absurd h10 (nI_ge hk hN)) (fun h10 => ?_)
  refine z_aload_n (i := 0) dX4_set_13 rfl rfl (q := 14) rfl ?_
  refine z_get dX4_set_14 fX4_7 h.1 rfl (q := 17) rfl ?_
  refine z_iload_n (i := 1) dX4_set_17 rfl rfl (q := 18) rfl ?_
  refine z_iload_n (i := 2) dX4_set_18 rfl rfl (q := 19) rfl ?_
  refine z_iast dX4_set_19 h.2 (zin hk hN) (q := 20) rfl ?_
  exact z_vret dX4_set_20 rfl ⟨zle rfl, zle rfl⟩ ⟨rfl, by rw [nI_clamp (by omega)]; exact h.putA⟩
set_option maxRecDepth 100000 in
set_option maxHeartbeats 4000000 in
theorem c_X4_clear (h : isRow w c N f len) : ZM G mX4_clear 0 0 0 [.ref c] w (zEq none (zput w c N f 0)) := by
  refine ZM.go pX4 rfl rfl (zle rfl) (zl := [some (.ref c)]) rfl ?_
  refine z_aload_n (i := 0) dX4_clear_0 rfl rfl (q := 1) rfl ?_
  refine z_iconst (v := 0) dX4_clear_1 rfl (q := 2) rfl ?_
  refine z_put dX4_clear_2 fX4_13 h.1 (zle rfl) (zfit_int _) (q := 5) rfl ?_
  exact z_vret dX4_clear_5 rfl ⟨zle rfl, zle rfl⟩ ⟨rfl, h.putL⟩
set_option maxRecDepth 100000 in
set_option maxHeartbeats 4000000 in
theorem c_X4_append {k : Nat} {x : Int32} (h : isRow w c N f (nI k)) (hk : k < N) (hN : N < 2 ^ 31) : ZM G mX4_append 0 0 0 [.ref c, .int x] w (zEq none (zput w c N (upd f k x) (nI (k + 1)))) := by
  refine ZM.go pX4 rfl rfl (zle rfl) (zl := [some (.ref c), some (.int x)]) rfl ?_
  refine z_aload_n (i := 0) dX4_append_0 rfl rfl (q := 1) rfl ?_
  refine z_get dX4_append_1 fX4_13 h.1 rfl (q := 4) rfl ?_
  refine z_if_lt (tgt := 39) dX4_append_4 (by decide) (q := 7) rfl (fun h4 => absurd h4 (nI_pos (by omega))) (fun h4 => ?_)
  refine z_aload_n (i := 0) dX4_append_7 rfl rfl (q := 8) rfl ?_
  refine z_get dX4_append_8 fX4_13 h.1 rfl (q := 11) rfl ?_
  refine z_aload_n (i := 0) dX4_append_11 rfl rfl (q := 12) rfl ?_
  refine z_get dX4_append_12 fX4_7 h.1 rfl (q := 15) rfl ?_
  refine z_alen (L := 0) dX4_append_15 h.2 (zle rfl) rfl (q := 16) rfl ?_
  refine z_icmp_ge (tgt := 39) dX4_append_16 (by decide) (q := 19) rfl (fun h16 => absurd h16 (nI_ge hk hN)) (fun h16 => ?_)
  refine z_aload_n (i := 0) dX4_append_19 rfl rfl (q := 20) rfl ?_
  refine z_get dX4_append_20 fX4_7 h.1 rfl (q := 23) rfl ?_
  refine z_aload_n (i := 0) dX4_append_23 rfl rfl (q := 24) rfl ?_
  refine z_get dX4_append_24 fX4_13 h.1 rfl (q := 27) rfl ?_
  refine z_iload_n (i := 1) dX4_append_27 rfl rfl (q := 28) rfl ?_
  refine z_iast dX4_append_28 h.2 (zin hk hN) (q := 29) rfl ?_
  rw [nI_clamp (by omega), h.putA]
  have h2 : isRow (zput w c N (upd f k x) (nI k)) c N (upd f k x) (nI k) := h.put
  refine z_aload_n (i := 0) dX4_append_29 rfl rfl (q := 30) rfl ?_
  refine z_dup dX4_append_30 rfl (q := 31) rfl ?_
  refine z_get dX4_append_31 fX4_13 h2.1 rfl (q := 34) rfl ?_
  refine z_iconst (v := 1) dX4_append_34 rfl (q := 35) rfl ?_
  refine z_iadd dX4_append_35 (q := 36) rfl ?_
  refine z_put dX4_append_36 fX4_13 h2.1 (zle rfl) (zfit_int _) (q := 39) rfl ?_
  exact z_vret dX4_append_39 rfl ⟨zle rfl, zle rfl⟩ ⟨rfl, by rw [nI_1]; exact h2.putL.trans (zput2 ..)⟩
/-- what inserting v into the places 0 .. p - 1 leaves -/
def rins (f : Nat → Int32) (v : Int32) : Nat → Nat → Int32
  | 0 => upd f 0 v
  | p + 1 => if v < f p then rins (upd f (p + 1) (f p)) v p else upd f (p + 1) v
set_option maxRecDepth 100000 in
set_option maxHeartbeats 4000000 in
theorem z_X4_insert_61 {k p : Nat} {v : Int32} (h : isRow w c N f (nI k)) (hk : k < N) (hp : p ≤ k) (hN : N < 2 ^ 31) : Z G mX4_insert (zrm 0 0 0) 0 0 61 [some (.ref c), some (.int v), some (.int (nI p))] [] w (zEq none (zput w c N (upd f p v) (nI (k + 1)))) := by
  refine z_aload_n (i := 0) dX4_insert_61 rfl rfl (q := 62) rfl ?_
  refine z_get dX4_insert_62 fX4_7 h.1 rfl (q := 65) rfl ?_
  refine z_iload_n (i := 2) dX4_insert_65 rfl rfl (q := 66) rfl ?_
  refine z_iload_n (i := 1) dX4_insert_66 rfl rfl (q := 67) rfl ?_
  refine z_iast dX4_insert_67 h.2 (zin (by omega) hN) (q := 68) rfl ?_
  rw [nI_clamp (by omega), h.putA]
  have h2 : isRow (zput w c N (upd f p v) (nI k)) c N (upd f p v) (nI k) := h.put
  refine z_aload_n (i := 0) dX4_insert_68 rfl rfl (q := 69) rfl ?_
  refine z_dup dX4_insert_69 rfl (q := 70) rfl ?_
  refine z_get dX4_insert_70 fX4_13 h2.1 rfl (q := 73) rfl ?_
  refine z_iconst (v := 1) dX4_insert_73 rfl (q := 74) rfl ?_
  refine z_iadd dX4_insert_74 (q := 75) rfl ?_
  refine z_put dX4_insert_75 fX4_13 h2.1 (zle rfl) (zfit_int _) (q := 78) rfl ?_
  exact z_vret dX4_insert_78 rfl ⟨zle rfl, zle rfl⟩ ⟨rfl, by rw [nI_1]; exact h2.putL.trans (zput2 ..)⟩
set_option maxRecDepth 100000 in
set_option maxHeartbeats 4000000 in
theorem z_X4_insert_25 {k p : Nat} {v : Int32} (h : isRow w c N f (nI k)) (hk : k < N) (hp : p ≤ k) (hN : N < 2 ^ 31) : Z G mX4_insert (zrm 0 0 0) 0 0 25 [some (.ref c), some (.int v), some (.int (nI p))] [] w (zEq none (zput w c N (rins f v p) (nI (k + 1)))) := by
  induction p generalizing w f with
  | zero =>
    refine z_iload_n (i := 2) dX4_insert_25 rfl rfl (q := 26) rfl ?_
    refine z_if_le (tgt := 61) dX4_insert_26 (by decide) (q := 29) rfl (fun h26 => ?_) (fun h26 => absurd h26 (by decide))
    exact z_X4_insert_61 h hk hp hN
  | succ p ih =>
    refine z_iload_n (i := 2) dX4_insert_25 rfl rfl (q := 26) rfl ?_
    refine z_if_le (tgt := 61) dX4_insert_26 (by decide) (q := 29) rfl (fun h26 => absurd h26 (nI_nle (by omega) (by omega))) (fun h26 => ?_)
    refine z_aload_n (i := 0) dX4_insert_29 rfl rfl (q := 30) rfl ?_
    refine z_get dX4_insert_30 fX4_7 h.1 rfl (q := 33) rfl ?_
    refine z_iload_n (i := 2) dX4_insert_33 rfl rfl (q := 34) rfl ?_
    refine z_iconst (v := 1) dX4_insert_34 rfl (q := 35) rfl ?_
    refine z_isub dX4_insert_35 (q := 36) rfl ?_
    rw [nI_pred]
    refine z_iald dX4_insert_36 h.2 (zin (k := p) (by omega) hN) (q := 37) rfl ?_
    refine z_iload_n (i := 1) dX4_insert_37 rfl rfl (q := 38) rfl ?_
    rw [nI_clamp (by omega)]
    refine z_icmp_le (tgt := 61) dX4_insert_38 (by decide) (q := 41) rfl (fun h38 => ?_) (fun h38 => ?_)
    · rw [show rins f v (p + 1) = upd f (p + 1) v from if_neg (fun h9 => absurd h38 (by first | exact Int32.not_le.mpr h9 | exact fun h8 => absurd h9 (Int32.not_lt.mpr h8)))]
      exact z_X4_insert_61 h hk hp hN
    · refine z_aload_n (i := 0) dX4_insert_41 rfl rfl (q := 42) rfl ?_
      refine z_get dX4_insert_42 fX4_7 h.1 rfl (q := 45) rfl ?_
      refine z_iload_n (i := 2) dX4_insert_45 rfl rfl (q := 46) rfl ?_
      refine z_aload_n (i := 0) dX4_insert_46 rfl rfl (q := 47) rfl ?_
      refine z_get dX4_insert_47 fX4_7 h.1 rfl (q := 50) rfl ?_
      refine z_iload_n (i := 2) dX4_insert_50 rfl rfl (q := 51) rfl ?_
      refine z_iconst (v := 1) dX4_insert_51 rfl (q := 52) rfl ?_
      refine z_isub dX4_insert_52 (q := 53) rfl ?_
      rw [nI_pred]
      refine z_iald dX4_insert_53 h.2 (zin (k := p) (by omega) hN) (q := 54) rfl ?_
      rw [nI_clamp (by omega)]
      refine z_iast dX4_insert_54 h.2 (zin (by omega) hN) (q := 55) rfl ?_
      rw [nI_clamp (by omega), h.putA]
      refine z_iinc dX4_insert_55 rfl rfl (zle rfl) rfl (q := 58) rfl ?_
      refine z_goto (tgt := 25) dX4_insert_58 (by decide) ?_
      refine Z.eql (zl2 := [some (.ref c), some (.int v), some (.int (nI p))]) (by show [_, _, some (Value.int (nI (p + 1) + (-1)))] = _; rw [pk_m1]) ?_
      rw [show rins f v (p + 1) = rins (upd f (p + 1) (f p)) v p from if_pos (Int32.not_le.mp h38)]
      refine (ih (h.put (g := upd f (p + 1) (f p))) (by omega)).mono (fun r w2 hh => ⟨hh.1, hh.2.trans (zput2 ..)⟩)
set_option maxRecDepth 100000 in
set_option maxHeartbeats 4000000 in
theorem c_X4_insert {k : Nat} {v : Int32} (h : isRow w c N f (nI k)) (hk : k < N) (hN : N < 2 ^ 31) : ZM G mX4_insert 0 0 0 [.ref c, .int v] w (zEq none (zput w c N (rins f v k) (nI (k + 1)))) := by
  refine ZM.go pX4 rfl rfl (zle rfl) (zl := [some (.ref c), some (.int v), none]) rfl ?_
  refine z_aload_n (i := 0) dX4_insert_0 rfl rfl (q := 1) rfl ?_
  refine z_get dX4_insert_1 fX4_13 h.1 rfl (q := 4) rfl ?_
  refine z_if_lt (tgt := 19) dX4_insert_4 (by decide) (q := 7) rfl (fun h4 => absurd h4 (nI_pos (by omega))) (fun h4 => ?_)
  refine z_aload_n (i := 0) dX4_insert_7 rfl rfl (q := 8) rfl ?_
  refine z_get dX4_insert_8 fX4_13 h.1 rfl (q := 11) rfl ?_
  refine z_aload_n (i := 0) dX4_insert_11 rfl rfl (q := 12) rfl ?_
  refine z_get dX4_insert_12 fX4_7 h.1 rfl (q := 15) rfl ?_
  refine z_alen (L := 0) dX4_insert_15 h.2 (zle rfl) rfl (q := 16) rfl ?_
  refine z_icmp_lt (tgt := 20) dX4_insert_16 (by decide) (q := 19) rfl (fun h16 => ?_) (fun h16 => absurd h16 (fun h9 => h9 (nI_lt hk hN)))
  refine z_aload_n (i := 0) dX4_insert_20 rfl rfl (q := 21) rfl ?_
  refine z_get dX4_insert_21 fX4_13 h.1 rfl (q := 24) rfl ?_
  refine z_istore_n (i := 2) dX4_insert_24 rfl (zle rfl) rfl (q := 25) rfl ?_
  exact z_X4_insert_25 h hk (Nat.le_refl _) hN
theorem c_X4_append' {k : Nat} {x : Int32} (h : isRow w c N f len) (hl : len = nI k) (hk : k < N) (hN : N < 2 ^ 31) : ZM G mX4_append 0 0 0 [.ref c, .int x] w (zEq none (zput w c N (upd f k x) (nI (k + 1)))) := by
  subst hl; exact c_X4_append h hk hN
theorem c_X4_insert' {k : Nat} {v : Int32} (h : isRow w c N f len) (hl : len = nI k) (hk : k < N) (hN : N < 2 ^ 31) : ZM G mX4_insert 0 0 0 [.ref c, .int v] w (zEq none (zput w c N (rins f v k) (nI (k + 1)))) := by
  subst hl; exact c_X4_insert h hk hN
/-- whether p holds somewhere from i on, m places -/
def rany (p : Nat → Prop) [DecidablePred p] : Nat → Nat → Bool
  | _, 0 => false
  | i, m + 1 => if p i then true else rany p (i + 1) m
theorem rany_iff {p : Nat → Prop} [DecidablePred p] : ∀ (m i : Nat), rany p i m = true ↔ ∃ j, i ≤ j ∧ j < i + m ∧ p j
  | 0, i => by simp [rany]; omega
  | m + 1, i => by
    unfold rany
    by_cases h : p i
    · rw [if_pos h]; exact ⟨fun _ => ⟨i, Nat.le_refl _, by omega, h⟩, fun _ => rfl⟩
    · rw [if_neg h, rany_iff m (i + 1)]
      constructor
      · rintro ⟨j, h1, h2, h3⟩; exact ⟨j, by omega, by omega, h3⟩
      · rintro ⟨j, h1, h2, h3⟩
        refine ⟨j, ?_, by omega, h3⟩
        rcases Nat.lt_or_ge i j with h4 | h4
        · omega
        · exact absurd (show p i by rw [show i = j by omega]; exact h3) h
/-- a Bool as Java has it -/
def zB (b : Bool) : Int32 := if b = true then 1 else 0
theorem zB_n (b : Bool) : narrow .boolean (.int (zB b)) = .int (zB b) := by cases b <;> rfl
set_option maxRecDepth 100000 in
set_option maxHeartbeats 4000000 in
theorem z_X4_contains_2 {k : Nat} {v : Int32} (h : isRow w c N f (nI k)) (hk : k ≤ N) (hN : N < 2 ^ 31) : ∀ (m i : Nat), i + m = k → Z G mX4_contains (zrm 0 0 0) 0 0 2 [some (.ref c), some (.int v), some (.int (nI i))] [] w (zEq (some (.int (zB (rany (fun j => f j = v) i m)))) w) := by
  intro m
  induction m with
  | zero =>
    intro i hi
    refine z_iload_n (i := 2) dX4_contains_2 rfl rfl (q := 3) rfl ?_
    refine z_aload_n (i := 0) dX4_contains_3 rfl rfl (q := 4) rfl ?_
    refine z_get dX4_contains_4 fX4_13 h.1 rfl (q := 7) rfl ?_
    refine z_icmp_ge (tgt := 37) dX4_contains_7 (by decide) (q := 10) rfl (fun h7 => ?_) (fun h7 => absurd (by rw [show i = k by omega]; exact Int32.le_refl _) h7)
    refine z_iconst (v := 0) dX4_contains_37 rfl (q := 38) rfl ?_
    exact z_zret dX4_contains_38 rfl rfl ⟨zle rfl, zle rfl⟩ ⟨rfl, rfl⟩
  | succ m ih =>
    intro i hi
    refine z_iload_n (i := 2) dX4_contains_2 rfl rfl (q := 3) rfl ?_
    refine z_aload_n (i := 0) dX4_contains_3 rfl rfl (q := 4) rfl ?_
    refine z_get dX4_contains_4 fX4_13 h.1 rfl (q := 7) rfl ?_
    refine z_icmp_ge (tgt := 37) dX4_contains_7 (by decide) (q := 10) rfl (fun h7 => absurd (nI_lt (show i < k by omega) (by omega)) (Int32.not_lt.mpr h7)) (fun h7 => ?_)
    refine z_iload_n (i := 2) dX4_contains_10 rfl rfl (q := 11) rfl ?_
    refine z_aload_n (i := 0) dX4_contains_11 rfl rfl (q := 12) rfl ?_
    refine z_get dX4_contains_12 fX4_7 h.1 rfl (q := 15) rfl ?_
    refine z_alen (L := 0) dX4_contains_15 h.2 (zle rfl) rfl (q := 16) rfl ?_
    refine z_icmp_ge (tgt := 37) dX4_contains_16 (by decide) (q := 19) rfl (fun h16 => absurd (nI_lt (show i < N by omega) hN) (Int32.not_lt.mpr h16)) (fun h16 => ?_)
    refine z_aload_n (i := 0) dX4_contains_19 rfl rfl (q := 20) rfl ?_
    refine z_get dX4_contains_20 fX4_7 h.1 rfl (q := 23) rfl ?_
    refine z_iload_n (i := 2) dX4_contains_23 rfl rfl (q := 24) rfl ?_
    refine z_iald dX4_contains_24 h.2 (zin (by omega) hN) (q := 25) rfl ?_
    rw [nI_clamp (by omega)]
    refine z_iload_n (i := 1) dX4_contains_25 rfl rfl (q := 26) rfl ?_
    refine z_icmp_ne (tgt := 31) dX4_contains_26 (by decide) (q := 29) rfl (fun h26 => ?_) (fun h26 => ?_)
    · refine z_iinc dX4_contains_31 rfl rfl (zle rfl) rfl (q := 34) rfl ?_
      refine z_goto (tgt := 2) dX4_contains_34 (by decide) ?_
      refine Z.eql (zl2 := [some (.ref c), some (.int v), some (.int (nI (i + 1)))]) (by show [_, _, some (Value.int (nI i + 1))] = _; rw [nI_1]) ?_
      rw [rany, if_neg h26]
      exact ih (i + 1) (by omega)
    · rw [rany, if_pos h26]
      refine z_iconst (v := 1) dX4_contains_29 rfl (q := 30) rfl ?_
      exact z_zret dX4_contains_30 rfl rfl ⟨zle rfl, zle rfl⟩ ⟨rfl, rfl⟩
set_option maxRecDepth 100000 in
set_option maxHeartbeats 4000000 in
theorem c_X4_contains {k : Nat} {v : Int32} (h : isRow w c N f len) (hl : len = nI k) (hk : k ≤ N) (hN : N < 2 ^ 31) : ZM G mX4_contains 0 0 0 [.ref c, .int v] w (zEq (some (.int (zB (rany (fun j => f j = v) 0 k)))) w) := by
  subst hl
  refine ZM.go pX4 rfl rfl (zle rfl) (zl := [some (.ref c), some (.int v), none]) rfl ?_
  refine z_iconst (v := 0) dX4_contains_0 rfl (q := 1) rfl ?_
  refine z_istore_n (i := 2) dX4_contains_1 rfl (zle rfl) rfl (q := 2) rfl ?_
  exact z_X4_contains_2 h hk hN k 0 (by omega)
end
