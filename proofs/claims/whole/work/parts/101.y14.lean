section
variable {G : zG} {X X1 : zX} {Y : zY} {O : zO}
/- the sets of the reference as numbers -/
set_option maxRecDepth 100000 in
set_option maxHeartbeats 4000000 in
def mJ (b k : Nat) : Nat → Nat → Nat → Nat
  | _, 0, x => x
  | j, m + 1, x => mJ b k (j + 1) m (if x.testBit j = true ∧ k ≠ j ∧ tbl b k j = true then x ||| 2 ^ k else x)
set_option maxRecDepth 100000 in
set_option maxHeartbeats 4000000 in
def mK (b n : Nat) : Nat → Nat → Nat → Nat
  | _, 0, x => x
  | k, m + 1, x => mK b n (k + 1) m (mJ b k 0 n x)
set_option maxRecDepth 100000 in
set_option maxHeartbeats 4000000 in
def mRo (b n : Nat) : Nat → Nat → Nat
  | 0, x => x
  | m + 1, x => mRo b n m (mK b n 0 n x)
set_option maxRecDepth 100000 in
set_option maxHeartbeats 4000000 in
def lowB (x : Nat) : Nat := if x.testBit 0 then 0 else if x.testBit 1 then 1 else if x.testBit 2 then 2 else 3
set_option maxRecDepth 100000 in
set_option maxHeartbeats 4000000 in
def mlow (b n k : Nat) : Nat := lowB (mRo b n 4 (2 ^ k))
set_option maxRecDepth 100000 in
set_option maxHeartbeats 4000000 in
theorem bit_shr : ∀ x, x < 16 → ∀ j, j < 4 → ((nI x >>> (nI j &&& 31)) &&& 1) = (if x.testBit j then 1 else 0) := by decide +kernel
set_option maxRecDepth 100000 in
set_option maxHeartbeats 4000000 in
theorem bit_shl : ∀ k, k < 4 → (1 : Int32) <<< (nI k &&& 31) = nI (2 ^ k) := by decide +kernel
set_option maxRecDepth 100000 in
set_option maxHeartbeats 4000000 in
theorem bit_or : ∀ x, x < 16 → ∀ k, k < 4 → nI x ||| (1 : Int32) <<< (nI k &&& 31) = nI (x ||| 2 ^ k) ∧ x ||| 2 ^ k < 16 := by decide +kernel
set_option maxRecDepth 100000 in
set_option maxHeartbeats 4000000 in
theorem bit_or0 : ∀ x, x < 16 → nI x ||| 0 = nI x := by decide +kernel
set_option maxRecDepth 100000 in
set_option maxHeartbeats 4000000 in
theorem mJ_lt {b k : Nat} (hk : k < 4) : ∀ (m j x : Nat), x < 16 → mJ b k j m x < 16
  | 0, _, _, h => h
  | m + 1, j, x, h => by
    unfold mJ
    refine mJ_lt hk m (j + 1) _ ?_
    split
    · exact (bit_or x h k hk).2
    · exact h
set_option maxRecDepth 100000 in
set_option maxHeartbeats 4000000 in
theorem mK_lt {b n : Nat} : ∀ (m k x : Nat), k + m ≤ 4 → x < 16 → mK b n k m x < 16
  | 0, _, _, _, h => h
  | m + 1, k, x, hk, h => by
    unfold mK
    exact mK_lt m (k + 1) _ (by omega) (mJ_lt (by omega) n 0 x h)
set_option maxRecDepth 100000 in
set_option maxHeartbeats 4000000 in
theorem low_ok : ∀ n, n < 5 → ∀ b, b < 64 → ∀ k, k < n → mRo b n 4 (2 ^ k) < 16 ∧ (mRo b n 4 (2 ^ k)).testBit (mlow b n k) = true ∧ mlow b n k < 4 ∧ (∀ j, j < mlow b n k → (mRo b n 4 (2 ^ k)).testBit j = false) ∧ (gGo b n 0 n (fun _ => -1) 0).1 k = nI (mlow b n k) := by decide +kernel
set_option maxRecDepth 100000 in
set_option maxHeartbeats 4000000 in
theorem low_cnt : ∀ n, n < 5 → ∀ b, b < 64 → nsum (fun k => mlow b n k = k) (fun _ => 1) 0 n = (gGo b n 0 n (fun _ => -1) 0).2 := by decide +kernel
set_option maxRecDepth 100000 in
set_option maxHeartbeats 4000000 in
theorem gGo_congr1 {n b : Nat} : ∀ (m i : Nat) (f f2 : Nat → Int32) (c : Nat), i + m ≤ n → eqn n f f2 → eqn n (gGo b n i m f c).1 (gGo b n i m f2 c).1
  | 0, _, _, _, _, _, h => h
  | m + 1, i, f, f2, c, hi, h => by
    unfold gGo
    rw [← h i (by omega)]
    split
    · exact gGo_congr1 m (i + 1) _ _ (c + 1) (by omega) (gOut_congr 4 0 (upd f i (nI i), fun _ => i, 1) (upd f2 i (nI i), fun _ => i, 1) (eqn_upd h (nI i)) rfl).1
    · exact gGo_congr1 m (i + 1) _ _ c (by omega) h
set_option maxRecDepth 100000 in
set_option maxHeartbeats 4000000 in
theorem grGo_low {n b k : Nat} (h4 : n ≤ 4) (hb : b < 64) (hk : k < n) : (grGo X n b).1 k = nI (mlow b n k) := by
  have h := gGo_congr1 (b := b) n 0 _ _ 0 (by omega) (gfill_eqn (v := fun _ => -1) (n := n) n 0 (X.2.1 30) (by omega) (fun j hj => absurd hj (by omega))) k hk
  exact h.trans (low_ok n (by omega) b hb k hk).2.2.2.2
set_option maxRecDepth 100000 in
set_option maxHeartbeats 4000000 in
theorem grGo_cnt {n b : Nat} (h4 : n ≤ 4) (hb : b < 64) : (grGo X n b).2 = nsum (fun k => mlow b n k = k) (fun _ => 1) 0 n := by
  have h := gGo_congr (b := b) n 0 _ _ 0 (by omega) (gfill_eqn (v := fun _ => -1) (n := n) n 0 (X.2.1 30) (by omega) (fun j hj => absurd hj (by omega)))
  exact h.trans (low_cnt n (by omega) b hb).symm
set_option maxRecDepth 100000 in
set_option maxHeartbeats 4000000 in
theorem by_contra9 {p : Prop} [Decidable p] (h : ¬ ¬ p) : p := Decidable.byContradiction h
set_option maxRecDepth 100000 in
set_option maxHeartbeats 4000000 in
theorem z_X9_lo_28 {sh k : Nat} {r : Int32} {P : zRes → zWorld → Prop} {n nw b : Nat} {d : Int32} (hR : rel X Y n nw) (hb : linked X n d b) (hk : k < n) : ∀ (m i x : Nat), i + m = n → x < 16 → Z G mX9_lowest (zrm 3 0 0) 0 0 83 [some (.ref 77), some (.int (nI sh)), some (.int d), some (.int (nI (mJ b k i m x))), some (.int r), some (.int (nI k)), some (.int (nI n))] [] (zw X1 Y O) P → Z G mX9_lowest (zrm 3 0 0) 0 0 28 [some (.ref 77), some (.int (nI sh)), some (.int d), some (.int (nI x)), some (.int r), some (.int (nI k)), some (.int (nI i))] [] (zw X1 Y O) P := by
  have h4 := rel_4 hR
  intro m
  induction m with
  | zero =>
    intro i x hi hx16 hx
    rw [mJ] at hx
    refine z_iload dX9_lowest_28 rfl (q := 30) rfl ?_
    refine z_aload_n (i := 0) dX9_lowest_30 rfl rfl (q := 31) rfl ?_
    refine z_get dX9_lowest_31 fX9_64 (wm _ _ _) rfl (q := 34) rfl ?_
    refine Z.eqst (st2 := [.int (nI n), .int (nI i)]) (congrArg (fun x => [Value.int x, Value.int (nI i)]) hR.1) ?_
    refine z_icmp_ge (tgt := 83) dX9_lowest_34 (by decide) (q := 37) rfl (fun h34 => ?_) (fun h34 => absurd (zge_t (by omega)) h34)
    rw [show i = n by omega]
    exact hx
  | succ m ih =>
    intro i x hi hx16 hx
    refine z_iload dX9_lowest_28 rfl (q := 30) rfl ?_
    refine z_aload_n (i := 0) dX9_lowest_30 rfl rfl (q := 31) rfl ?_
    refine z_get dX9_lowest_31 fX9_64 (wm _ _ _) rfl (q := 34) rfl ?_
    refine Z.eqst (st2 := [.int (nI n), .int (nI i)]) (congrArg (fun x => [Value.int x, Value.int (nI i)]) hR.1) ?_
    refine z_icmp_ge (tgt := 83) dX9_lowest_34 (by decide) (q := 37) rfl (fun h34 => absurd h34 (zge_f (by omega) (by omega))) (fun h34 => ?_)
    refine z_iload_n (i := 3) dX9_lowest_37 rfl rfl (q := 38) rfl ?_
    refine z_iload_n (i := 3) dX9_lowest_38 rfl rfl (q := 39) rfl ?_
    refine z_iload dX9_lowest_39 rfl (q := 41) rfl ?_
    refine z_ishr dX9_lowest_41 (q := 42) rfl ?_
    refine z_iconst (v := 1) dX9_lowest_42 rfl (q := 43) rfl ?_
    refine z_iand dX9_lowest_43 (q := 44) rfl ?_
    rw [bit_shr x hx16 i (by omega)]
    refine z_iconst (v := 1) dX9_lowest_44 rfl (q := 45) rfl ?_
    refine z_icmp_ne (tgt := 74) dX9_lowest_45 (by decide) (q := 48) rfl (fun h45 => ?_) (fun h45 => ?_)
    · refine z_iconst (v := 0) dX9_lowest_74 rfl (q := 75) rfl ?_
      refine z_ior dX9_lowest_75 (q := 76) rfl ?_
      refine z_istore_n (i := 3) dX9_lowest_76 rfl (zle rfl) rfl (q := 77) rfl ?_
      refine z_iinc dX9_lowest_77 rfl rfl (zle rfl) rfl (q := 80) rfl ?_
      refine z_goto (tgt := 28) dX9_lowest_80 (by decide) ?_
      rw [mJ, if_neg (fun h9 => h45 (by rw [if_pos h9.1]))] at hx
      refine Z.eql (zl2 := [some (.ref 77), some (.int (nI sh)), some (.int d), some (.int (nI x)), some (.int r), some (.int (nI k)), some (.int (nI (i + 1)))]) (by rw [← nI_1 i]; exact congrArg (fun v => [some (Value.ref 77), some (Value.int (nI sh)), some (Value.int d), some (Value.int v), some (Value.int r), some (Value.int (nI k)), some (Value.int (nI i + 1))]) (bit_or0 x hx16)) ?_
      exact ih (i + 1) _ (by omega) hx16 hx
    · refine z_iload dX9_lowest_48 rfl (q := 50) rfl ?_
      refine z_iload dX9_lowest_50 rfl (q := 52) rfl ?_
      refine z_icmp_eq (tgt := 74) dX9_lowest_52 (by decide) (q := 55) rfl (fun h52 => ?_) (fun h52 => ?_)
      · refine z_iconst (v := 0) dX9_lowest_74 rfl (q := 75) rfl ?_
        refine z_ior dX9_lowest_75 (q := 76) rfl ?_
        refine z_istore_n (i := 3) dX9_lowest_76 rfl (zle rfl) rfl (q := 77) rfl ?_
        refine z_iinc dX9_lowest_77 rfl rfl (zle rfl) rfl (q := 80) rfl ?_
        refine z_goto (tgt := 28) dX9_lowest_80 (by decide) ?_
        rw [mJ, if_neg (fun h9 => h9.2.1 ((nI_eq (by omega) (by omega)).mp h52))] at hx
        refine Z.eql (zl2 := [some (.ref 77), some (.int (nI sh)), some (.int d), some (.int (nI x)), some (.int r), some (.int (nI k)), some (.int (nI (i + 1)))]) (by rw [← nI_1 i]; exact congrArg (fun v => [some (Value.ref 77), some (Value.int (nI sh)), some (Value.int d), some (Value.int v), some (Value.int r), some (Value.int (nI k)), some (Value.int (nI i + 1))]) (bit_or0 x hx16)) ?_
        exact ih (i + 1) _ (by omega) hx16 hx
      · refine z_aload_n (i := 0) dX9_lowest_55 rfl rfl (q := 56) rfl ?_
        refine z_iload dX9_lowest_56 rfl (q := 58) rfl ?_
        refine z_iload dX9_lowest_58 rfl (q := 60) rfl ?_
        refine z_callVF (As := [_, _]) dX9_lowest_60 kX9_223 (c_X9_distanceOf hR hk (by omega)) (wm _ _ _) rfl rfl (zle rfl) ⟨zle rfl, zle rfl⟩ ⟨zle rfl, zle rfl⟩ (q := 63) rfl ?_
        refine z_iload_n (i := 2) dX9_lowest_63 rfl rfl (q := 64) rfl ?_
        refine z_icmp_gt (tgt := 74) dX9_lowest_64 (by decide) (q := 67) rfl (fun h64 => ?_) (fun h64 => ?_)
        · refine z_iconst (v := 0) dX9_lowest_74 rfl (q := 75) rfl ?_
          refine z_ior dX9_lowest_75 (q := 76) rfl ?_
          refine z_istore_n (i := 3) dX9_lowest_76 rfl (zle rfl) rfl (q := 77) rfl ?_
          refine z_iinc dX9_lowest_77 rfl rfl (zle rfl) rfl (q := 80) rfl ?_
          refine z_goto (tgt := 28) dX9_lowest_80 (by decide) ?_
          rw [mJ, if_neg (fun h9 => Int32.not_le.mpr h64 ((hb k i hk (by omega) h9.2.1).mpr h9.2.2))] at hx
          refine Z.eql (zl2 := [some (.ref 77), some (.int (nI sh)), some (.int d), some (.int (nI x)), some (.int r), some (.int (nI k)), some (.int (nI (i + 1)))]) (by rw [← nI_1 i]; exact congrArg (fun v => [some (Value.ref 77), some (Value.int (nI sh)), some (Value.int d), some (Value.int v), some (Value.int r), some (Value.int (nI k)), some (Value.int (nI i + 1))]) (bit_or0 x hx16)) ?_
          exact ih (i + 1) _ (by omega) hx16 hx
        · refine z_iconst (v := 1) dX9_lowest_67 rfl (q := 68) rfl ?_
          refine z_iload dX9_lowest_68 rfl (q := 70) rfl ?_
          refine z_ishl dX9_lowest_70 (q := 71) rfl ?_
          refine z_goto (tgt := 75) dX9_lowest_71 (by decide) ?_
          refine z_ior dX9_lowest_75 (q := 76) rfl ?_
          refine z_istore_n (i := 3) dX9_lowest_76 rfl (zle rfl) rfl (q := 77) rfl ?_
          refine z_iinc dX9_lowest_77 rfl rfl (zle rfl) rfl (q := 80) rfl ?_
          refine z_goto (tgt := 28) dX9_lowest_80 (by decide) ?_
          rw [mJ, if_pos (⟨by_contra9 (fun h9 => absurd h45 (by rw [if_neg h9]; decide)), fun h9 => h52 (by rw [h9]), (hb k i hk (by omega) (fun h9 => h52 (by rw [h9]))).mp (Int32.not_lt.mp h64)⟩)] at hx
          have hor := bit_or x hx16 k (by omega)
          refine Z.eql (zl2 := [some (.ref 77), some (.int (nI sh)), some (.int d), some (.int (nI (x ||| 2 ^ k))), some (.int r), some (.int (nI k)), some (.int (nI (i + 1)))]) (by rw [← nI_1 i, ← hor.1]; rfl) ?_
          exact ih (i + 1) _ (by omega) hor.2 hx
set_option maxRecDepth 100000 in
set_option maxHeartbeats 4000000 in
theorem z_X9_lo_16 {sh : Nat} {r : Int32} {P : zRes → zWorld → Prop} {n nw b : Nat} {d : Int32} (hR : rel X Y n nw) (hb : linked X n d b) : ∀ (m i x : Nat) (e6 : Option Value), i + m = n → x < 16 → (∀ e6, Z G mX9_lowest (zrm 3 0 0) 0 0 89 [some (.ref 77), some (.int (nI sh)), some (.int d), some (.int (nI (mK b n i m x))), some (.int r), some (.int (nI n)), e6] [] (zw X1 Y O) P) → Z G mX9_lowest (zrm 3 0 0) 0 0 16 [some (.ref 77), some (.int (nI sh)), some (.int d), some (.int (nI x)), some (.int r), some (.int (nI i)), e6] [] (zw X1 Y O) P := by
  have h4 := rel_4 hR
  intro m
  induction m with
  | zero =>
    intro i x e6 hi hx16 hx
    rw [mK] at hx
    refine z_iload dX9_lowest_16 rfl (q := 18) rfl ?_
    refine z_aload_n (i := 0) dX9_lowest_18 rfl rfl (q := 19) rfl ?_
    refine z_get dX9_lowest_19 fX9_64 (wm _ _ _) rfl (q := 22) rfl ?_
    refine Z.eqst (st2 := [.int (nI n), .int (nI i)]) (congrArg (fun x => [Value.int x, Value.int (nI i)]) hR.1) ?_
    refine z_icmp_ge (tgt := 89) dX9_lowest_22 (by decide) (q := 25) rfl (fun h22 => ?_) (fun h22 => absurd (zge_t (by omega)) h22)
    rw [show i = n by omega]
    exact hx e6
  | succ m ih =>
    intro i x e6 hi hx16 hx
    refine z_iload dX9_lowest_16 rfl (q := 18) rfl ?_
    refine z_aload_n (i := 0) dX9_lowest_18 rfl rfl (q := 19) rfl ?_
    refine z_get dX9_lowest_19 fX9_64 (wm _ _ _) rfl (q := 22) rfl ?_
    refine Z.eqst (st2 := [.int (nI n), .int (nI i)]) (congrArg (fun x => [Value.int x, Value.int (nI i)]) hR.1) ?_
    refine z_icmp_ge (tgt := 89) dX9_lowest_22 (by decide) (q := 25) rfl (fun h22 => absurd h22 (zge_f (by omega) (by omega))) (fun h22 => ?_)
    refine z_iconst (v := 0) dX9_lowest_25 rfl (q := 26) rfl ?_
    refine z_istore dX9_lowest_26 (zle rfl) rfl (q := 28) rfl ?_
    refine z_X9_lo_28 hR hb (k := i) (by omega) n 0 x (by omega) hx16 ?_
    refine z_iinc dX9_lowest_83 rfl rfl (zle rfl) rfl (q := 86) rfl ?_
    refine z_goto (tgt := 16) dX9_lowest_86 (by decide) ?_
    refine Z.eql (zl2 := [some (.ref 77), some (.int (nI sh)), some (.int d), some (.int (nI (mJ b i 0 n x))), some (.int r), some (.int (nI (i + 1))), _]) (by rw [← nI_1 i]; rfl) ?_
    rw [mK] at hx
    exact ih (i + 1) _ _ (by omega) (mJ_lt (by omega) n 0 x hx16) hx
set_option maxRecDepth 100000 in
set_option maxHeartbeats 4000000 in
theorem z_X9_lo_7 {sh : Nat} {P : zRes → zWorld → Prop} {n nw b : Nat} {d : Int32} (hR : rel X Y n nw) (hb : linked X n d b) : ∀ (m i x : Nat) (e5 e6 : Option Value), i + m = 4 → x < 16 → (∀ (r : Int32) (e5 e6 : Option Value), Z G mX9_lowest (zrm 3 0 0) 0 0 95 [some (.ref 77), some (.int (nI sh)), some (.int d), some (.int (nI (mRo b n m x))), some (.int r), e5, e6] [] (zw X1 Y O) P) → Z G mX9_lowest (zrm 3 0 0) 0 0 7 [some (.ref 77), some (.int (nI sh)), some (.int d), some (.int (nI x)), some (.int (nI i)), e5, e6] [] (zw X1 Y O) P := by
  intro m
  induction m with
  | zero =>
    intro i x e5 e6 hi hx16 hx
    rw [mRo] at hx
    refine z_iload dX9_lowest_7 rfl (q := 9) rfl ?_
    refine z_iconst (v := 4) dX9_lowest_9 rfl (q := 10) rfl ?_
    refine z_icmp_ge (tgt := 95) dX9_lowest_10 (by decide) (q := 13) rfl (fun h10 => ?_) (fun h10 => absurd (nI_le (b := i) (show 4 ≤ i by omega) (by omega)) h10)
    exact hx _ e5 e6
  | succ m ih =>
    intro i x e5 e6 hi hx16 hx
    refine z_iload dX9_lowest_7 rfl (q := 9) rfl ?_
    refine z_iconst (v := 4) dX9_lowest_9 rfl (q := 10) rfl ?_
    refine z_icmp_ge (tgt := 95) dX9_lowest_10 (by decide) (q := 13) rfl (fun h10 => absurd h10 (nI_ge (b := 4) (by omega) (by omega))) (fun h10 => ?_)
    refine z_iconst (v := 0) dX9_lowest_13 rfl (q := 14) rfl ?_
    refine z_istore dX9_lowest_14 (zle rfl) rfl (q := 16) rfl ?_
    refine z_X9_lo_16 hR hb n 0 x _ (by omega) hx16 (fun e6 => ?_)
    refine z_iinc dX9_lowest_89 rfl rfl (zle rfl) rfl (q := 92) rfl ?_
    refine z_goto (tgt := 7) dX9_lowest_92 (by decide) ?_
    refine Z.eql (zl2 := [some (.ref 77), some (.int (nI sh)), some (.int d), some (.int (nI (mK b n 0 n x))), some (.int (nI (i + 1))), _, _]) (by rw [← nI_1 i]; rfl) ?_
    rw [mRo] at hx
    exact ih (i + 1) _ _ _ (by omega) (mK_lt n 0 x (by have := rel_4 hR; omega) hx16) hx
set_option maxRecDepth 100000 in
set_option maxHeartbeats 4000000 in
theorem z_X9_lo_98 {sh x l : Nat} {d : Int32} {e5 e6 : Option Value} (hx16 : x < 16) (hl4 : l < 4) (hl : x.testBit l = true) (hlo : ∀ j, j < l → x.testBit j = false) : ∀ (m i : Nat), i + m = l → Z G mX9_lowest (zrm 3 0 0) 0 0 98 [some (.ref 77), some (.int (nI sh)), some (.int d), some (.int (nI x)), some (.int (nI i)), e5, e6] [] (zw X1 Y O) (zEq (some (.int (nI l))) (zw X1 Y O)) := by
  intro m
  induction m with
  | zero =>
    intro i hi
    refine z_iload_n (i := 3) dX9_lowest_98 rfl rfl (q := 99) rfl ?_
    refine z_iload dX9_lowest_99 rfl (q := 101) rfl ?_
    refine z_ishr dX9_lowest_101 (q := 102) rfl ?_
    refine z_iconst (v := 1) dX9_lowest_102 rfl (q := 103) rfl ?_
    refine z_iand dX9_lowest_103 (q := 104) rfl ?_
    rw [bit_shr x hx16 i (by omega), if_pos (by rw [show i = l by omega]; exact hl)]
    refine z_if_ne (tgt := 113) dX9_lowest_104 (by decide) (q := 107) rfl (fun h104 => ?_) (fun h104 => absurd h104 (by decide))
    refine z_iload dX9_lowest_113 rfl (q := 115) rfl ?_
    exact z_iret dX9_lowest_115 rfl ⟨zle rfl, zle rfl⟩ ⟨by rw [show i = l by omega], rfl⟩
  | succ m ih =>
    intro i hi
    refine z_iload_n (i := 3) dX9_lowest_98 rfl rfl (q := 99) rfl ?_
    refine z_iload dX9_lowest_99 rfl (q := 101) rfl ?_
    refine z_ishr dX9_lowest_101 (q := 102) rfl ?_
    refine z_iconst (v := 1) dX9_lowest_102 rfl (q := 103) rfl ?_
    refine z_iand dX9_lowest_103 (q := 104) rfl ?_
    rw [bit_shr x hx16 i (by omega), if_neg (by rw [hlo i (by omega)]; decide)]
    refine z_if_ne (tgt := 113) dX9_lowest_104 (by decide) (q := 107) rfl (fun h104 => absurd rfl h104) (fun h104 => ?_)
    refine z_iinc dX9_lowest_107 rfl rfl (zle rfl) rfl (q := 110) rfl ?_
    refine z_goto (tgt := 98) dX9_lowest_110 (by decide) ?_
    refine Z.eql (zl2 := [some (.ref 77), some (.int (nI sh)), some (.int d), some (.int (nI x)), some (.int (nI (i + 1))), _, _]) (by rw [← nI_1 i]; rfl) ?_
    exact ih (i + 1) (by omega)
set_option maxRecDepth 100000 in
set_option maxHeartbeats 4000000 in
theorem c_X9_lowest {n nw b : Nat} {d : Int32} (hR : rel X Y n nw) (hb : linked X n d b) {k : Nat} (hk : k < n) (hb64 : b < 64) : ZM G mX9_lowest 3 0 0 [.ref 77, .int (nI k), .int d] (zw X1 Y O) (zEq (some (.int (nI (mlow b n k)))) (zw X1 Y O)) := by
  have h4 := rel_4 hR
  have hlow := low_ok n (by omega) b hb64 k hk
  refine ZM.go pX9 rfl rfl (zle rfl) (zl := [some (.ref 77), some (.int (nI k)), some (.int d), none, none, none, none]) rfl ?_
  refine z_iconst (v := 1) dX9_lowest_0 rfl (q := 1) rfl ?_
  refine z_iload_n (i := 1) dX9_lowest_1 rfl rfl (q := 2) rfl ?_
  refine z_ishl dX9_lowest_2 (q := 3) rfl ?_
  rw [bit_shl k (by omega)]
  refine z_istore_n (i := 3) dX9_lowest_3 rfl (zle rfl) rfl (q := 4) rfl ?_
  refine z_iconst (v := 0) dX9_lowest_4 rfl (q := 5) rfl ?_
  refine z_istore dX9_lowest_5 (zle rfl) rfl (q := 7) rfl ?_
  refine z_X9_lo_7 hR hb 4 0 (2 ^ k) _ _ (by omega) (by have := (bit_or 0 (by omega) k (by omega)).2; rw [Nat.zero_or] at this; exact this) (fun r e5 e6 => ?_)
  refine z_iconst (v := 0) dX9_lowest_95 rfl (q := 96) rfl ?_
  refine z_istore dX9_lowest_96 (zle rfl) rfl (q := 98) rfl ?_
  exact z_X9_lo_98 hlow.1 hlow.2.2.1 hlow.2.1 hlow.2.2.2.1 (mlow b n k) 0 (by omega)
set_option maxRecDepth 100000 in
set_option maxHeartbeats 4000000 in
theorem z_X9_groups_35 {n nw b : Nat} {d : Int32} (hR : rel X Y n nw) (hb : linked X n d b) (hb64 : b < 64) : ∀ (m i : Nat) (a : Int32), i + m = n → Z G mX9_groups (zrm 4 0 0) 0 0 35 [some (.ref 77), some (.int d), some (.int a), some (.int (nI i))] [] (zw X1 Y O) (zEq (some (.int (rcnt (fun k => mlow b n k = k) i m a))) (zw X1 Y O)) := by
  intro m
  induction m with
  | zero =>
    intro i a hi
    have h4 := rel_4 hR
    refine z_iload_n (i := 3) dX9_groups_35 rfl rfl (q := 36) rfl ?_
    refine z_aload_n (i := 0) dX9_groups_36 rfl rfl (q := 37) rfl ?_
    refine z_get dX9_groups_37 fX9_64 (wm _ _ _) rfl (q := 40) rfl ?_
    refine Z.eqst (st2 := [.int (nI n), .int (nI i)]) (congrArg (fun x => [Value.int x, Value.int (nI i)]) hR.1) ?_
    refine z_icmp_ge (tgt := 67) dX9_groups_40 (by decide) (q := 43) rfl (fun h40 => ?_) (fun h40 => absurd (zge_t (by omega)) h40)
    refine z_iload_n (i := 2) dX9_groups_67 rfl rfl (q := 68) rfl ?_
    exact z_iret dX9_groups_68 rfl ⟨zle rfl, zle rfl⟩ ⟨rfl, rfl⟩
  | succ m ih =>
    intro i a hi
    have h4 := rel_4 hR
    refine z_iload_n (i := 3) dX9_groups_35 rfl rfl (q := 36) rfl ?_
    refine z_aload_n (i := 0) dX9_groups_36 rfl rfl (q := 37) rfl ?_
    refine z_get dX9_groups_37 fX9_64 (wm _ _ _) rfl (q := 40) rfl ?_
    refine Z.eqst (st2 := [.int (nI n), .int (nI i)]) (congrArg (fun x => [Value.int x, Value.int (nI i)]) hR.1) ?_
    refine z_icmp_ge (tgt := 67) dX9_groups_40 (by decide) (q := 43) rfl (fun h40 => absurd h40 (zge_f (by omega) (by omega))) (fun h40 => ?_)
    refine z_iload_n (i := 2) dX9_groups_43 rfl rfl (q := 44) rfl ?_
    refine z_aload_n (i := 0) dX9_groups_44 rfl rfl (q := 45) rfl ?_
    refine z_iload_n (i := 3) dX9_groups_45 rfl rfl (q := 46) rfl ?_
    refine z_iload_n (i := 1) dX9_groups_46 rfl rfl (q := 47) rfl ?_
    refine z_callVF (As := [_, _]) dX9_groups_47 kX9_226 (c_X9_lowest hR hb (k := i) (by omega) hb64) (wm _ _ _) rfl rfl (zle rfl) ⟨zle rfl, zle rfl⟩ ⟨zle rfl, zle rfl⟩ (q := 50) rfl ?_
    have hm4 := (low_ok n (by omega) b hb64 i (by omega)).2.2.1
    refine z_iload_n (i := 3) dX9_groups_50 rfl rfl (q := 51) rfl ?_
    refine z_icmp_ne (tgt := 58) dX9_groups_51 (by decide) (q := 54) rfl (fun h51 => ?_) (fun h51 => ?_)
    · refine z_iconst (v := 0) dX9_groups_58 rfl (q := 59) rfl ?_
      refine z_iadd dX9_groups_59 (q := 60) rfl ?_
      refine z_istore_n (i := 2) dX9_groups_60 rfl (zle rfl) rfl (q := 61) rfl ?_
      refine z_iinc dX9_groups_61 rfl rfl (zle rfl) rfl (q := 64) rfl ?_
      refine z_goto (tgt := 35) dX9_groups_64 (by decide) ?_
      rw [Int32.add_zero]
      refine Z.eql (zl2 := [some (.ref 77), some (.int d), _, some (.int (nI (i + 1)))]) (by first | (rw [← nI_1 i]; done) | (rw [← nI_1 i]; rfl)) ?_
      rw [rcnt_f (p := fun k => mlow b n k = k) (fun h9 => h51 (by rw [h9]))]
      exact ih (i + 1) _ (by omega)
    · refine z_iconst (v := 1) dX9_groups_54 rfl (q := 55) rfl ?_
      refine z_goto (tgt := 59) dX9_groups_55 (by decide) ?_
      refine z_iadd dX9_groups_59 (q := 60) rfl ?_
      refine z_istore_n (i := 2) dX9_groups_60 rfl (zle rfl) rfl (q := 61) rfl ?_
      refine z_iinc dX9_groups_61 rfl rfl (zle rfl) rfl (q := 64) rfl ?_
      refine z_goto (tgt := 35) dX9_groups_64 (by decide) ?_
      refine Z.eql (zl2 := [some (.ref 77), some (.int d), _, some (.int (nI (i + 1)))]) (by first | (rw [← nI_1 i]; done) | (rw [← nI_1 i]; rfl)) ?_
      rw [rcnt_t (p := fun k => mlow b n k = k) ((nI_eq (by omega) (by omega)).mp h51)]
      exact ih (i + 1) _ (by omega)
set_option maxRecDepth 100000 in
set_option maxHeartbeats 4000000 in
theorem c_X9_groups {n nw b : Nat} {d : Int32} (hR : rel X Y n nw) (hb : linked X n d b) (hb64 : b < 64) (hd : ¬ d < 0 ∧ ¬ 200 < d) : ZM G mX9_groups 4 0 0 [.ref 77, .int d] (zw X1 Y O) (mR X1 O (nI (grGo X n b).2) (yint Y 0 0)) := by
  have h4 := rel_4 hR
  have hR0 : rel X (yint Y 0 0) n nw := rel_thr hR 0
  refine ZM.go pX9 rfl rfl (zle rfl) (zl := [some (.ref 77), some (.int d), none, none]) rfl ?_
  refine z_aload_n (i := 0) dX9_groups_0 rfl rfl (q := 1) rfl ?_
  refine z_iconst (v := 0) dX9_groups_1 rfl (q := 2) rfl ?_
  refine z_put dX9_groups_2 fX9_60 (wm _ _ _) (zle rfl) (zfit_int _) (q := 5) rfl ?_
  refine Z.eqw (wmi_thrown _ _ _ _) ?_
  refine z_aload_n (i := 0) dX9_groups_5 rfl rfl (q := 6) rfl ?_
  refine z_iload_n (i := 1) dX9_groups_6 rfl rfl (q := 7) rfl ?_
  refine z_iconst (v := 0) dX9_groups_7 rfl (q := 8) rfl ?_
  refine z_sipush (v := 200) dX9_groups_8 rfl (q := 11) rfl ?_
  refine z_callSF (As := [_, _, _]) dX9_groups_11 kX9_67 (c_X9_in ) rfl (zle rfl) ⟨zle rfl, zle rfl⟩ ⟨zle rfl, zle rfl⟩ (q := 14) rfl ?_
  refine z_if_ne (tgt := 21) dX9_groups_14 (by decide) (q := 17) rfl (fun h14 => ?_) (fun h14 => absurd hd (zb_0.mp h14))
  refine z_iconst (v := 0) dX9_groups_21 rfl (q := 22) rfl ?_
  refine z_iconst (v := 1) dX9_groups_22 rfl (q := 23) rfl ?_
  refine z_callVF (As := [_, _]) dX9_groups_23 kX9_89 (c_X9_fails_f rfl) (wm _ _ _) rfl rfl (zle rfl) ⟨zle rfl, zle rfl⟩ ⟨zle rfl, zle rfl⟩ (q := 26) rfl ?_
  refine z_if_eq (tgt := 31) dX9_groups_26 (by decide) (q := 29) rfl (fun h26 => ?_) (fun h26 => absurd h26 (by decide))
  refine z_iconst (v := 0) dX9_groups_31 rfl (q := 32) rfl ?_
  refine z_istore_n (i := 2) dX9_groups_32 rfl (zle rfl) rfl (q := 33) rfl ?_
  refine z_iconst (v := 0) dX9_groups_33 rfl (q := 34) rfl ?_
  refine z_istore_n (i := 3) dX9_groups_34 rfl (zle rfl) rfl (q := 35) rfl ?_
  rw [show nI (grGo X n b).2 = rcnt (fun k => mlow b n k = k) 0 n 0 by rw [grGo_cnt h4 hb64]; exact ((rcnt_n n 0 0).trans (by rw [Nat.zero_add])).symm]
  exact z_X9_groups_35 hR0 hb hb64 n 0 0 (by omega)
set_option maxRecDepth 100000 in
set_option maxHeartbeats 4000000 in
theorem c_X9_groups_out {n nw : Nat} {d : Int32} (hR : rel X Y n nw) (hd : ¬ (¬ d < 0 ∧ ¬ 200 < d)) : ZM G mX9_groups 4 0 0 [.ref 77, .int d] (zw X1 Y O) (mR X1 O (0) (yth Y 1)) := by
  have h4 := rel_4 hR
  have hR0 : rel X (yint Y 0 0) n nw := rel_thr hR 0
  refine ZM.go pX9 rfl rfl (zle rfl) (zl := [some (.ref 77), some (.int d), none, none]) rfl ?_
  refine z_aload_n (i := 0) dX9_groups_0 rfl rfl (q := 1) rfl ?_
  refine z_iconst (v := 0) dX9_groups_1 rfl (q := 2) rfl ?_
  refine z_put dX9_groups_2 fX9_60 (wm _ _ _) (zle rfl) (zfit_int _) (q := 5) rfl ?_
  refine Z.eqw (wmi_thrown _ _ _ _) ?_
  refine z_aload_n (i := 0) dX9_groups_5 rfl rfl (q := 6) rfl ?_
  refine z_iload_n (i := 1) dX9_groups_6 rfl rfl (q := 7) rfl ?_
  refine z_iconst (v := 0) dX9_groups_7 rfl (q := 8) rfl ?_
  refine z_sipush (v := 200) dX9_groups_8 rfl (q := 11) rfl ?_
  refine z_callSF (As := [_, _, _]) dX9_groups_11 kX9_67 (c_X9_in ) rfl (zle rfl) ⟨zle rfl, zle rfl⟩ ⟨zle rfl, zle rfl⟩ (q := 14) rfl ?_
  refine z_if_ne (tgt := 21) dX9_groups_14 (by decide) (q := 17) rfl (fun h14 => absurd (zb_1.mp h14) hd) (fun h14 => ?_)
  refine z_iconst (v := 1) dX9_groups_17 rfl (q := 18) rfl ?_
  refine z_goto (tgt := 22) dX9_groups_18 (by decide) ?_
  refine z_iconst (v := 1) dX9_groups_22 rfl (q := 23) rfl ?_
  refine z_callVF (As := [_, _]) dX9_groups_23 kX9_89 (c_X9_fails_t rfl (by decide)) (wm _ _ _) rfl rfl (zle rfl) ⟨zle rfl, zle rfl⟩ ⟨zle rfl, zle rfl⟩ (q := 26) rfl ?_
  refine z_if_eq (tgt := 31) dX9_groups_26 (by decide) (q := 29) rfl (fun h26 => absurd h26 (by decide)) (fun h26 => ?_)
  refine z_iconst (v := 0) dX9_groups_29 rfl (q := 30) rfl ?_
  exact z_iret dX9_groups_30 rfl ⟨zle rfl, zle rfl⟩ ⟨rfl, rfl⟩
set_option maxRecDepth 100000 in
set_option maxHeartbeats 4000000 in
theorem c_X9_groupsByLinks {n nw b : Nat} {d : Int32} (hR : rel X Y n nw) (hb : linked X n d b) (hb64 : b < 64) (hd : ¬ d < 0 ∧ ¬ 200 < d) : ZM G mX9_groupsByLinks 5 0 0 [.ref 77, .int d] (zw X1 Y O) (mR X1 O (nI (grGo X n b).2) (yint Y 0 0)) := by
  refine ZM.go pX9 rfl rfl (zle rfl) (zl := [some (.ref 77), some (.int d)]) rfl ?_
  refine z_aload_n (i := 0) dX9_groupsByLinks_0 rfl rfl (q := 1) rfl ?_
  refine z_iload_n (i := 1) dX9_groupsByLinks_1 rfl rfl (q := 2) rfl ?_
  refine z_callVF (As := [_]) dX9_groupsByLinks_2 kX9_229 (c_X9_groups hR hb hb64 hd) (wm _ _ _) rfl rfl (zle rfl) ⟨zle rfl, zle rfl⟩ ⟨zle rfl, zle rfl⟩ (q := 5) rfl ?_
  exact z_iret dX9_groupsByLinks_5 rfl ⟨zle rfl, zle rfl⟩ ⟨rfl, rfl⟩
set_option maxRecDepth 100000 in
set_option maxHeartbeats 4000000 in
theorem c_X9_groupsByLinks_out {n nw : Nat} {d : Int32} (hR : rel X Y n nw) (hd : ¬ (¬ d < 0 ∧ ¬ 200 < d)) : ZM G mX9_groupsByLinks 5 0 0 [.ref 77, .int d] (zw X1 Y O) (mR X1 O (0) (yth Y 1)) := by
  refine ZM.go pX9 rfl rfl (zle rfl) (zl := [some (.ref 77), some (.int d)]) rfl ?_
  refine z_aload_n (i := 0) dX9_groupsByLinks_0 rfl rfl (q := 1) rfl ?_
  refine z_iload_n (i := 1) dX9_groupsByLinks_1 rfl rfl (q := 2) rfl ?_
  refine z_callVF (As := [_]) dX9_groupsByLinks_2 kX9_229 (c_X9_groups_out hR hd) (wm _ _ _) rfl rfl (zle rfl) ⟨zle rfl, zle rfl⟩ ⟨zle rfl, zle rfl⟩ (q := 5) rfl ?_
  exact z_iret dX9_groupsByLinks_5 rfl ⟨zle rfl, zle rfl⟩ ⟨rfl, rfl⟩
set_option maxRecDepth 100000 in
set_option maxHeartbeats 4000000 in
theorem c_X9_groupOf {n nw b : Nat} {d : Int32} (hR : rel X Y n nw) (hb : linked X n d b) {k : Nat} (hk : k < n) (hb64 : b < 64) (hd : ¬ d < 0 ∧ ¬ 200 < d) : ZM G mX9_groupOf 4 0 0 [.ref 77, .int (nI k), .int d] (zw X1 Y O) (mR X1 O ((grGo X n b).1 k) (yint Y 0 0)) := by
  have h4 := rel_4 hR
  have hR0 : rel X (yint Y 0 0) n nw := rel_thr hR 0
  refine ZM.go pX9 rfl rfl (zle rfl) (zl := [some (.ref 77), some (.int (nI k)), some (.int d)]) rfl ?_
  refine z_aload_n (i := 0) dX9_groupOf_0 rfl rfl (q := 1) rfl ?_
  refine z_iconst (v := 0) dX9_groupOf_1 rfl (q := 2) rfl ?_
  refine z_put dX9_groupOf_2 fX9_60 (wm _ _ _) (zle rfl) (zfit_int _) (q := 5) rfl ?_
  refine Z.eqw (wmi_thrown _ _ _ _) ?_
  refine z_aload_n (i := 0) dX9_groupOf_5 rfl rfl (q := 6) rfl ?_
  refine z_aload_n (i := 0) dX9_groupOf_6 rfl rfl (q := 7) rfl ?_
  refine z_iload_n (i := 1) dX9_groupOf_7 rfl rfl (q := 8) rfl ?_
  refine z_callVF (As := [_]) dX9_groupOf_8 kX9_97 (c_X9_noShape_in hR0 hk) (wm _ _ _) rfl rfl (zle rfl) ⟨zle rfl, zle rfl⟩ ⟨zle rfl, zle rfl⟩ (q := 11) rfl ?_
  refine z_iconst (v := 1) dX9_groupOf_11 rfl (q := 12) rfl ?_
  refine z_callVF (As := [_, _]) dX9_groupOf_12 kX9_89 (c_X9_fails_f rfl) (wm _ _ _) rfl rfl (zle rfl) ⟨zle rfl, zle rfl⟩ ⟨zle rfl, zle rfl⟩ (q := 15) rfl ?_
  refine z_if_ne (tgt := 42) dX9_groupOf_15 (by decide) (q := 18) rfl (fun h15 => absurd h15 (by decide)) (fun h15 => ?_)
  refine z_aload_n (i := 0) dX9_groupOf_18 rfl rfl (q := 19) rfl ?_
  refine z_iload_n (i := 2) dX9_groupOf_19 rfl rfl (q := 20) rfl ?_
  refine z_iconst (v := 0) dX9_groupOf_20 rfl (q := 21) rfl ?_
  refine z_sipush (v := 200) dX9_groupOf_21 rfl (q := 24) rfl ?_
  refine z_callSF (As := [_, _, _]) dX9_groupOf_24 kX9_67 (c_X9_in ) rfl (zle rfl) ⟨zle rfl, zle rfl⟩ ⟨zle rfl, zle rfl⟩ (q := 27) rfl ?_
  refine z_if_ne (tgt := 34) dX9_groupOf_27 (by decide) (q := 30) rfl (fun h27 => ?_) (fun h27 => absurd hd (zb_0.mp h27))
  refine z_iconst (v := 0) dX9_groupOf_34 rfl (q := 35) rfl ?_
  refine z_iconst (v := 2) dX9_groupOf_35 rfl (q := 36) rfl ?_
  refine z_callVF (As := [_, _]) dX9_groupOf_36 kX9_89 (c_X9_fails_f rfl) (wm _ _ _) rfl rfl (zle rfl) ⟨zle rfl, zle rfl⟩ ⟨zle rfl, zle rfl⟩ (q := 39) rfl ?_
  refine z_if_eq (tgt := 46) dX9_groupOf_39 (by decide) (q := 42) rfl (fun h39 => ?_) (fun h39 => absurd h39 (by decide))
  refine z_aload_n (i := 0) dX9_groupOf_46 rfl rfl (q := 47) rfl ?_
  refine z_iload_n (i := 1) dX9_groupOf_47 rfl rfl (q := 48) rfl ?_
  refine z_iload_n (i := 2) dX9_groupOf_48 rfl rfl (q := 49) rfl ?_
  refine z_callVF (As := [_, _]) dX9_groupOf_49 kX9_226 (c_X9_lowest hR0 hb hk hb64) (wm _ _ _) rfl rfl (zle rfl) ⟨zle rfl, zle rfl⟩ ⟨zle rfl, zle rfl⟩ (q := 52) rfl ?_
  exact z_iret dX9_groupOf_52 rfl ⟨zle rfl, zle rfl⟩ ⟨by rw [grGo_low h4 hb64 hk], rfl⟩
set_option maxRecDepth 100000 in
set_option maxHeartbeats 4000000 in
theorem c_X9_groupOf_d {n nw k : Nat} (hR : rel X Y n nw) (hk : k < n) {d : Int32} (hd : ¬ (¬ d < 0 ∧ ¬ 200 < d)) : ZM G mX9_groupOf 4 0 0 [.ref 77, .int (nI k), .int d] (zw X1 Y O) (mR X1 O (0) (yth Y 2)) := by
  have h4 := rel_4 hR
  have hR0 : rel X (yint Y 0 0) n nw := rel_thr hR 0
  refine ZM.go pX9 rfl rfl (zle rfl) (zl := [some (.ref 77), some (.int (nI k)), some (.int d)]) rfl ?_
  refine z_aload_n (i := 0) dX9_groupOf_0 rfl rfl (q := 1) rfl ?_
  refine z_iconst (v := 0) dX9_groupOf_1 rfl (q := 2) rfl ?_
  refine z_put dX9_groupOf_2 fX9_60 (wm _ _ _) (zle rfl) (zfit_int _) (q := 5) rfl ?_
  refine Z.eqw (wmi_thrown _ _ _ _) ?_
  refine z_aload_n (i := 0) dX9_groupOf_5 rfl rfl (q := 6) rfl ?_
  refine z_aload_n (i := 0) dX9_groupOf_6 rfl rfl (q := 7) rfl ?_
  refine z_iload_n (i := 1) dX9_groupOf_7 rfl rfl (q := 8) rfl ?_
  refine z_callVF (As := [_]) dX9_groupOf_8 kX9_97 (c_X9_noShape_in hR0 hk) (wm _ _ _) rfl rfl (zle rfl) ⟨zle rfl, zle rfl⟩ ⟨zle rfl, zle rfl⟩ (q := 11) rfl ?_
  refine z_iconst (v := 1) dX9_groupOf_11 rfl (q := 12) rfl ?_
  refine z_callVF (As := [_, _]) dX9_groupOf_12 kX9_89 (c_X9_fails_f rfl) (wm _ _ _) rfl rfl (zle rfl) ⟨zle rfl, zle rfl⟩ ⟨zle rfl, zle rfl⟩ (q := 15) rfl ?_
  refine z_if_ne (tgt := 42) dX9_groupOf_15 (by decide) (q := 18) rfl (fun h15 => absurd h15 (by decide)) (fun h15 => ?_)
  refine z_aload_n (i := 0) dX9_groupOf_18 rfl rfl (q := 19) rfl ?_
  refine z_iload_n (i := 2) dX9_groupOf_19 rfl rfl (q := 20) rfl ?_
  refine z_iconst (v := 0) dX9_groupOf_20 rfl (q := 21) rfl ?_
  refine z_sipush (v := 200) dX9_groupOf_21 rfl (q := 24) rfl ?_
  refine z_callSF (As := [_, _, _]) dX9_groupOf_24 kX9_67 (c_X9_in ) rfl (zle rfl) ⟨zle rfl, zle rfl⟩ ⟨zle rfl, zle rfl⟩ (q := 27) rfl ?_
  refine z_if_ne (tgt := 34) dX9_groupOf_27 (by decide) (q := 30) rfl (fun h27 => absurd (zb_1.mp h27) hd) (fun h27 => ?_)
  refine z_iconst (v := 1) dX9_groupOf_30 rfl (q := 31) rfl ?_
  refine z_goto (tgt := 35) dX9_groupOf_31 (by decide) ?_
  refine z_iconst (v := 2) dX9_groupOf_35 rfl (q := 36) rfl ?_
  refine z_callVF (As := [_, _]) dX9_groupOf_36 kX9_89 (c_X9_fails_t rfl (by decide)) (wm _ _ _) rfl rfl (zle rfl) ⟨zle rfl, zle rfl⟩ ⟨zle rfl, zle rfl⟩ (q := 39) rfl ?_
  refine z_if_eq (tgt := 46) dX9_groupOf_39 (by decide) (q := 42) rfl (fun h39 => absurd h39 (by decide)) (fun h39 => ?_)
  refine z_iconst (v := 0) dX9_groupOf_42 rfl (q := 43) rfl ?_
  refine z_goto (tgt := 52) dX9_groupOf_43 (by decide) ?_
  exact z_iret dX9_groupOf_52 rfl ⟨zle rfl, zle rfl⟩ ⟨rfl, rfl⟩
set_option maxRecDepth 100000 in
set_option maxHeartbeats 4000000 in
theorem c_X9_groupOf_out {n nw : Nat} {s : Int32} (hR : rel X Y n nw) (h : s < 0 ∨ nI n ≤ s) {d : Int32} : ZM G mX9_groupOf 4 0 0 [.ref 77, .int s, .int d] (zw X1 Y O) (mR X1 O (0) (yth Y 1)) := by
  have h4 := rel_4 hR
  have hR0 : rel X (yint Y 0 0) n nw := rel_thr hR 0
  refine ZM.go pX9 rfl rfl (zle rfl) (zl := [some (.ref 77), some (.int s), some (.int d)]) rfl ?_
  refine z_aload_n (i := 0) dX9_groupOf_0 rfl rfl (q := 1) rfl ?_
  refine z_iconst (v := 0) dX9_groupOf_1 rfl (q := 2) rfl ?_
  refine z_put dX9_groupOf_2 fX9_60 (wm _ _ _) (zle rfl) (zfit_int _) (q := 5) rfl ?_
  refine Z.eqw (wmi_thrown _ _ _ _) ?_
  refine z_aload_n (i := 0) dX9_groupOf_5 rfl rfl (q := 6) rfl ?_
  refine z_aload_n (i := 0) dX9_groupOf_6 rfl rfl (q := 7) rfl ?_
  refine z_iload_n (i := 1) dX9_groupOf_7 rfl rfl (q := 8) rfl ?_
  refine z_callVF (As := [_]) dX9_groupOf_8 kX9_97 (c_X9_noShape_out hR0 h) (wm _ _ _) rfl rfl (zle rfl) ⟨zle rfl, zle rfl⟩ ⟨zle rfl, zle rfl⟩ (q := 11) rfl ?_
  refine z_iconst (v := 1) dX9_groupOf_11 rfl (q := 12) rfl ?_
  refine z_callVF (As := [_, _]) dX9_groupOf_12 kX9_89 (c_X9_fails_t rfl (by decide)) (wm _ _ _) rfl rfl (zle rfl) ⟨zle rfl, zle rfl⟩ ⟨zle rfl, zle rfl⟩ (q := 15) rfl ?_
  refine z_if_ne (tgt := 42) dX9_groupOf_15 (by decide) (q := 18) rfl (fun h15 => ?_) (fun h15 => absurd h15 (by decide))
  refine z_iconst (v := 0) dX9_groupOf_42 rfl (q := 43) rfl ?_
  refine z_goto (tgt := 52) dX9_groupOf_43 (by decide) ?_
  exact z_iret dX9_groupOf_52 rfl ⟨zle rfl, zle rfl⟩ ⟨rfl, rfl⟩
end
