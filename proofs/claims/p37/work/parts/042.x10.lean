section
variable {G : zG} {X : zX} {Y : zY} {O : zO}
/- the two rows of Groups -/
set_option maxRecDepth 100000 in
set_option maxHeartbeats 4000000 in
def xg (X : zX) (low : Nat → Int32) (l : Int32) (g : Nat → Int32) (c : Int32) : zX := xrow (xrow X 30 low l) 31 g c
set_option maxRecDepth 100000 in
set_option maxHeartbeats 4000000 in
theorem xg_30 (X : zX) (low low2 : Nat → Int32) (l l2 : Int32) (g : Nat → Int32) (c : Int32) : xrow (xg X low l g c) 30 low2 l2 = xg X low2 l2 g c := by
  unfold xg xrow
  refine Prod.ext (funext fun j => ?_) (Prod.ext (funext fun j => ?_) rfl)
  · by_cases h1 : j = 30 <;> by_cases h2 : j = 31 <;> simp [va_up, h1, h2]
  · by_cases h1 : j = 30 <;> by_cases h2 : j = 31 <;> simp [va_up, h1, h2]
set_option maxRecDepth 100000 in
set_option maxHeartbeats 4000000 in
theorem xg_31 (X : zX) (low : Nat → Int32) (l : Int32) (g g2 : Nat → Int32) (c c2 : Int32) : xrow (xg X low l g c) 31 g2 c2 = xg X low l g2 c2 := by
  unfold xg xrow
  refine Prod.ext (funext fun j => ?_) (Prod.ext (funext fun j => ?_) rfl)
  · by_cases h2 : j = 31 <;> simp [va_up, h2]
  · by_cases h2 : j = 31 <;> simp [va_up, h2]
set_option maxRecDepth 100000 in
set_option maxHeartbeats 4000000 in
theorem xg_0 (X : zX) : xg X (X.2.1 30) (X.1 30) (X.2.1 31) (X.1 31) = X := by
  unfold xg xrow
  refine Prod.ext (funext fun j => ?_) (Prod.ext (funext fun j => ?_) rfl)
  · by_cases h1 : j = 30 <;> by_cases h2 : j = 31 <;> simp [va_up, h1, h2]
  · by_cases h1 : j = 30 <;> by_cases h2 : j = 31 <;> simp [va_up, h1, h2]
set_option maxRecDepth 100000 in
set_option maxHeartbeats 4000000 in
theorem xg_f0 (X : zX) (low : Nat → Int32) (l : Int32) (g : Nat → Int32) (c : Int32) : (xg X low l g c).2.1 0 = X.2.1 0 := rfl
set_option maxRecDepth 100000 in
set_option maxHeartbeats 4000000 in
theorem xg_l0 (X : zX) (low : Nat → Int32) (l : Int32) (g : Nat → Int32) (c : Int32) : (xg X low l g c).1 0 = X.1 0 := rfl
set_option maxRecDepth 100000 in
set_option maxHeartbeats 4000000 in
theorem xg_f1 (X : zX) (low : Nat → Int32) (l : Int32) (g : Nat → Int32) (c : Int32) : (xg X low l g c).2.1 1 = X.2.1 1 := rfl
set_option maxRecDepth 100000 in
set_option maxHeartbeats 4000000 in
theorem xg_l1 (X : zX) (low : Nat → Int32) (l : Int32) (g : Nat → Int32) (c : Int32) : (xg X low l g c).1 1 = X.1 1 := rfl
set_option maxRecDepth 100000 in
set_option maxHeartbeats 4000000 in
theorem xg_f2 (X : zX) (low : Nat → Int32) (l : Int32) (g : Nat → Int32) (c : Int32) : (xg X low l g c).2.1 2 = X.2.1 2 := rfl
set_option maxRecDepth 100000 in
set_option maxHeartbeats 4000000 in
theorem xg_l2 (X : zX) (low : Nat → Int32) (l : Int32) (g : Nat → Int32) (c : Int32) : (xg X low l g c).1 2 = X.1 2 := rfl
set_option maxRecDepth 100000 in
set_option maxHeartbeats 4000000 in
theorem xg_f3 (X : zX) (low : Nat → Int32) (l : Int32) (g : Nat → Int32) (c : Int32) : (xg X low l g c).2.1 3 = X.2.1 3 := rfl
set_option maxRecDepth 100000 in
set_option maxHeartbeats 4000000 in
theorem xg_l3 (X : zX) (low : Nat → Int32) (l : Int32) (g : Nat → Int32) (c : Int32) : (xg X low l g c).1 3 = X.1 3 := rfl
set_option maxRecDepth 100000 in
set_option maxHeartbeats 4000000 in
theorem z_X3_goFrom_59 {n b root : Nat} {d : Int32} (hn : X.1 0 = nI n) (h4 : n ≤ 4) (hb : linked X n d b) (hr : root < n) {s st : Nat} {P : zRes → zWorld → Prop} (hs : s < n) : ∀ (m i : Nat) (a : gst) (g : Nat → Int32), i + m = n → gok n a → (∀ j, j < a.2.2 → g j = nI (a.2.1 j)) → a.1 s ≠ -1 → (∀ g2 : Nat → Int32, (∀ j, j < (gIn b s (nI root) i m a).2.2 → g2 j = nI ((gIn b s (nI root) i m a).2.1 j)) → Z G mX3_goFrom (zrm 3 0 0) 0 0 120 [some (.ref 68), some (.int (nI root)), some (.ref 1), some (.ref 6), some (.int d), some (.int (nI st)), some (.int (nI s)), some (.int (nI n))] [] (zw (xg X (gIn b s (nI root) i m a).1 (nI n) g2 (nI (gIn b s (nI root) i m a).2.2)) Y O) P) → Z G mX3_goFrom (zrm 3 0 0) 0 0 59 [some (.ref 68), some (.int (nI root)), some (.ref 1), some (.ref 6), some (.int d), some (.int (nI st)), some (.int (nI s)), some (.int (nI i))] [] (zw (xg X a.1 (nI n) g (nI a.2.2)) Y O) (P) := by
  intro m
  induction m with
  | zero =>
    intro i a g hi ha hg hs2 hx
    have hin : n = i := by omega
    subst hin
    simp only [gIn] at hx
    refine z_iload dX3_goFrom_59 rfl (q := 61) rfl ?_
    refine z_aload_n (i := 2) dX3_goFrom_61 rfl rfl (q := 62) rfl ?_
    refine z_callVF (As := []) dX3_goFrom_62 kX3_41 (c_X0_count (t := 0) (by decide) ) (wo_across _ _ _) rfl rfl (zle rfl) ⟨zle rfl, zle rfl⟩ ⟨zle rfl, zle rfl⟩ (q := 65) rfl ?_
    rw [show (xg X a.1 (nI n) g (nI a.2.2)).1 (2 * 0) = nI n from hn]
    refine z_icmp_ge (tgt := 120) dX3_goFrom_65 (by decide) (q := 68) rfl (fun h65 => ?_) (fun h65 => absurd (zge_t (by omega)) h65)
    exact hx g hg
  | succ m ih =>
    intro i a g hi ha hg hs2 hx
    refine z_iload dX3_goFrom_59 rfl (q := 61) rfl ?_
    refine z_aload_n (i := 2) dX3_goFrom_61 rfl rfl (q := 62) rfl ?_
    refine z_callVF (As := []) dX3_goFrom_62 kX3_41 (c_X0_count (t := 0) (by decide) ) (wo_across _ _ _) rfl rfl (zle rfl) ⟨zle rfl, zle rfl⟩ ⟨zle rfl, zle rfl⟩ (q := 65) rfl ?_
    rw [show (xg X a.1 (nI n) g (nI a.2.2)).1 (2 * 0) = nI n from hn]
    refine z_icmp_ge (tgt := 120) dX3_goFrom_65 (by decide) (q := 68) rfl (fun h65 => absurd h65 (zge_f (by omega) (by omega))) (fun h65 => ?_)
    refine z_aload_n (i := 0) dX3_goFrom_68 rfl rfl (q := 69) rfl ?_
    refine z_get dX3_goFrom_69 fX3_14 (wo_nearness _ _ _) rfl (q := 72) rfl ?_
    refine z_iload dX3_goFrom_72 rfl (q := 74) rfl ?_
    refine z_callVF (As := [_]) dX3_goFrom_74 kX3_34 (c_X4_get  (wr_30 _ _ _) (by omega) (by decide)) (wr_30 _ _ _).1 rfl rfl (zle rfl) ⟨zle rfl, zle rfl⟩ ⟨zle rfl, zle rfl⟩ (q := 77) rfl ?_
    refine z_iconst (v := (-1)) dX3_goFrom_77 rfl (q := 78) rfl ?_
    refine z_icmp_ne (tgt := 114) dX3_goFrom_78 (by decide) (q := 81) rfl (fun h78 => ?_) (fun h78 => ?_)
    · refine z_iinc dX3_goFrom_114 rfl rfl (zle rfl) rfl (q := 117) rfl ?_
      refine z_goto (tgt := 59) dX3_goFrom_117 (by decide) ?_
      refine Z.eql (zl2 := [some (.ref 68), some (.int (nI root)), some (.ref 1), some (.ref 6), some (.int d), some (.int (nI st)), some (.int (nI s)), some (.int (nI (i + 1)))]) (by show [_, _, _, _, _, _, _, some (Value.int (nI i + 1))] = _; rw [nI_1]) ?_
      refine ih (i + 1) a g (by omega) ha hg hs2 ?_
      intro g2 hg2
      have h9 := hx g2
      rw [show gIn b s (nI root) i (m + 1) a = gIn b s (nI root) (i + 1) m a by rw [gIn, if_neg (fun hh => h78 hh.1)]] at h9
      exact h9 hg2
    · refine z_aload_n (i := 2) dX3_goFrom_81 rfl rfl (q := 82) rfl ?_
      refine z_aload_n (i := 3) dX3_goFrom_82 rfl rfl (q := 83) rfl ?_
      refine z_iload dX3_goFrom_83 rfl (q := 85) rfl ?_
      refine z_iload dX3_goFrom_85 rfl (q := 87) rfl ?_
      refine z_callSF (As := [_, _, _, _]) dX3_goFrom_87 kX3_59 (c_X3_unitsBetween (k := s) (j := i) (by omega) (by omega)) rfl (zle rfl) ⟨zle rfl, zle rfl⟩ ⟨zle rfl, zle rfl⟩ (q := 90) rfl ?_
      refine z_iload dX3_goFrom_90 rfl (q := 92) rfl ?_
      refine z_icmp_gt (tgt := 114) dX3_goFrom_92 (by decide) (q := 95) rfl (fun h92 => ?_) (fun h92 => ?_)
      · have hlk : ¬ tbl b s i = true := fun h8 => absurd ((hb s i hs (by omega) (fun e => hs2 (by rw [e]; exact h78))).mpr h8) (Int32.not_le.mpr h92)
        refine z_iinc dX3_goFrom_114 rfl rfl (zle rfl) rfl (q := 117) rfl ?_
        refine z_goto (tgt := 59) dX3_goFrom_117 (by decide) ?_
        refine Z.eql (zl2 := [some (.ref 68), some (.int (nI root)), some (.ref 1), some (.ref 6), some (.int d), some (.int (nI st)), some (.int (nI s)), some (.int (nI (i + 1)))]) (by show [_, _, _, _, _, _, _, some (Value.int (nI i + 1))] = _; rw [nI_1]) ?_
        refine ih (i + 1) a g (by omega) ha hg hs2 ?_
        intro g2 hg2
        have h9 := hx g2
        rw [show gIn b s (nI root) i (m + 1) a = gIn b s (nI root) (i + 1) m a by rw [gIn, if_neg (fun hh => hlk (by rw [hh.2]))]] at h9
        exact h9 hg2
      · have hlt := gok_lt ha (show i < n by omega) h78
        have hsi : s ≠ i := fun e => hs2 (by rw [e]; exact h78)
        have hlk : tbl b s i = true := (hb s i hs (by omega) hsi).mp (Int32.not_lt.mp h92)
        refine z_aload_n (i := 0) dX3_goFrom_95 rfl rfl (q := 96) rfl ?_
        refine z_get dX3_goFrom_96 fX3_14 (wo_nearness _ _ _) rfl (q := 99) rfl ?_
        refine z_iload dX3_goFrom_99 rfl (q := 101) rfl ?_
        refine z_iload_n (i := 1) dX3_goFrom_101 rfl rfl (q := 102) rfl ?_
        refine z_callVF (As := [_, _]) dX3_goFrom_102 kX3_52 (c_X4_set  (wr_30 _ _ _) (by omega) (by decide)) (wr_30 _ _ _).1 rfl rfl (zle rfl) ⟨zle rfl, zle rfl⟩ ⟨zle rfl, zle rfl⟩ (q := 105) rfl ?_
        refine Z.eqw (wp_30 _ _ _ _ _) ?_
        refine Z.eqw (w2 := zw (xg X (upd a.1 i (nI root)) (nI n) g (nI a.2.2)) Y O) (by rw [← xg_30 X a.1 (upd a.1 i (nI root)) (nI n) (nI n)]; rfl) ?_
        refine z_aload_n (i := 0) dX3_goFrom_105 rfl rfl (q := 106) rfl ?_
        refine z_get dX3_goFrom_106 fX3_20 (wo_nearness _ _ _) rfl (q := 109) rfl ?_
        refine z_iload dX3_goFrom_109 rfl (q := 111) rfl ?_
        refine z_callVF (As := [_]) dX3_goFrom_111 kX3_45 (c_X4_append' (k := a.2.2) (wr_31 _ _ _) (by first | rfl | exact xg_l31 ..) (by omega) (by decide)) (wr_31 _ _ _).1 rfl rfl (zle rfl) ⟨zle rfl, zle rfl⟩ ⟨zle rfl, zle rfl⟩ (q := 114) rfl ?_
        refine Z.eqw (wp_31 _ _ _ _ _) ?_
        refine Z.eqw (w2 := zw (xg X (upd a.1 i (nI root)) (nI n) (upd g a.2.2 (nI i)) (nI (a.2.2 + 1))) Y O) (by rw [← xg_31 X (upd a.1 i (nI root)) (nI n) g (upd g a.2.2 (nI i)) (nI a.2.2)]; rfl) ?_
        refine z_iinc dX3_goFrom_114 rfl rfl (zle rfl) rfl (q := 117) rfl ?_
        refine z_goto (tgt := 59) dX3_goFrom_117 (by decide) ?_
        refine Z.eql (zl2 := [some (.ref 68), some (.int (nI root)), some (.ref 1), some (.ref 6), some (.int d), some (.int (nI st)), some (.int (nI s)), some (.int (nI (i + 1)))]) (by show [_, _, _, _, _, _, _, some (Value.int (nI i + 1))] = _; rw [nI_1]) ?_
        refine ih (i + 1) (upd a.1 i (nI root), va_up a.2.1 a.2.2 i, a.2.2 + 1) (upd g a.2.2 (nI i)) (by omega) (gok_step ha (by omega) h78 (nI_m1 (by omega))) (fun j hj => ?_) (by show (if s = i then nI root else a.1 s) ≠ -1; split <;> first | exact nI_m1 (by omega) | exact hs2) ?_
        · show (if j = a.2.2 then nI i else g j) = nI (if j = a.2.2 then i else a.2.1 j)
          split
          · rfl
          · exact hg j (by have : j < a.2.2 + 1 := hj; omega)
        · intro g2 hg2
          have h9 := hx g2
          rw [show gIn b s (nI root) i (m + 1) a = gIn b s (nI root) (i + 1) m (upd a.1 i (nI root), va_up a.2.1 a.2.2 i, a.2.2 + 1) by rw [gIn, if_pos ⟨h78, hlk⟩]] at h9
          exact h9 hg2
end
