section
variable {G : zG} {X : zX} {Y : zY} {O : zO}
set_option maxRecDepth 100000 in
set_option maxHeartbeats 4000000 in
theorem gok_0 {n k : Nat} {low : Nat → Int32} (hk : k < n) (hk4 : k < 1000) : gok n (upd low k (nI k), fun _ => k, 1) := ⟨by show 1 ≤ n; omega, fun i _ => ⟨hk, by show (if k = k then nI k else low k) ≠ -1; rw [if_pos rfl]; exact nI_m1 hk4⟩, fun i j h1 h2 => by have : j < 1 := h2; omega⟩
set_option maxRecDepth 100000 in
set_option maxHeartbeats 4000000 in
theorem z_X3_goFrom_27 {n b root : Nat} {d : Int32} (hn : X.1 0 = nI n) (h4 : n ≤ 4) (hb : linked X n d b) (hr : root < n) : ∀ (m i : Nat) (a : gst) (g : Nat → Int32) (sl ol : Option Value), i + m = 4 → gok n a → (∀ j, j < a.2.2 → g j = nI (a.2.1 j)) → Z G mX3_goFrom (zrm 3 0 0) 0 0 27 [some (.ref 68), some (.int (nI root)), some (.ref 1), some (.ref 6), some (.int d), some (.int (nI i)), sl, ol] [] (zw (xg X a.1 (nI n) g (nI a.2.2)) Y O) (fun r w2 => r = .inl none ∧ ∃ (g : Nat → Int32) (c : Int32), w2 = zw (xg X (gOut b n (nI root) i m a).1 (nI n) g c) Y O) := by
  intro m
  induction m with
  | zero =>
    intro i a g sl ol hi ha hg
    have hc : a.2.2 ≤ 4 := Nat.le_trans ha.1 h4
    refine z_iload dX3_goFrom_27 rfl (q := 29) rfl ?_
    refine z_aload_n (i := 0) dX3_goFrom_29 rfl rfl (q := 30) rfl ?_
    refine z_get dX3_goFrom_30 fX3_20 (wo_nearness _ _ _) rfl (q := 33) rfl ?_
    refine z_callVF (As := []) dX3_goFrom_33 kX3_56 (c_X4_length (wr_31 _ _ _)) (wr_31 _ _ _).1 rfl rfl (zle rfl) ⟨zle rfl, zle rfl⟩ ⟨zle rfl, zle rfl⟩ (q := 36) rfl ?_
    rw [show (xg X a.1 (nI n) g (nI a.2.2)).1 31 = nI a.2.2 from rfl]
    refine z_icmp_ge (tgt := 126) dX3_goFrom_36 (by decide) (q := 39) rfl (fun h36 => ?_) (fun h36 => ?_)
    · exact z_vret dX3_goFrom_126 rfl ⟨zle rfl, zle rfl⟩ ⟨rfl, g, _, rfl⟩
    · refine z_iload dX3_goFrom_39 rfl (q := 41) rfl ?_
      refine z_iconst (v := 4) dX3_goFrom_41 rfl (q := 42) rfl ?_
      refine z_icmp_ge (tgt := 126) dX3_goFrom_42 (by decide) (q := 45) rfl (fun h42 => ?_) (fun h42 => absurd (zge_t (N := 4) (by omega)) h42)
      exact z_vret dX3_goFrom_126 rfl ⟨zle rfl, zle rfl⟩ ⟨rfl, g, _, rfl⟩
  | succ m ih =>
    intro i a g sl ol hi ha hg
    have hc : a.2.2 ≤ 4 := Nat.le_trans ha.1 h4
    refine z_iload dX3_goFrom_27 rfl (q := 29) rfl ?_
    refine z_aload_n (i := 0) dX3_goFrom_29 rfl rfl (q := 30) rfl ?_
    refine z_get dX3_goFrom_30 fX3_20 (wo_nearness _ _ _) rfl (q := 33) rfl ?_
    refine z_callVF (As := []) dX3_goFrom_33 kX3_56 (c_X4_length (wr_31 _ _ _)) (wr_31 _ _ _).1 rfl rfl (zle rfl) ⟨zle rfl, zle rfl⟩ ⟨zle rfl, zle rfl⟩ (q := 36) rfl ?_
    rw [show (xg X a.1 (nI n) g (nI a.2.2)).1 31 = nI a.2.2 from rfl]
    refine z_icmp_ge (tgt := 126) dX3_goFrom_36 (by decide) (q := 39) rfl (fun h36 => ?_) (fun h36 => ?_)
    · exact z_vret dX3_goFrom_126 rfl ⟨zle rfl, zle rfl⟩ ⟨rfl, g, _, by rw [show gOut b n (nI root) i (m + 1) a = a from if_neg (fun h9 => absurd h36 (zge_f h9 (by omega)))]⟩
    · refine z_iload dX3_goFrom_39 rfl (q := 41) rfl ?_
      refine z_iconst (v := 4) dX3_goFrom_41 rfl (q := 42) rfl ?_
      refine z_icmp_ge (tgt := 126) dX3_goFrom_42 (by decide) (q := 45) rfl (fun h42 => absurd h42 (zge_f (N := 4) (by omega) (by decide))) (fun h42 => ?_)
      have hic : i < a.2.2 := by
        rcases Nat.lt_or_ge i a.2.2 with h9 | h9
        · exact h9
        · exact absurd (nI_le h9 (by omega)) h36
      refine z_aload_n (i := 0) dX3_goFrom_45 rfl rfl (q := 46) rfl ?_
      refine z_get dX3_goFrom_46 fX3_20 (wo_nearness _ _ _) rfl (q := 49) rfl ?_
      refine z_iload dX3_goFrom_49 rfl (q := 51) rfl ?_
      refine z_callVF (As := [_]) dX3_goFrom_51 kX3_34 (c_X4_get  (wr_31 _ _ _) (by omega) (by decide)) (wr_31 _ _ _).1 rfl rfl (zle rfl) ⟨zle rfl, zle rfl⟩ ⟨zle rfl, zle rfl⟩ (q := 54) rfl ?_
      rw [show (xg X a.1 (nI n) g (nI a.2.2)).2.1 31 i = nI (a.2.1 i) from hg i hic]
      refine z_istore dX3_goFrom_54 (zle rfl) rfl (q := 56) rfl ?_
      refine z_iconst (v := 0) dX3_goFrom_56 rfl (q := 57) rfl ?_
      refine z_istore dX3_goFrom_57 (zle rfl) rfl (q := 59) rfl ?_
      refine z_X3_goFrom_59 hn h4 hb hr (ha.2.1 i hic).1 n 0 a g (by omega) ha hg (ha.2.1 i hic).2 (fun g2 hg2 => ?_)
      refine z_iinc dX3_goFrom_120 rfl rfl (zle rfl) rfl (q := 123) rfl ?_
      refine z_goto (tgt := 27) dX3_goFrom_123 (by decide) ?_
      refine Z.eql (zl2 := [some (.ref 68), some (.int (nI root)), some (.ref 1), some (.ref 6), some (.int d), some (.int (nI (i + 1))), some (.int (nI (a.2.1 i))), some (.int (nI n))]) (by show [_, _, _, _, _, some (Value.int (nI i + 1)), _, _] = _; rw [nI_1]) ?_
      rw [show gOut b n (nI root) i (m + 1) a = gOut b n (nI root) (i + 1) m (gIn b (a.2.1 i) (nI root) 0 n a) from if_pos hic]
      exact ih (i + 1) _ g2 _ _ (by omega) (gok_In (nI_m1 (by omega)) n 0 a (by omega) ha) hg2
set_option maxRecDepth 100000 in
set_option maxHeartbeats 4000000 in
theorem c_X3_goFrom {n b root : Nat} {d : Int32} (hn : X.1 0 = nI n) (h4 : n ≤ 4) (hb : linked X n d b) (hr : root < n) (low g : Nat → Int32) (c : Int32) : ZM G mX3_goFrom 3 0 0 [.ref 68, .int (nI root), .ref 1, .ref 6, .int d] (zw (xg X low (nI n) g c) Y O) (fun r w2 => r = .inl none ∧ ∃ (g : Nat → Int32) (c : Int32), w2 = zw (xg X (gFrom b n root low).1 (nI n) g c) Y O) := by
  refine ZM.go pX3 rfl rfl (zle rfl) (zl := [some (.ref 68), some (.int (nI root)), some (.ref 1), some (.ref 6), some (.int d), none, none, none]) rfl ?_
  refine z_aload_n (i := 0) dX3_goFrom_0 rfl rfl (q := 1) rfl ?_
  refine z_get dX3_goFrom_1 fX3_20 (wo_nearness _ _ _) rfl (q := 4) rfl ?_
  refine z_callVF (As := []) dX3_goFrom_4 kX3_38 (c_X4_clear (wr_31 _ _ _)) (wr_31 _ _ _).1 rfl rfl (zle rfl) ⟨zle rfl, zle rfl⟩ ⟨zle rfl, zle rfl⟩ (q := 7) rfl ?_
  refine Z.eqw (wp_31 _ _ _ _ _) ?_
  refine Z.eqw (w2 := zw (xg X low (nI n) g 0) Y O) (by rw [← xg_31 X low (nI n) g g c]; rfl) ?_
  refine z_aload_n (i := 0) dX3_goFrom_7 rfl rfl (q := 8) rfl ?_
  refine z_get dX3_goFrom_8 fX3_20 (wo_nearness _ _ _) rfl (q := 11) rfl ?_
  refine z_iload_n (i := 1) dX3_goFrom_11 rfl rfl (q := 12) rfl ?_
  refine z_callVF (As := [_]) dX3_goFrom_12 kX3_45 (c_X4_append' (k := 0) (wr_31 _ _ _) rfl (by omega) (by decide)) (wr_31 _ _ _).1 rfl rfl (zle rfl) ⟨zle rfl, zle rfl⟩ ⟨zle rfl, zle rfl⟩ (q := 15) rfl ?_
  refine Z.eqw (wp_31 _ _ _ _ _) ?_
  refine Z.eqw (w2 := zw (xg X low (nI n) (upd g 0 (nI root)) (nI 1)) Y O) (by rw [← xg_31 X low (nI n) g (upd g 0 (nI root)) 0]; rfl) ?_
  refine z_aload_n (i := 0) dX3_goFrom_15 rfl rfl (q := 16) rfl ?_
  refine z_get dX3_goFrom_16 fX3_14 (wo_nearness _ _ _) rfl (q := 19) rfl ?_
  refine z_iload_n (i := 1) dX3_goFrom_19 rfl rfl (q := 20) rfl ?_
  refine z_iload_n (i := 1) dX3_goFrom_20 rfl rfl (q := 21) rfl ?_
  refine z_callVF (As := [_, _]) dX3_goFrom_21 kX3_52 (c_X4_set  (wr_30 _ _ _) (by omega) (by decide)) (wr_30 _ _ _).1 rfl rfl (zle rfl) ⟨zle rfl, zle rfl⟩ ⟨zle rfl, zle rfl⟩ (q := 24) rfl ?_
  refine Z.eqw (wp_30 _ _ _ _ _) ?_
  refine z_iconst (v := 0) dX3_goFrom_24 rfl (q := 25) rfl ?_
  refine z_istore dX3_goFrom_25 (zle rfl) rfl (q := 27) rfl ?_
  refine Z.eqw (w2 := zw (xg X (upd low root (nI root)) (nI n) (upd g 0 (nI root)) (nI 1)) Y O) (by rw [← xg_31 X (upd low root (nI root)) (nI n) g (upd g 0 (nI root)) c, ← xg_30 X low (upd low root (nI root)) (nI n) (nI n)]; rfl) ?_
  exact z_X3_goFrom_27 hn h4 hb hr 4 0 (upd low root (nI root), fun _ => root, 1) _ _ _ (by omega) (gok_0 hr (by omega)) (fun j hj => by have h9 : j < 1 := hj; rw [show j = 0 by omega]; rfl)
/- filled from i on with v -/
set_option maxRecDepth 100000 in
set_option maxHeartbeats 4000000 in
def gfill (v : Nat → Int32) : Nat → Nat → (Nat → Int32) → (Nat → Int32)
  | _, 0, f => f
  | i, m + 1, f => gfill v (i + 1) m (upd f i (v i))
set_option maxRecDepth 100000 in
set_option maxHeartbeats 4000000 in
theorem z_X3_countByGoing_39 {n b : Nat} {d : Int32} (hn : X.1 0 = nI n) (h4 : n ≤ 4) (hb : linked X n d b) : ∀ (m i : Nat) (low g : Nat → Int32) (c : Int32) (cnt : Nat), i + m = n → Z G mX3_countByGoing (zrm 4 0 0) 0 0 39 [some (.ref 68), some (.ref 1), some (.ref 6), some (.int d), some (.int (nI cnt)), some (.int (nI i))] [] (zw (xg X low (nI n) g c) Y O) (fun r w2 => r = .inl (some (.int (nI (gGo b n i m low cnt).2))) ∧ ∃ (g : Nat → Int32) (c : Int32), w2 = zw (xg X (gGo b n i m low cnt).1 (nI n) g c) Y O) := by
  intro m
  induction m with
  | zero =>
    intro i low g c cnt hi
    refine z_iload dX3_countByGoing_39 rfl (q := 41) rfl ?_
    refine z_aload_n (i := 1) dX3_countByGoing_41 rfl rfl (q := 42) rfl ?_
    refine z_callVF (As := []) dX3_countByGoing_42 kX3_41 (c_X0_count (t := 0) (by decide) ) (wo_across _ _ _) rfl rfl (zle rfl) ⟨zle rfl, zle rfl⟩ ⟨zle rfl, zle rfl⟩ (q := 45) rfl ?_
    rw [show (xg X low (nI n) g c).1 (2 * 0) = nI n from hn]
    refine z_icmp_ge (tgt := 79) dX3_countByGoing_45 (by decide) (q := 48) rfl (fun h45 => ?_) (fun h45 => absurd (zge_t (by omega)) h45)
    refine z_iload dX3_countByGoing_79 rfl (q := 81) rfl ?_
    exact z_iret dX3_countByGoing_81 rfl ⟨zle rfl, zle rfl⟩ ⟨rfl, g, c, rfl⟩
  | succ m ih =>
    intro i low g c cnt hi
    refine z_iload dX3_countByGoing_39 rfl (q := 41) rfl ?_
    refine z_aload_n (i := 1) dX3_countByGoing_41 rfl rfl (q := 42) rfl ?_
    refine z_callVF (As := []) dX3_countByGoing_42 kX3_41 (c_X0_count (t := 0) (by decide) ) (wo_across _ _ _) rfl rfl (zle rfl) ⟨zle rfl, zle rfl⟩ ⟨zle rfl, zle rfl⟩ (q := 45) rfl ?_
    rw [show (xg X low (nI n) g c).1 (2 * 0) = nI n from hn]
    refine z_icmp_ge (tgt := 79) dX3_countByGoing_45 (by decide) (q := 48) rfl (fun h45 => absurd h45 (zge_f (by omega) (by omega))) (fun h45 => ?_)
    refine z_aload_n (i := 0) dX3_countByGoing_48 rfl rfl (q := 49) rfl ?_
    refine z_get dX3_countByGoing_49 fX3_14 (wo_nearness _ _ _) rfl (q := 52) rfl ?_
    refine z_iload dX3_countByGoing_52 rfl (q := 54) rfl ?_
    refine z_callVF (As := [_]) dX3_countByGoing_54 kX3_34 (c_X4_get  (wr_30 _ _ _) (by omega) (by decide)) (wr_30 _ _ _).1 rfl rfl (zle rfl) ⟨zle rfl, zle rfl⟩ ⟨zle rfl, zle rfl⟩ (q := 57) rfl ?_
    refine z_iconst (v := (-1)) dX3_countByGoing_57 rfl (q := 58) rfl ?_
    refine z_icmp_ne (tgt := 73) dX3_countByGoing_58 (by decide) (q := 61) rfl (fun h58 => ?_) (fun h58 => ?_)
    · refine z_iinc dX3_countByGoing_73 rfl rfl (zle rfl) rfl (q := 76) rfl ?_
      refine z_goto (tgt := 39) dX3_countByGoing_76 (by decide) ?_
      refine Z.eql (zl2 := [some (.ref 68), some (.ref 1), some (.ref 6), some (.int d), some (.int (nI (cnt))), some (.int (nI (i + 1)))]) (by show [_, _, _, _, _, some (Value.int (nI i + 1))] = _; rw [nI_1]) ?_
      rw [show gGo b n i (m + 1) low cnt = gGo b n (i + 1) m low cnt from if_neg h58]
      exact ih (i + 1) low g c cnt (by omega)
    · refine z_aload_n (i := 0) dX3_countByGoing_61 rfl rfl (q := 62) rfl ?_
      refine z_iload dX3_countByGoing_62 rfl (q := 64) rfl ?_
      refine z_aload_n (i := 1) dX3_countByGoing_64 rfl rfl (q := 65) rfl ?_
      refine z_aload_n (i := 2) dX3_countByGoing_65 rfl rfl (q := 66) rfl ?_
      refine z_iload_n (i := 3) dX3_countByGoing_66 rfl rfl (q := 67) rfl ?_
      refine z_callV (As := [_, _, _, _]) dX3_countByGoing_67 kX3_48 (c_X3_goFrom hn h4 hb (root := i) (by omega) low g c) (wo_nearness _ _ _) rfl rfl (zle rfl) ⟨zle rfl, zle rfl⟩ ⟨zle rfl, zle rfl⟩ (q := 70) rfl (fun rv w2 hw2 => ?_) (fun E w2 h9 => by cases h9.1)
      obtain ⟨h9, g2, c2, rfl⟩ := hw2
      cases h9
      refine z_iinc dX3_countByGoing_70 rfl rfl (zle rfl) rfl (q := 73) rfl ?_
      refine z_iinc dX3_countByGoing_73 rfl rfl (zle rfl) rfl (q := 76) rfl ?_
      refine z_goto (tgt := 39) dX3_countByGoing_76 (by decide) ?_
      refine Z.eql (zl2 := [some (.ref 68), some (.ref 1), some (.ref 6), some (.int d), some (.int (nI (cnt + 1))), some (.int (nI (i + 1)))]) (by show [_, _, _, _, some (Value.int (nI cnt + 1)), some (Value.int (nI i + 1))] = _; rw [nI_1, nI_1]) ?_
      rw [show gGo b n i (m + 1) low cnt = gGo b n (i + 1) m (gFrom b n i low).1 (cnt + 1) from if_pos h58]
      exact ih (i + 1) _ g2 c2 (cnt + 1) (by omega)
set_option maxRecDepth 100000 in
set_option maxHeartbeats 4000000 in
theorem z_X3_countByGoing_10 {n b : Nat} {d : Int32} (hn : X.1 0 = nI n) (h4 : n ≤ 4) (hb : linked X n d b) : ∀ (m i : Nat) (low g : Nat → Int32) (c : Int32) (gl : Option Value), i + m = n → Z G mX3_countByGoing (zrm 4 0 0) 0 0 10 [some (.ref 68), some (.ref 1), some (.ref 6), some (.int d), some (.int (nI i)), gl] [] (zw (xg X low (nI i) g c) Y O) (fun r w2 => r = .inl (some (.int (nI (gGo b n 0 n (gfill (fun _ => -1) i m low) 0).2))) ∧ ∃ (g : Nat → Int32) (c : Int32), w2 = zw (xg X (gGo b n 0 n (gfill (fun _ => -1) i m low) 0).1 (nI n) g c) Y O) := by
  intro m
  induction m with
  | zero =>
    intro i low g c gl hi
    have hin : n = i := by omega
    subst hin
    refine z_iload dX3_countByGoing_10 rfl (q := 12) rfl ?_
    refine z_aload_n (i := 1) dX3_countByGoing_12 rfl rfl (q := 13) rfl ?_
    refine z_callVF (As := []) dX3_countByGoing_13 kX3_41 (c_X0_count (t := 0) (by decide) ) (wo_across _ _ _) rfl rfl (zle rfl) ⟨zle rfl, zle rfl⟩ ⟨zle rfl, zle rfl⟩ (q := 16) rfl ?_
    rw [show (xg X low (nI n) g c).1 (2 * 0) = nI n from hn]
    refine z_icmp_ge (tgt := 33) dX3_countByGoing_16 (by decide) (q := 19) rfl (fun h16 => ?_) (fun h16 => absurd (zge_t (by omega)) h16)
    refine z_iconst (v := 0) dX3_countByGoing_33 rfl (q := 34) rfl ?_
    refine z_istore dX3_countByGoing_34 (zle rfl) rfl (q := 36) rfl ?_
    refine z_iconst (v := 0) dX3_countByGoing_36 rfl (q := 37) rfl ?_
    refine z_istore dX3_countByGoing_37 (zle rfl) rfl (q := 39) rfl ?_
    exact z_X3_countByGoing_39 hn h4 hb n 0 low g c 0 (by omega)
  | succ m ih =>
    intro i low g c gl hi
    refine z_iload dX3_countByGoing_10 rfl (q := 12) rfl ?_
    refine z_aload_n (i := 1) dX3_countByGoing_12 rfl rfl (q := 13) rfl ?_
    refine z_callVF (As := []) dX3_countByGoing_13 kX3_41 (c_X0_count (t := 0) (by decide) ) (wo_across _ _ _) rfl rfl (zle rfl) ⟨zle rfl, zle rfl⟩ ⟨zle rfl, zle rfl⟩ (q := 16) rfl ?_
    rw [show (xg X low (nI i) g c).1 (2 * 0) = nI n from hn]
    refine z_icmp_ge (tgt := 33) dX3_countByGoing_16 (by decide) (q := 19) rfl (fun h16 => absurd h16 (zge_f (by omega) (by omega))) (fun h16 => ?_)
    refine z_aload_n (i := 0) dX3_countByGoing_19 rfl rfl (q := 20) rfl ?_
    refine z_get dX3_countByGoing_20 fX3_14 (wo_nearness _ _ _) rfl (q := 23) rfl ?_
    refine z_iconst (v := (-1)) dX3_countByGoing_23 rfl (q := 24) rfl ?_
    refine z_callVF (As := [_]) dX3_countByGoing_24 kX3_45 (c_X4_append' (k := i) (wr_30 _ _ _) rfl (by omega) (by decide)) (wr_30 _ _ _).1 rfl rfl (zle rfl) ⟨zle rfl, zle rfl⟩ ⟨zle rfl, zle rfl⟩ (q := 27) rfl ?_
    refine Z.eqw (wp_30 _ _ _ _ _) ?_
    refine Z.eqw (w2 := zw (xg X (upd low i (-1)) (nI (i + 1)) g c) Y O) (by rw [← xg_30 X low (upd low i (-1)) (nI i)]; rfl) ?_
    refine z_iinc dX3_countByGoing_27 rfl rfl (zle rfl) rfl (q := 30) rfl ?_
    refine z_goto (tgt := 10) dX3_countByGoing_30 (by decide) ?_
    refine Z.eql (zl2 := [some (.ref 68), some (.ref 1), some (.ref 6), some (.int d), some (.int (nI (i + 1))), gl]) (by show [_, _, _, _, some (Value.int (nI i + 1)), _] = _; rw [nI_1]) ?_
    exact ih (i + 1) (upd low i (-1)) g c gl (by omega)
set_option maxRecDepth 100000 in
set_option maxHeartbeats 4000000 in
theorem c_X3_countByGoing {n b : Nat} {d : Int32} (hn : X.1 0 = nI n) (h4 : n ≤ 4) (hb : linked X n d b) : ZM G mX3_countByGoing 4 0 0 [.ref 68, .ref 1, .ref 6, .int d] (zw X Y O) (fun r w2 => r = .inl (some (.int (nI (gGo b n 0 n (gfill (fun _ => -1) 0 n (X.2.1 30)) 0).2))) ∧ ∃ (g : Nat → Int32) (c : Int32), w2 = zw (xg X (gGo b n 0 n (gfill (fun _ => -1) 0 n (X.2.1 30)) 0).1 (nI n) g c) Y O) := by
  refine ZM.go pX3 rfl rfl (zle rfl) (zl := [some (.ref 68), some (.ref 1), some (.ref 6), some (.int d), none, none]) rfl ?_
  refine z_aload_n (i := 0) dX3_countByGoing_0 rfl rfl (q := 1) rfl ?_
  refine z_get dX3_countByGoing_1 fX3_14 (wo_nearness _ _ _) rfl (q := 4) rfl ?_
  refine z_callVF (As := []) dX3_countByGoing_4 kX3_38 (c_X4_clear (wr_30 _ _ _)) (wr_30 _ _ _).1 rfl rfl (zle rfl) ⟨zle rfl, zle rfl⟩ ⟨zle rfl, zle rfl⟩ (q := 7) rfl ?_
  refine Z.eqw (wp_30 _ _ _ _ _) ?_
  refine Z.eqw (w2 := zw (xg X (X.2.1 30) (nI 0) (X.2.1 31) (X.1 31)) Y O) (by rw [← xg_30 X (X.2.1 30) (X.2.1 30) (X.1 30) (nI 0), xg_0]; rfl) ?_
  refine z_iconst (v := 0) dX3_countByGoing_7 rfl (q := 8) rfl ?_
  refine z_istore dX3_countByGoing_8 (zle rfl) rfl (q := 10) rfl ?_
  exact z_X3_countByGoing_10 hn h4 hb n 0 _ _ _ _ (by omega)
end
