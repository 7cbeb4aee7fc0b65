section
variable {G : zG} {X : zX} {Y : zY} {O : zO}
set_option maxRecDepth 100000 in
set_option maxHeartbeats 4000000 in
def gjoin (u v lo : Int32) : Nat → Nat → (Nat → Int32) → (Nat → Int32)
  | _, 0, f => f
  | i, m + 1, f => gjoin u v lo (i + 1) m (if f i = u ∨ f i = v then upd f i lo else f)
set_option maxRecDepth 100000 in
set_option maxHeartbeats 4000000 in
def gJin (b n k : Nat) : Nat → Nat → (Nat → Int32) × Int32 → (Nat → Int32) × Int32
  | _, 0, a => a
  | i, m + 1, a => gJin b n k (i + 1) m (if ¬ a.1 i = a.1 k ∧ tbl b k i = true then (gjoin (a.1 k) (a.1 i) (imin (a.1 k) (a.1 i)) 0 n a.1, a.2 + (-1)) else a)
set_option maxRecDepth 100000 in
set_option maxHeartbeats 4000000 in
def gJout (b n : Nat) : Nat → Nat → (Nat → Int32) × Int32 → (Nat → Int32) × Int32
  | _, 0, a => a
  | k, m + 1, a => gJout b n (k + 1) m (gJin b n k 0 k a)
set_option maxRecDepth 100000 in
set_option maxHeartbeats 4000000 in
theorem z_X3_join_9 {n : Nat} {u v : Int32} (h4 : n ≤ 4) {g : Nat → Int32} {c : Int32} : ∀ (m i : Nat) (low : Nat → Int32), i + m = n → Z G mX3_join (zrm 1 0 0) 0 0 9 [some (.ref 68), some (.int u), some (.int v), some (.int (imin u v)), some (.int (nI i))] [] (zw (xg X low (nI n) g c) Y O) (zEq none (zw (xg X (gjoin u v (imin u v) i m low) (nI n) g c) Y O)) := by
  intro m
  induction m with
  | zero =>
    intro i low hi
    refine z_iload dX3_join_9 rfl (q := 11) rfl ?_
    refine z_aload_n (i := 0) dX3_join_11 rfl rfl (q := 12) rfl ?_
    refine z_get dX3_join_12 fX3_14 (wo_nearness _ _ _) rfl (q := 15) rfl ?_
    refine z_callVF (As := []) dX3_join_15 kX3_56 (c_X4_length (wr_30 _ _ _)) (wr_30 _ _ _).1 rfl rfl (zle rfl) ⟨zle rfl, zle rfl⟩ ⟨zle rfl, zle rfl⟩ (q := 18) rfl ?_
    rw [show (xg X low (nI n) g c).1 30 = nI n from rfl]
    refine z_icmp_ge (tgt := 63) dX3_join_18 (by decide) (q := 21) rfl (fun h18 => ?_) (fun h18 => absurd (zge_t (by omega)) h18)
    exact z_vret dX3_join_63 rfl ⟨zle rfl, zle rfl⟩ ⟨rfl, rfl⟩
  | succ m ih =>
    intro i low hi
    refine z_iload dX3_join_9 rfl (q := 11) rfl ?_
    refine z_aload_n (i := 0) dX3_join_11 rfl rfl (q := 12) rfl ?_
    refine z_get dX3_join_12 fX3_14 (wo_nearness _ _ _) rfl (q := 15) rfl ?_
    refine z_callVF (As := []) dX3_join_15 kX3_56 (c_X4_length (wr_30 _ _ _)) (wr_30 _ _ _).1 rfl rfl (zle rfl) ⟨zle rfl, zle rfl⟩ ⟨zle rfl, zle rfl⟩ (q := 18) rfl ?_
    rw [show (xg X low (nI n) g c).1 30 = nI n from rfl]
    refine z_icmp_ge (tgt := 63) dX3_join_18 (by decide) (q := 21) rfl (fun h18 => absurd h18 (zge_f (by omega) (by omega))) (fun h18 => ?_)
    refine z_aload_n (i := 0) dX3_join_21 rfl rfl (q := 22) rfl ?_
    refine z_get dX3_join_22 fX3_14 (wo_nearness _ _ _) rfl (q := 25) rfl ?_
    refine z_iload dX3_join_25 rfl (q := 27) rfl ?_
    refine z_callVF (As := [_]) dX3_join_27 kX3_34 (c_X4_get  (wr_30 _ _ _) (by omega) (by decide)) (wr_30 _ _ _).1 rfl rfl (zle rfl) ⟨zle rfl, zle rfl⟩ ⟨zle rfl, zle rfl⟩ (q := 30) rfl ?_
    refine z_iload_n (i := 1) dX3_join_30 rfl rfl (q := 31) rfl ?_
    refine z_icmp_eq (tgt := 47) dX3_join_31 (by decide) (q := 34) rfl (fun h31 => ?_) (fun h31 => ?_)
    · refine z_aload_n (i := 0) dX3_join_47 rfl rfl (q := 48) rfl ?_
      refine z_get dX3_join_48 fX3_14 (wo_nearness _ _ _) rfl (q := 51) rfl ?_
      refine z_iload dX3_join_51 rfl (q := 53) rfl ?_
      refine z_iload_n (i := 3) dX3_join_53 rfl rfl (q := 54) rfl ?_
      refine z_callVF (As := [_, _]) dX3_join_54 kX3_52 (c_X4_set  (wr_30 _ _ _) (by omega) (by decide)) (wr_30 _ _ _).1 rfl rfl (zle rfl) ⟨zle rfl, zle rfl⟩ ⟨zle rfl, zle rfl⟩ (q := 57) rfl ?_
      refine Z.eqw (wp_30 _ _ _ _ _) ?_
      refine Z.eqw (w2 := zw (xg X (upd low i (imin u v)) (nI n) g c) Y O) (by rw [← xg_30 X low (upd low i (imin u v)) (nI n) (nI n)]; rfl) ?_
      refine z_iinc dX3_join_57 rfl rfl (zle rfl) rfl (q := 60) rfl ?_
      refine z_goto (tgt := 9) dX3_join_60 (by decide) ?_
      refine Z.eql (zl2 := [some (.ref 68), some (.int u), some (.int v), some (.int (imin u v)), some (.int (nI (i + 1)))]) (by show [_, _, _, _, some (Value.int (nI i + 1))] = _; rw [nI_1]) ?_
      rw [show gjoin u v (imin u v) i (m + 1) low = gjoin u v (imin u v) (i + 1) m (upd low i (imin u v)) from congrArg _ (if_pos (show low i = u ∨ low i = v from Or.inl h31))]
      exact ih (i + 1) _ (by omega)
    · refine z_aload_n (i := 0) dX3_join_34 rfl rfl (q := 35) rfl ?_
      refine z_get dX3_join_35 fX3_14 (wo_nearness _ _ _) rfl (q := 38) rfl ?_
      refine z_iload dX3_join_38 rfl (q := 40) rfl ?_
      refine z_callVF (As := [_]) dX3_join_40 kX3_34 (c_X4_get  (wr_30 _ _ _) (by omega) (by decide)) (wr_30 _ _ _).1 rfl rfl (zle rfl) ⟨zle rfl, zle rfl⟩ ⟨zle rfl, zle rfl⟩ (q := 43) rfl ?_
      refine z_iload_n (i := 2) dX3_join_43 rfl rfl (q := 44) rfl ?_
      refine z_icmp_ne (tgt := 57) dX3_join_44 (by decide) (q := 47) rfl (fun h44 => ?_) (fun h44 => ?_)
      · refine z_iinc dX3_join_57 rfl rfl (zle rfl) rfl (q := 60) rfl ?_
        refine z_goto (tgt := 9) dX3_join_60 (by decide) ?_
        refine Z.eql (zl2 := [some (.ref 68), some (.int u), some (.int v), some (.int (imin u v)), some (.int (nI (i + 1)))]) (by show [_, _, _, _, some (Value.int (nI i + 1))] = _; rw [nI_1]) ?_
        rw [show gjoin u v (imin u v) i (m + 1) low = gjoin u v (imin u v) (i + 1) m low by rw [gjoin, if_neg (fun hh => hh.elim h31 h44)]]
        exact ih (i + 1) low (by omega)
      · refine z_aload_n (i := 0) dX3_join_47 rfl rfl (q := 48) rfl ?_
        refine z_get dX3_join_48 fX3_14 (wo_nearness _ _ _) rfl (q := 51) rfl ?_
        refine z_iload dX3_join_51 rfl (q := 53) rfl ?_
        refine z_iload_n (i := 3) dX3_join_53 rfl rfl (q := 54) rfl ?_
        refine z_callVF (As := [_, _]) dX3_join_54 kX3_52 (c_X4_set  (wr_30 _ _ _) (by omega) (by decide)) (wr_30 _ _ _).1 rfl rfl (zle rfl) ⟨zle rfl, zle rfl⟩ ⟨zle rfl, zle rfl⟩ (q := 57) rfl ?_
        refine Z.eqw (wp_30 _ _ _ _ _) ?_
        refine Z.eqw (w2 := zw (xg X (upd low i (imin u v)) (nI n) g c) Y O) (by rw [← xg_30 X low (upd low i (imin u v)) (nI n) (nI n)]; rfl) ?_
        refine z_iinc dX3_join_57 rfl rfl (zle rfl) rfl (q := 60) rfl ?_
        refine z_goto (tgt := 9) dX3_join_60 (by decide) ?_
        refine Z.eql (zl2 := [some (.ref 68), some (.int u), some (.int v), some (.int (imin u v)), some (.int (nI (i + 1)))]) (by show [_, _, _, _, some (Value.int (nI i + 1))] = _; rw [nI_1]) ?_
        rw [show gjoin u v (imin u v) i (m + 1) low = gjoin u v (imin u v) (i + 1) m (upd low i (imin u v)) from congrArg _ (if_pos (show low i = u ∨ low i = v from Or.inr h44))]
        exact ih (i + 1) _ (by omega)
set_option maxRecDepth 100000 in
set_option maxHeartbeats 4000000 in
theorem c_X3_join {n : Nat} {u v : Int32} (h4 : n ≤ 4) (low g : Nat → Int32) (c : Int32) : ZM G mX3_join 1 0 0 [.ref 68, .int u, .int v] (zw (xg X low (nI n) g c) Y O) (zEq none (zw (xg X (gjoin u v (imin u v) 0 n low) (nI n) g c) Y O)) := by
  refine ZM.go pX3 rfl rfl (zle rfl) (zl := [some (.ref 68), some (.int u), some (.int v), none, none]) rfl ?_
  refine z_iload_n (i := 1) dX3_join_0 rfl rfl (q := 1) rfl ?_
  refine z_iload_n (i := 2) dX3_join_1 rfl rfl (q := 2) rfl ?_
  refine z_min dX3_join_2 kX3_66 (zle rfl) ⟨zle rfl, zle rfl, zle rfl, zle rfl⟩ (q := 5) rfl ?_
  refine z_istore_n (i := 3) dX3_join_5 rfl (zle rfl) rfl (q := 6) rfl ?_
  refine z_iconst (v := 0) dX3_join_6 rfl (q := 7) rfl ?_
  refine z_istore dX3_join_7 (zle rfl) rfl (q := 9) rfl ?_
  exact z_X3_join_9 h4 n 0 low (by omega)
set_option maxRecDepth 100000 in
set_option maxHeartbeats 4000000 in
theorem z_X3_countByJoining_55 {n b : Nat} {d : Int32} (hn : X.1 0 = nI n) (h4 : n ≤ 4) (hb : linked X n d b) {k : Nat} {g : Nat → Int32} {c : Int32} {P : zRes → zWorld → Prop} (hk : k < n) : ∀ (m i : Nat) (a : (Nat → Int32) × Int32), i + m = k → Z G mX3_countByJoining (zrm 3 0 0) 0 0 127 [some (.ref 68), some (.ref 1), some (.ref 6), some (.int d), some (.int (gJin b n k i m a).2), some (.int (nI k)), some (.int (nI k))] [] (zw (xg X (gJin b n k i m a).1 (nI n) g c) Y O) P → Z G mX3_countByJoining (zrm 3 0 0) 0 0 55 [some (.ref 68), some (.ref 1), some (.ref 6), some (.int d), some (.int a.2), some (.int (nI k)), some (.int (nI i))] [] (zw (xg X a.1 (nI n) g c) Y O) (P) := by
  intro m
  induction m with
  | zero =>
    intro i a hi hx
    have hin : k = i := by omega
    subst hin
    simp only [gJin] at hx
    refine z_iload dX3_countByJoining_55 rfl (q := 57) rfl ?_
    refine z_iload dX3_countByJoining_57 rfl (q := 59) rfl ?_
    refine z_icmp_ge (tgt := 127) dX3_countByJoining_59 (by decide) (q := 62) rfl (fun h59 => ?_) (fun h59 => absurd (zge_t (by omega)) h59)
    exact hx
  | succ m ih =>
    intro i a hi hx
    refine z_iload dX3_countByJoining_55 rfl (q := 57) rfl ?_
    refine z_iload dX3_countByJoining_57 rfl (q := 59) rfl ?_
    refine z_icmp_ge (tgt := 127) dX3_countByJoining_59 (by decide) (q := 62) rfl (fun h59 => absurd h59 (zge_f (by omega) (by omega))) (fun h59 => ?_)
    refine z_aload_n (i := 0) dX3_countByJoining_62 rfl rfl (q := 63) rfl ?_
    refine z_get dX3_countByJoining_63 fX3_14 (wo_nearness _ _ _) rfl (q := 66) rfl ?_
    refine z_iload dX3_countByJoining_66 rfl (q := 68) rfl ?_
    refine z_callVF (As := [_]) dX3_countByJoining_68 kX3_34 (c_X4_get  (wr_30 _ _ _) (by omega) (by decide)) (wr_30 _ _ _).1 rfl rfl (zle rfl) ⟨zle rfl, zle rfl⟩ ⟨zle rfl, zle rfl⟩ (q := 71) rfl ?_
    refine z_aload_n (i := 0) dX3_countByJoining_71 rfl rfl (q := 72) rfl ?_
    refine z_get dX3_countByJoining_72 fX3_14 (wo_nearness _ _ _) rfl (q := 75) rfl ?_
    refine z_iload dX3_countByJoining_75 rfl (q := 77) rfl ?_
    refine z_callVF (As := [_]) dX3_countByJoining_77 kX3_34 (c_X4_get  (wr_30 _ _ _) (by omega) (by decide)) (wr_30 _ _ _).1 rfl rfl (zle rfl) ⟨zle rfl, zle rfl⟩ ⟨zle rfl, zle rfl⟩ (q := 80) rfl ?_
    refine z_icmp_eq (tgt := 121) dX3_countByJoining_80 (by decide) (q := 83) rfl (fun h80 => ?_) (fun h80 => ?_)
    · refine z_iinc dX3_countByJoining_121 rfl rfl (zle rfl) rfl (q := 124) rfl ?_
      refine z_goto (tgt := 55) dX3_countByJoining_124 (by decide) ?_
      refine Z.eql (zl2 := [some (.ref 68), some (.ref 1), some (.ref 6), some (.int d), some (.int a.2), some (.int (nI k)), some (.int (nI (i + 1)))]) (by show [_, _, _, _, _, _, some (Value.int (nI i + 1))] = _; rw [nI_1]) ?_
      rw [show gJin b n k i (m + 1) a = gJin b n k (i + 1) m a by rw [gJin, if_neg (fun hh => hh.1 h80)]] at hx
      exact ih (i + 1) a (by omega) hx
    · refine z_aload_n (i := 1) dX3_countByJoining_83 rfl rfl (q := 84) rfl ?_
      refine z_aload_n (i := 2) dX3_countByJoining_84 rfl rfl (q := 85) rfl ?_
      refine z_iload dX3_countByJoining_85 rfl (q := 87) rfl ?_
      refine z_iload dX3_countByJoining_87 rfl (q := 89) rfl ?_
      refine z_callSF (As := [_, _, _, _]) dX3_countByJoining_89 kX3_59 (c_X3_unitsBetween (k := k) (j := i) (by omega) (by omega)) rfl (zle rfl) ⟨zle rfl, zle rfl⟩ ⟨zle rfl, zle rfl⟩ (q := 92) rfl ?_
      refine z_iload_n (i := 3) dX3_countByJoining_92 rfl rfl (q := 93) rfl ?_
      refine z_icmp_gt (tgt := 121) dX3_countByJoining_93 (by decide) (q := 96) rfl (fun h93 => ?_) (fun h93 => ?_)
      · refine z_iinc dX3_countByJoining_121 rfl rfl (zle rfl) rfl (q := 124) rfl ?_
        refine z_goto (tgt := 55) dX3_countByJoining_124 (by decide) ?_
        refine Z.eql (zl2 := [some (.ref 68), some (.ref 1), some (.ref 6), some (.int d), some (.int a.2), some (.int (nI k)), some (.int (nI (i + 1)))]) (by show [_, _, _, _, _, _, some (Value.int (nI i + 1))] = _; rw [nI_1]) ?_
        rw [show gJin b n k i (m + 1) a = gJin b n k (i + 1) m a by rw [gJin, if_neg (fun hh => absurd ((hb k i hk (by omega) (by omega)).mpr hh.2) (Int32.not_le.mpr h93))]] at hx
        exact ih (i + 1) a (by omega) hx
      · refine z_aload_n (i := 0) dX3_countByJoining_96 rfl rfl (q := 97) rfl ?_
        refine z_aload_n (i := 0) dX3_countByJoining_97 rfl rfl (q := 98) rfl ?_
        refine z_get dX3_countByJoining_98 fX3_14 (wo_nearness _ _ _) rfl (q := 101) rfl ?_
        refine z_iload dX3_countByJoining_101 rfl (q := 103) rfl ?_
        refine z_callVF (As := [_]) dX3_countByJoining_103 kX3_34 (c_X4_get  (wr_30 _ _ _) (by omega) (by decide)) (wr_30 _ _ _).1 rfl rfl (zle rfl) ⟨zle rfl, zle rfl⟩ ⟨zle rfl, zle rfl⟩ (q := 106) rfl ?_
        refine z_aload_n (i := 0) dX3_countByJoining_106 rfl rfl (q := 107) rfl ?_
        refine z_get dX3_countByJoining_107 fX3_14 (wo_nearness _ _ _) rfl (q := 110) rfl ?_
        refine z_iload dX3_countByJoining_110 rfl (q := 112) rfl ?_
        refine z_callVF (As := [_]) dX3_countByJoining_112 kX3_34 (c_X4_get  (wr_30 _ _ _) (by omega) (by decide)) (wr_30 _ _ _).1 rfl rfl (zle rfl) ⟨zle rfl, zle rfl⟩ ⟨zle rfl, zle rfl⟩ (q := 115) rfl ?_
        refine z_callVF (As := [_, _]) dX3_countByJoining_115 kX3_63 (c_X3_join h4 a.1 g c) (wo_nearness _ _ _) rfl rfl (zle rfl) ⟨zle rfl, zle rfl⟩ ⟨zle rfl, zle rfl⟩ (q := 118) rfl ?_
        refine z_iinc dX3_countByJoining_118 rfl rfl (zle rfl) rfl (q := 121) rfl ?_
        refine z_iinc dX3_countByJoining_121 rfl rfl (zle rfl) rfl (q := 124) rfl ?_
        refine z_goto (tgt := 55) dX3_countByJoining_124 (by decide) ?_
        refine Z.eql (zl2 := [some (.ref 68), some (.ref 1), some (.ref 6), some (.int d), some (.int (a.2 + (-1))), some (.int (nI k)), some (.int (nI (i + 1)))]) (by show [_, _, _, _, some (Value.int (a.2 + (-1))), _, some (Value.int (nI i + 1))] = _; rw [nI_1]) ?_
        rw [show gJin b n k i (m + 1) a = gJin b n k (i + 1) m (gjoin (a.1 k) (a.1 i) (imin (a.1 k) (a.1 i)) 0 n a.1, a.2 + (-1)) by rw [gJin, if_pos ⟨h80, (hb k i hk (by omega) (by omega)).mp (Int32.not_lt.mp h93)⟩]] at hx
        exact ih (i + 1) (gjoin (a.1 k) (a.1 i) (imin (a.1 k) (a.1 i)) 0 n a.1, a.2 + (-1)) (by omega) hx
set_option maxRecDepth 100000 in
set_option maxHeartbeats 4000000 in
theorem z_X3_countByJoining_43 {n b : Nat} {d : Int32} (hn : X.1 0 = nI n) (h4 : n ≤ 4) (hb : linked X n d b) {g : Nat → Int32} {c : Int32} : ∀ (m i : Nat) (a : (Nat → Int32) × Int32) (ol : Option Value), i + m = n → Z G mX3_countByJoining (zrm 3 0 0) 0 0 43 [some (.ref 68), some (.ref 1), some (.ref 6), some (.int d), some (.int a.2), some (.int (nI i)), ol] [] (zw (xg X a.1 (nI n) g c) Y O) (fun r w2 => r = .inl (some (.int (gJout b n i m a).2)) ∧ ∃ (g : Nat → Int32) (c : Int32), w2 = zw (xg X (gJout b n i m a).1 (nI n) g c) Y O) := by
  intro m
  induction m with
  | zero =>
    intro i a ol hi
    refine z_iload dX3_countByJoining_43 rfl (q := 45) rfl ?_
    refine z_aload_n (i := 1) dX3_countByJoining_45 rfl rfl (q := 46) rfl ?_
    refine z_callVF (As := []) dX3_countByJoining_46 kX3_41 (c_X0_count (t := 0) (by decide) ) (wo_across _ _ _) rfl rfl (zle rfl) ⟨zle rfl, zle rfl⟩ ⟨zle rfl, zle rfl⟩ (q := 49) rfl ?_
    rw [show (xg X a.1 (nI n) g c).1 (2 * 0) = nI n from hn]
    refine z_icmp_ge (tgt := 133) dX3_countByJoining_49 (by decide) (q := 52) rfl (fun h49 => ?_) (fun h49 => absurd (zge_t (by omega)) h49)
    refine z_iload dX3_countByJoining_133 rfl (q := 135) rfl ?_
    exact z_iret dX3_countByJoining_135 rfl ⟨zle rfl, zle rfl⟩ ⟨rfl, g, c, rfl⟩
  | succ m ih =>
    intro i a ol hi
    refine z_iload dX3_countByJoining_43 rfl (q := 45) rfl ?_
    refine z_aload_n (i := 1) dX3_countByJoining_45 rfl rfl (q := 46) rfl ?_
    refine z_callVF (As := []) dX3_countByJoining_46 kX3_41 (c_X0_count (t := 0) (by decide) ) (wo_across _ _ _) rfl rfl (zle rfl) ⟨zle rfl, zle rfl⟩ ⟨zle rfl, zle rfl⟩ (q := 49) rfl ?_
    rw [show (xg X a.1 (nI n) g c).1 (2 * 0) = nI n from hn]
    refine z_icmp_ge (tgt := 133) dX3_countByJoining_49 (by decide) (q := 52) rfl (fun h49 => absurd h49 (zge_f (by omega) (by omega))) (fun h49 => ?_)
    refine z_iconst (v := 0) dX3_countByJoining_52 rfl (q := 53) rfl ?_
    refine z_istore dX3_countByJoining_53 (zle rfl) rfl (q := 55) rfl ?_
    refine z_X3_countByJoining_55 hn h4 hb (k := i) (by omega) i 0 a (by omega) ?_
    refine z_iinc dX3_countByJoining_127 rfl rfl (zle rfl) rfl (q := 130) rfl ?_
    refine z_goto (tgt := 43) dX3_countByJoining_130 (by decide) ?_
    refine Z.eql (zl2 := [some (.ref 68), some (.ref 1), some (.ref 6), some (.int d), some (.int (gJin b n i 0 i a).2), some (.int (nI (i + 1))), some (.int (nI i))]) (by show [_, _, _, _, _, some (Value.int (nI i + 1)), _] = _; rw [nI_1]) ?_
    exact ih (i + 1) _ _ (by omega)
set_option maxRecDepth 100000 in
set_option maxHeartbeats 4000000 in
theorem z_X3_countByJoining_10 {n b : Nat} {d : Int32} (hn : X.1 0 = nI n) (h4 : n ≤ 4) (hb : linked X n d b) : ∀ (m i : Nat) (low g : Nat → Int32) (c : Int32) (k5 k6 : Option Value), i + m = n → Z G mX3_countByJoining (zrm 3 0 0) 0 0 10 [some (.ref 68), some (.ref 1), some (.ref 6), some (.int d), some (.int (nI i)), k5, k6] [] (zw (xg X low (nI i) g c) Y O) (fun r w2 => r = .inl (some (.int (gJout b n 0 n (gfill nI i m low, nI n)).2)) ∧ ∃ (g : Nat → Int32) (c : Int32), w2 = zw (xg X (gJout b n 0 n (gfill nI i m low, nI n)).1 (nI n) g c) Y O) := by
  intro m
  induction m with
  | zero =>
    intro i low g c k5 k6 hi
    have hin : n = i := by omega
    subst hin
    refine z_iload dX3_countByJoining_10 rfl (q := 12) rfl ?_
    refine z_aload_n (i := 1) dX3_countByJoining_12 rfl rfl (q := 13) rfl ?_
    refine z_callVF (As := []) dX3_countByJoining_13 kX3_41 (c_X0_count (t := 0) (by decide) ) (wo_across _ _ _) rfl rfl (zle rfl) ⟨zle rfl, zle rfl⟩ ⟨zle rfl, zle rfl⟩ (q := 16) rfl ?_
    rw [show (xg X low (nI n) g c).1 (2 * 0) = nI n from hn]
    refine z_icmp_ge (tgt := 34) dX3_countByJoining_16 (by decide) (q := 19) rfl (fun h16 => ?_) (fun h16 => absurd (zge_t (by omega)) h16)
    refine z_aload_n (i := 1) dX3_countByJoining_34 rfl rfl (q := 35) rfl ?_
    refine z_callVF (As := []) dX3_countByJoining_35 kX3_41 (c_X0_count (t := 0) (by decide) ) (wo_across _ _ _) rfl rfl (zle rfl) ⟨zle rfl, zle rfl⟩ ⟨zle rfl, zle rfl⟩ (q := 38) rfl ?_
    rw [show (xg X low (nI n) g c).1 (2 * 0) = nI n from hn]
    refine z_istore dX3_countByJoining_38 (zle rfl) rfl (q := 40) rfl ?_
    refine z_iconst (v := 0) dX3_countByJoining_40 rfl (q := 41) rfl ?_
    refine z_istore dX3_countByJoining_41 (zle rfl) rfl (q := 43) rfl ?_
    exact z_X3_countByJoining_43 hn h4 hb n 0 (low, nI n) _ (by omega)
  | succ m ih =>
    intro i low g c k5 k6 hi
    refine z_iload dX3_countByJoining_10 rfl (q := 12) rfl ?_
    refine z_aload_n (i := 1) dX3_countByJoining_12 rfl rfl (q := 13) rfl ?_
    refine z_callVF (As := []) dX3_countByJoining_13 kX3_41 (c_X0_count (t := 0) (by decide) ) (wo_across _ _ _) rfl rfl (zle rfl) ⟨zle rfl, zle rfl⟩ ⟨zle rfl, zle rfl⟩ (q := 16) rfl ?_
    rw [show (xg X low (nI i) g c).1 (2 * 0) = nI n from hn]
    refine z_icmp_ge (tgt := 34) dX3_countByJoining_16 (by decide) (q := 19) rfl (fun h16 => absurd h16 (zge_f (by omega) (by omega))) (fun h16 => ?_)
    refine z_aload_n (i := 0) dX3_countByJoining_19 rfl rfl (q := 20) rfl ?_
    refine z_get dX3_countByJoining_20 fX3_14 (wo_nearness _ _ _) rfl (q := 23) rfl ?_
    refine z_iload dX3_countByJoining_23 rfl (q := 25) rfl ?_
    refine z_callVF (As := [_]) dX3_countByJoining_25 kX3_45 (c_X4_append' (k := i) (wr_30 _ _ _) rfl (by omega) (by decide)) (wr_30 _ _ _).1 rfl rfl (zle rfl) ⟨zle rfl, zle rfl⟩ ⟨zle rfl, zle rfl⟩ (q := 28) rfl ?_
    refine Z.eqw (wp_30 _ _ _ _ _) ?_
    refine Z.eqw (w2 := zw (xg X (upd low i (nI i)) (nI (i + 1)) g c) Y O) (by rw [← xg_30 X low (upd low i (nI i)) (nI i)]; rfl) ?_
    refine z_iinc dX3_countByJoining_28 rfl rfl (zle rfl) rfl (q := 31) rfl ?_
    refine z_goto (tgt := 10) dX3_countByJoining_31 (by decide) ?_
    refine Z.eql (zl2 := [some (.ref 68), some (.ref 1), some (.ref 6), some (.int d), some (.int (nI (i + 1))), k5, k6]) (by show [_, _, _, _, some (Value.int (nI i + 1)), _, _] = _; rw [nI_1]) ?_
    exact ih (i + 1) (upd low i (nI i)) g c k5 k6 (by omega)
set_option maxRecDepth 100000 in
set_option maxHeartbeats 4000000 in
theorem c_X3_countByJoining {n b : Nat} {d : Int32} (hn : X.1 0 = nI n) (h4 : n ≤ 4) (hb : linked X n d b) : ZM G mX3_countByJoining 3 0 0 [.ref 68, .ref 1, .ref 6, .int d] (zw X Y O) (fun r w2 => r = .inl (some (.int (gJout b n 0 n (gfill nI 0 n (X.2.1 30), nI n)).2)) ∧ ∃ (g : Nat → Int32) (c : Int32), w2 = zw (xg X (gJout b n 0 n (gfill nI 0 n (X.2.1 30), nI n)).1 (nI n) g c) Y O) := by
  refine ZM.go pX3 rfl rfl (zle rfl) (zl := [some (.ref 68), some (.ref 1), some (.ref 6), some (.int d), none, none, none]) rfl ?_
  refine z_aload_n (i := 0) dX3_countByJoining_0 rfl rfl (q := 1) rfl ?_
  refine z_get dX3_countByJoining_1 fX3_14 (wo_nearness _ _ _) rfl (q := 4) rfl ?_
  refine z_callVF (As := []) dX3_countByJoining_4 kX3_38 (c_X4_clear (wr_30 _ _ _)) (wr_30 _ _ _).1 rfl rfl (zle rfl) ⟨zle rfl, zle rfl⟩ ⟨zle rfl, zle rfl⟩ (q := 7) rfl ?_
  refine Z.eqw (wp_30 _ _ _ _ _) ?_
  refine Z.eqw (w2 := zw (xg X (X.2.1 30) (nI 0) (X.2.1 31) (X.1 31)) Y O) (by rw [← xg_30 X (X.2.1 30) (X.2.1 30) (X.1 30) (nI 0), xg_0]; rfl) ?_
  refine z_iconst (v := 0) dX3_countByJoining_7 rfl (q := 8) rfl ?_
  refine z_istore dX3_countByJoining_8 (zle rfl) rfl (q := 10) rfl ?_
  exact z_X3_countByJoining_10 hn h4 hb n 0 _ _ _ _ _ (by omega)
end
