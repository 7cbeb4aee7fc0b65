section
variable {G : zG} {X : zX} {Y : zY} {O : zO}
set_option maxRecDepth 100000 in
set_option maxHeartbeats 4000000 in
theorem zge_t {i N : Nat} (h : i = N) : nI N ≤ nI i := by rw [h]; exact Int32.le_refl _
set_option maxRecDepth 100000 in
set_option maxHeartbeats 4000000 in
theorem zge_f {i N : Nat} (h : i < N) (hN : N < 2 ^ 31) : ¬ nI N ≤ nI i := nI_ge h hN
/- counting from i on, m places, beginning with a -/
set_option maxRecDepth 100000 in
set_option maxHeartbeats 4000000 in
def rcnt (p : Nat → Prop) [DecidablePred p] : Nat → Nat → Int32 → Int32
  | _, 0, a => a
  | i, m + 1, a => rcnt p (i + 1) m (if p i then a + 1 else a)
set_option maxRecDepth 100000 in
set_option maxHeartbeats 4000000 in
theorem rcnt_t {p : Nat → Prop} [DecidablePred p] {i m : Nat} {a : Int32} (h : p i) : rcnt p i (m + 1) a = rcnt p (i + 1) m (a + 1) := by rw [rcnt, if_pos h]
set_option maxRecDepth 100000 in
set_option maxHeartbeats 4000000 in
theorem rcnt_f {p : Nat → Prop} [DecidablePred p] {i m : Nat} {a : Int32} (h : ¬ p i) : rcnt p i (m + 1) a = rcnt p (i + 1) m a := by rw [rcnt, if_neg h]
set_option maxRecDepth 100000 in
set_option maxHeartbeats 4000000 in
def rsum (g : Nat → Int32) : Nat → Nat → Int32 → Int32
  | _, 0, a => a
  | i, m + 1, a => rsum g (i + 1) m (a + g i)
set_option maxRecDepth 100000 in
set_option maxHeartbeats 4000000 in
def rfold {α : Type} (g : Nat → α → α) : Nat → Nat → α → α
  | _, 0, a => a
  | i, m + 1, a => rfold g (i + 1) m (g i a)
set_option maxRecDepth 100000 in
set_option maxHeartbeats 4000000 in
def xwish (X : zX) (nw : Nat) (k s o f : Int32) : zX := xrow (xrow (xrow (xrow (xrow X 6 (upd (X.2.1 6) nw k) (nI (nw + 1))) 7 (upd (X.2.1 7) nw s) (nI (nw + 1))) 8 (upd (X.2.1 8) nw o) (nI (nw + 1))) 9 (upd (X.2.1 9) nw f) (nI (nw + 1))) 10 (upd (X.2.1 10) nw 0) (nI (nw + 1))
set_option maxRecDepth 100000 in
set_option maxHeartbeats 4000000 in
theorem c_X7_append {nw : Nat} {k s o f : Int32} (hw : nw < 8) (h6 : X.1 6 = nI nw) (h7 : X.1 7 = nI nw) (h8 : X.1 8 = nI nw) (h9 : X.1 9 = nI nw) (h10 : X.1 10 = nI nw) : ZM G mX7_append 1 0 0 [.ref 15, .int k, .int s, .int o, .int f] (zw X Y O) (zEq none (zw (xwish X nw k s o f) Y O)) := by
  refine ZM.go pX7 rfl rfl (zle rfl) (zl := [some (.ref 15), some (.int k), some (.int s), some (.int o), some (.int f)]) rfl ?_
  refine z_aload_n (i := 0) dX7_append_0 rfl rfl (q := 1) rfl ?_
  refine z_get dX7_append_1 fX7_14 (wo_wishes _ _ _) rfl (q := 4) rfl ?_
  refine z_iload_n (i := 1) dX7_append_4 rfl rfl (q := 5) rfl ?_
  refine z_callVF (As := [_]) dX7_append_5 kX7_40 (c_X4_append' (k := nw) (wr_6 _ _ _) h6 (by omega) (by decide)) (wr_6 _ _ _).1 rfl rfl (zle rfl) ⟨zle rfl, zle rfl⟩ ⟨zle rfl, zle rfl⟩ (q := 8) rfl ?_
  refine Z.eqw (wp_6 _ _ _ _ _) ?_
  refine z_aload_n (i := 0) dX7_append_8 rfl rfl (q := 9) rfl ?_
  refine z_get dX7_append_9 fX7_20 (wo_wishes _ _ _) rfl (q := 12) rfl ?_
  refine z_iload_n (i := 2) dX7_append_12 rfl rfl (q := 13) rfl ?_
  refine z_callVF (As := [_]) dX7_append_13 kX7_40 (c_X4_append' (k := nw) (wr_7 _ _ _) h7 (by omega) (by decide)) (wr_7 _ _ _).1 rfl rfl (zle rfl) ⟨zle rfl, zle rfl⟩ ⟨zle rfl, zle rfl⟩ (q := 16) rfl ?_
  refine Z.eqw (wp_7 _ _ _ _ _) ?_
  refine z_aload_n (i := 0) dX7_append_16 rfl rfl (q := 17) rfl ?_
  refine z_get dX7_append_17 fX7_23 (wo_wishes _ _ _) rfl (q := 20) rfl ?_
  refine z_iload_n (i := 3) dX7_append_20 rfl rfl (q := 21) rfl ?_
  refine z_callVF (As := [_]) dX7_append_21 kX7_40 (c_X4_append' (k := nw) (wr_8 _ _ _) h8 (by omega) (by decide)) (wr_8 _ _ _).1 rfl rfl (zle rfl) ⟨zle rfl, zle rfl⟩ ⟨zle rfl, zle rfl⟩ (q := 24) rfl ?_
  refine Z.eqw (wp_8 _ _ _ _ _) ?_
  refine z_aload_n (i := 0) dX7_append_24 rfl rfl (q := 25) rfl ?_
  refine z_get dX7_append_25 fX7_26 (wo_wishes _ _ _) rfl (q := 28) rfl ?_
  refine z_iload dX7_append_28 rfl (q := 30) rfl ?_
  refine z_callVF (As := [_]) dX7_append_30 kX7_40 (c_X4_append' (k := nw) (wr_9 _ _ _) h9 (by omega) (by decide)) (wr_9 _ _ _).1 rfl rfl (zle rfl) ⟨zle rfl, zle rfl⟩ ⟨zle rfl, zle rfl⟩ (q := 33) rfl ?_
  refine Z.eqw (wp_9 _ _ _ _ _) ?_
  refine z_aload_n (i := 0) dX7_append_33 rfl rfl (q := 34) rfl ?_
  refine z_get dX7_append_34 fX7_29 (wo_wishes _ _ _) rfl (q := 37) rfl ?_
  refine z_iconst (v := 0) dX7_append_37 rfl (q := 38) rfl ?_
  refine z_callVF (As := [_]) dX7_append_38 kX7_40 (c_X4_append' (k := nw) (wr_10 _ _ _) h10 (by omega) (by decide)) (wr_10 _ _ _).1 rfl rfl (zle rfl) ⟨zle rfl, zle rfl⟩ ⟨zle rfl, zle rfl⟩ (q := 41) rfl ?_
  refine Z.eqw (wp_10 _ _ _ _ _) ?_
  exact z_vret dX7_append_41 rfl ⟨zle rfl, zle rfl⟩ ⟨rfl, rfl⟩
set_option maxRecDepth 100000 in
set_option maxHeartbeats 4000000 in
theorem c_X7_isThere {nw k : Nat} (h6 : X.1 6 = nI nw) (hk : k < nw) (hw : nw ≤ 8) : ZM G mX7_isThere 1 0 0 [.ref 15, .int (nI k)] (zw X Y O) (zEq (some (.int (zb (X.2.1 10 k = 0)))) (zw X Y O)) := by
  refine ZM.go pX7 rfl rfl (zle rfl) (zl := [some (.ref 15), some (.int (nI k))]) rfl ?_
  refine z_iload_n (i := 1) dX7_isThere_0 rfl rfl (q := 1) rfl ?_
  refine z_if_lt (tgt := 30) dX7_isThere_1 (by decide) (q := 4) rfl (fun h1 => absurd h1 (nI_pos (by omega))) (fun h1 => ?_)
  refine z_iload_n (i := 1) dX7_isThere_4 rfl rfl (q := 5) rfl ?_
  refine z_aload_n (i := 0) dX7_isThere_5 rfl rfl (q := 6) rfl ?_
  refine z_get dX7_isThere_6 fX7_14 (wo_wishes _ _ _) rfl (q := 9) rfl ?_
  refine z_callVF (As := []) dX7_isThere_9 kX7_36 (c_X4_length (wr_6 _ _ _)) (wr_6 _ _ _).1 rfl rfl (zle rfl) ⟨zle rfl, zle rfl⟩ ⟨zle rfl, zle rfl⟩ (q := 12) rfl ?_
  rw [h6]
  refine z_icmp_ge (tgt := 30) dX7_isThere_12 (by decide) (q := 15) rfl (fun h12 => absurd h12 (zge_f hk (by omega))) (fun h12 => ?_)
  refine z_aload_n (i := 0) dX7_isThere_15 rfl rfl (q := 16) rfl ?_
  refine z_get dX7_isThere_16 fX7_29 (wo_wishes _ _ _) rfl (q := 19) rfl ?_
  refine z_iload_n (i := 1) dX7_isThere_19 rfl rfl (q := 20) rfl ?_
  refine z_callVF (As := [_]) dX7_isThere_20 kX7_47 (c_X4_get  (wr_10 _ _ _) (by omega) (by decide)) (wr_10 _ _ _).1 rfl rfl (zle rfl) ⟨zle rfl, zle rfl⟩ ⟨zle rfl, zle rfl⟩ (q := 23) rfl ?_
  refine z_if_ne (tgt := 30) dX7_isThere_23 (by decide) (q := 26) rfl (fun h23 => ?_) (fun h23 => ?_)
  · refine z_iconst (v := 0) dX7_isThere_30 rfl (q := 31) rfl ?_
    exact z_zret dX7_isThere_31 rfl rfl ⟨zle rfl, zle rfl⟩ (by first | exact zr1 (by assumption) | exact zr0 (by assumption))
  · refine z_iconst (v := 1) dX7_isThere_26 rfl (q := 27) rfl ?_
    refine z_goto (tgt := 31) dX7_isThere_27 (by decide) ?_
    exact z_zret dX7_isThere_31 rfl rfl ⟨zle rfl, zle rfl⟩ (by first | exact zr1 (by assumption) | exact zr0 (by assumption))
set_option maxRecDepth 100000 in
set_option maxHeartbeats 4000000 in
theorem c_X7_isThere_out {nw : Nat} {w : Int32} (h6 : X.1 6 = nI nw) (h : w < 0 ∨ nI nw ≤ w) : ZM G mX7_isThere 1 0 0 [.ref 15, .int w] (zw X Y O) (zEq (some (.int 0)) (zw X Y O)) := by
  refine ZM.go pX7 rfl rfl (zle rfl) (zl := [some (.ref 15), some (.int w)]) rfl ?_
  refine z_iload_n (i := 1) dX7_isThere_0 rfl rfl (q := 1) rfl ?_
  refine z_if_lt (tgt := 30) dX7_isThere_1 (by decide) (q := 4) rfl (fun h1 => ?_) (fun h1 => ?_)
  · refine z_iconst (v := 0) dX7_isThere_30 rfl (q := 31) rfl ?_
    exact z_zret dX7_isThere_31 rfl rfl ⟨zle rfl, zle rfl⟩ ⟨rfl, rfl⟩
  · refine z_iload_n (i := 1) dX7_isThere_4 rfl rfl (q := 5) rfl ?_
    refine z_aload_n (i := 0) dX7_isThere_5 rfl rfl (q := 6) rfl ?_
    refine z_get dX7_isThere_6 fX7_14 (wo_wishes _ _ _) rfl (q := 9) rfl ?_
    refine z_callVF (As := []) dX7_isThere_9 kX7_36 (c_X4_length (wr_6 _ _ _)) (wr_6 _ _ _).1 rfl rfl (zle rfl) ⟨zle rfl, zle rfl⟩ ⟨zle rfl, zle rfl⟩ (q := 12) rfl ?_
    rw [h6]
    refine z_icmp_ge (tgt := 30) dX7_isThere_12 (by decide) (q := 15) rfl (fun h12 => ?_) (fun h12 => absurd (h.resolve_left h1) h12)
    refine z_iconst (v := 0) dX7_isThere_30 rfl (q := 31) rfl ?_
    exact z_zret dX7_isThere_31 rfl rfl ⟨zle rfl, zle rfl⟩ ⟨rfl, rfl⟩
set_option maxRecDepth 100000 in
set_option maxHeartbeats 4000000 in
theorem c_X7_axisAt {k : Nat} (hk : k < 8) : ZM G mX7_axisAt 1 0 0 [.ref 15, .int (nI k)] (zw X Y O) (zEq (some (.int (if zkx (X.2.1 6 k) then 120 else 121))) (zw X Y O)) := by
  refine ZM.go pX7 rfl rfl (zle rfl) (zl := [some (.ref 15), some (.int (nI k))]) rfl ?_
  refine z_aload_n (i := 0) dX7_axisAt_0 rfl rfl (q := 1) rfl ?_
  refine z_get dX7_axisAt_1 fX7_14 (wo_wishes _ _ _) rfl (q := 4) rfl ?_
  refine z_iload_n (i := 1) dX7_axisAt_4 rfl rfl (q := 5) rfl ?_
  refine z_callVF (As := [_]) dX7_axisAt_5 kX7_47 (c_X4_get  (wr_6 _ _ _) (by omega) (by decide)) (wr_6 _ _ _).1 rfl rfl (zle rfl) ⟨zle rfl, zle rfl⟩ ⟨zle rfl, zle rfl⟩ (q := 8) rfl ?_
  refine z_callSF (As := [_]) dX7_axisAt_8 kX7_32 (c_X7_isKindAcross ) rfl (zle rfl) ⟨zle rfl, zle rfl⟩ ⟨zle rfl, zle rfl⟩ (q := 11) rfl ?_
  refine z_if_eq (tgt := 19) dX7_axisAt_11 (by decide) (q := 14) rfl (fun h11 => ?_) (fun h11 => ?_)
  · refine z_bipush (v := 121) dX7_axisAt_19 rfl (q := 21) rfl ?_
    exact z_zret dX7_axisAt_21 rfl (by first | rfl | decide) ⟨zle rfl, zle rfl⟩ (by first | exact ⟨by rw [if_neg (zb_0.mp (by assumption))], rfl⟩ | exact ⟨by rw [if_pos (zb_1.mp (by assumption))], rfl⟩)
  · refine z_bipush (v := 120) dX7_axisAt_14 rfl (q := 16) rfl ?_
    refine z_goto (tgt := 21) dX7_axisAt_16 (by decide) ?_
    exact z_zret dX7_axisAt_21 rfl (by first | rfl | decide) ⟨zle rfl, zle rfl⟩ (by first | exact ⟨by rw [if_neg (zb_0.mp (by assumption))], rfl⟩ | exact ⟨by rw [if_pos (zb_1.mp (by assumption))], rfl⟩)
set_option maxRecDepth 100000 in
set_option maxHeartbeats 4000000 in
theorem c_X7_edgeAt {k : Nat} (hk : k < 8) : ZM G mX7_edgeAt 1 0 0 [.ref 15, .int (nI k)] (zw X Y O) (zEq (some (.int (zedge (X.2.1 6 k)))) (zw X Y O)) := by
  refine ZM.go pX7 rfl rfl (zle rfl) (zl := [some (.ref 15), some (.int (nI k)), none]) rfl ?_
  refine z_aload_n (i := 0) dX7_edgeAt_0 rfl rfl (q := 1) rfl ?_
  refine z_get dX7_edgeAt_1 fX7_14 (wo_wishes _ _ _) rfl (q := 4) rfl ?_
  refine z_iload_n (i := 1) dX7_edgeAt_4 rfl rfl (q := 5) rfl ?_
  refine z_callVF (As := [_]) dX7_edgeAt_5 kX7_47 (c_X4_get  (wr_6 _ _ _) (by omega) (by decide)) (wr_6 _ _ _).1 rfl rfl (zle rfl) ⟨zle rfl, zle rfl⟩ ⟨zle rfl, zle rfl⟩ (q := 8) rfl ?_
  refine z_istore_n (i := 2) dX7_edgeAt_8 rfl (zle rfl) rfl (q := 9) rfl ?_
  refine z_iload_n (i := 2) dX7_edgeAt_9 rfl rfl (q := 10) rfl ?_
  refine z_bipush (v := 108) dX7_edgeAt_10 rfl (q := 12) rfl ?_
  refine z_icmp_eq (tgt := 21) dX7_edgeAt_12 (by decide) (q := 15) rfl (fun h12 => ?_) (fun h12 => ?_)
  · refine z_iconst (v := 0) dX7_edgeAt_21 rfl (q := 22) rfl ?_
    exact z_iret dX7_edgeAt_22 rfl ⟨zle rfl, zle rfl⟩ ⟨by unfold zedge; simp [*], rfl⟩
  · refine z_iload_n (i := 2) dX7_edgeAt_15 rfl rfl (q := 16) rfl ?_
    refine z_bipush (v := 116) dX7_edgeAt_16 rfl (q := 18) rfl ?_
    refine z_icmp_ne (tgt := 23) dX7_edgeAt_18 (by decide) (q := 21) rfl (fun h18 => ?_) (fun h18 => ?_)
    · refine z_iload_n (i := 2) dX7_edgeAt_23 rfl rfl (q := 24) rfl ?_
      refine z_bipush (v := 99) dX7_edgeAt_24 rfl (q := 26) rfl ?_
      refine z_icmp_eq (tgt := 35) dX7_edgeAt_26 (by decide) (q := 29) rfl (fun h26 => ?_) (fun h26 => ?_)
      · refine z_iconst (v := 1) dX7_edgeAt_35 rfl (q := 36) rfl ?_
        refine z_goto (tgt := 40) dX7_edgeAt_36 (by decide) ?_
        exact z_iret dX7_edgeAt_40 rfl ⟨zle rfl, zle rfl⟩ ⟨by unfold zedge; simp [*], rfl⟩
      · refine z_iload_n (i := 2) dX7_edgeAt_29 rfl rfl (q := 30) rfl ?_
        refine z_bipush (v := 109) dX7_edgeAt_30 rfl (q := 32) rfl ?_
        refine z_icmp_ne (tgt := 39) dX7_edgeAt_32 (by decide) (q := 35) rfl (fun h32 => ?_) (fun h32 => ?_)
        · refine z_iconst (v := 2) dX7_edgeAt_39 rfl (q := 40) rfl ?_
          exact z_iret dX7_edgeAt_40 rfl ⟨zle rfl, zle rfl⟩ ⟨by unfold zedge; simp [*], rfl⟩
        · refine z_iconst (v := 1) dX7_edgeAt_35 rfl (q := 36) rfl ?_
          refine z_goto (tgt := 40) dX7_edgeAt_36 (by decide) ?_
          exact z_iret dX7_edgeAt_40 rfl ⟨zle rfl, zle rfl⟩ ⟨by unfold zedge; simp [*], rfl⟩
    · refine z_iconst (v := 0) dX7_edgeAt_21 rfl (q := 22) rfl ?_
      exact z_iret dX7_edgeAt_22 rfl ⟨zle rfl, zle rfl⟩ ⟨by unfold zedge; simp [*], rfl⟩
set_option maxRecDepth 100000 in
set_option maxHeartbeats 4000000 in
theorem c_X7_holdsIn {t k a b : Nat} (ht : t < 2) (hk : k < 8) (ha : a < 4) (hb : b < 4) (h7 : X.2.1 7 k = nI a) (h8 : X.2.1 8 k = nI b) : ZM G mX7_holdsIn 2 0 0 [.ref 15, .ref (zax t), .int (nI k)] (zw X Y O) (zEq (some (.int (zb (2 * X.2.1 (2 * t) a + zedge (X.2.1 6 k) * X.2.1 (2 * t + 1) a = 2 * X.2.1 (2 * t) b + zedge (X.2.1 6 k) * X.2.1 (2 * t + 1) b)))) (zw X Y O)) := by
  refine ZM.go pX7 rfl rfl (zle rfl) (zl := [some (.ref 15), some (.ref (zax t)), some (.int (nI k)), none]) rfl ?_
  refine z_aload_n (i := 0) dX7_holdsIn_0 rfl rfl (q := 1) rfl ?_
  refine z_iload_n (i := 2) dX7_holdsIn_1 rfl rfl (q := 2) rfl ?_
  refine z_callVF (As := [_]) dX7_holdsIn_2 kX7_57 (c_X7_edgeAt hk) (wo_wishes _ _ _) rfl rfl (zle rfl) ⟨zle rfl, zle rfl⟩ ⟨zle rfl, zle rfl⟩ (q := 5) rfl ?_
  refine z_istore_n (i := 3) dX7_holdsIn_5 rfl (zle rfl) rfl (q := 6) rfl ?_
  refine z_aload_n (i := 1) dX7_holdsIn_6 rfl rfl (q := 7) rfl ?_
  refine z_aload_n (i := 0) dX7_holdsIn_7 rfl rfl (q := 8) rfl ?_
  refine z_iload_n (i := 2) dX7_holdsIn_8 rfl rfl (q := 9) rfl ?_
  refine z_callVF (As := [_]) dX7_holdsIn_9 kX7_60 (c_X7_shapeAt hk) (wo_wishes _ _ _) rfl rfl (zle rfl) ⟨zle rfl, zle rfl⟩ ⟨zle rfl, zle rfl⟩ (q := 12) rfl ?_
  rw [h7]
  refine z_iload_n (i := 3) dX7_holdsIn_12 rfl rfl (q := 13) rfl ?_
  refine z_callVF (As := [_, _]) dX7_holdsIn_13 kX7_63 (c_X0_twiceEdge (t := t) ht ha) (wax_o _ _ _ ht) rfl rfl (zle rfl) ⟨zle rfl, zle rfl⟩ ⟨zle rfl, zle rfl⟩ (q := 16) rfl ?_
  refine z_aload_n (i := 1) dX7_holdsIn_16 rfl rfl (q := 17) rfl ?_
  refine z_aload_n (i := 0) dX7_holdsIn_17 rfl rfl (q := 18) rfl ?_
  refine z_iload_n (i := 2) dX7_holdsIn_18 rfl rfl (q := 19) rfl ?_
  refine z_callVF (As := [_]) dX7_holdsIn_19 kX7_69 (c_X7_otherAt hk) (wo_wishes _ _ _) rfl rfl (zle rfl) ⟨zle rfl, zle rfl⟩ ⟨zle rfl, zle rfl⟩ (q := 22) rfl ?_
  rw [h8]
  refine z_iload_n (i := 3) dX7_holdsIn_22 rfl rfl (q := 23) rfl ?_
  refine z_callVF (As := [_, _]) dX7_holdsIn_23 kX7_63 (c_X0_twiceEdge (t := t) ht hb) (wax_o _ _ _ ht) rfl rfl (zle rfl) ⟨zle rfl, zle rfl⟩ ⟨zle rfl, zle rfl⟩ (q := 26) rfl ?_
  refine z_icmp_ne (tgt := 33) dX7_holdsIn_26 (by decide) (q := 29) rfl (fun h26 => ?_) (fun h26 => ?_)
  · refine z_iconst (v := 0) dX7_holdsIn_33 rfl (q := 34) rfl ?_
    exact z_zret dX7_holdsIn_34 rfl rfl ⟨zle rfl, zle rfl⟩ (by first | exact zr1 (by assumption) | exact zr0 (by assumption))
  · refine z_iconst (v := 1) dX7_holdsIn_29 rfl (q := 30) rfl ?_
    refine z_goto (tgt := 34) dX7_holdsIn_30 (by decide) ?_
    exact z_zret dX7_holdsIn_34 rfl rfl ⟨zle rfl, zle rfl⟩ (by first | exact zr1 (by assumption) | exact zr0 (by assumption))
set_option maxRecDepth 100000 in
set_option maxHeartbeats 4000000 in
theorem z_X7_presentCount_4 {nw : Nat} (h6 : X.1 6 = nI nw) (hw : nw ≤ 8) : ∀ (m i : Nat) (a : Int32), i + m = nw → Z G mX7_presentCount (zrm 2 0 0) 0 0 4 [some (.ref 15), some (.int a), some (.int (nI i))] [] (zw X Y O) (zEq (some (.int (rcnt (fun k => X.2.1 10 k = 0) i m a))) (zw X Y O)) := by
  intro m
  induction m with
  | zero =>
    intro i a hi
    refine z_iload_n (i := 2) dX7_presentCount_4 rfl rfl (q := 5) rfl ?_
    refine z_aload_n (i := 0) dX7_presentCount_5 rfl rfl (q := 6) rfl ?_
    refine z_callVF (As := []) dX7_presentCount_6 kX7_51 (c_X7_addedCount ) (wo_wishes _ _ _) rfl rfl (zle rfl) ⟨zle rfl, zle rfl⟩ ⟨zle rfl, zle rfl⟩ (q := 9) rfl ?_
    rw [h6]
    refine z_icmp_ge (tgt := 29) dX7_presentCount_9 (by decide) (q := 12) rfl (fun h9 => ?_) (fun h9 => absurd (zge_t (by omega)) h9)
    refine z_iload_n (i := 1) dX7_presentCount_29 rfl rfl (q := 30) rfl ?_
    exact z_iret dX7_presentCount_30 rfl ⟨zle rfl, zle rfl⟩ ⟨rfl, rfl⟩
  | succ m ih =>
    intro i a hi
    refine z_iload_n (i := 2) dX7_presentCount_4 rfl rfl (q := 5) rfl ?_
    refine z_aload_n (i := 0) dX7_presentCount_5 rfl rfl (q := 6) rfl ?_
    refine z_callVF (As := []) dX7_presentCount_6 kX7_51 (c_X7_addedCount ) (wo_wishes _ _ _) rfl rfl (zle rfl) ⟨zle rfl, zle rfl⟩ ⟨zle rfl, zle rfl⟩ (q := 9) rfl ?_
    rw [h6]
    refine z_icmp_ge (tgt := 29) dX7_presentCount_9 (by decide) (q := 12) rfl (fun h9 => absurd h9 (zge_f (by omega) (by omega))) (fun h9 => ?_)
    refine z_aload_n (i := 0) dX7_presentCount_12 rfl rfl (q := 13) rfl ?_
    refine z_iload_n (i := 2) dX7_presentCount_13 rfl rfl (q := 14) rfl ?_
    refine z_callVF (As := [_]) dX7_presentCount_14 kX7_54 (c_X7_isThere h6 (by omega) hw) (wo_wishes _ _ _) rfl rfl (zle rfl) ⟨zle rfl, zle rfl⟩ ⟨zle rfl, zle rfl⟩ (q := 17) rfl ?_
    refine z_if_eq (tgt := 23) dX7_presentCount_17 (by decide) (q := 20) rfl (fun h17 => ?_) (fun h17 => ?_)
    · refine z_iinc dX7_presentCount_23 rfl rfl (zle rfl) rfl (q := 26) rfl ?_
      refine z_goto (tgt := 4) dX7_presentCount_26 (by decide) ?_
      first
        | (have h17x := zb_0.mp h17
           rw [rcnt_f h17x]
           refine Z.eql (zl2 := [some (.ref 15), some (.int a), some (.int (nI (i + 1)))]) (by show [_, _, some (Value.int (nI i + 1))] = _; rw [nI_1]) ?_
           exact ih (i + 1) a (by omega))
        | (refine Z.eql (zl2 := [some (.ref 15), some (.int (a + 1)), some (.int (nI (i + 1)))]) (by show [_, _, some (Value.int (nI i + 1))] = _; rw [nI_1]; rfl) ?_
           exact ih (i + 1) (a + 1) (by omega))
    · rw [rcnt_t (zb_1.mp h17)]
      refine z_iinc dX7_presentCount_20 rfl rfl (zle rfl) rfl (q := 23) rfl ?_
      refine z_iinc dX7_presentCount_23 rfl rfl (zle rfl) rfl (q := 26) rfl ?_
      refine z_goto (tgt := 4) dX7_presentCount_26 (by decide) ?_
      first
        | (have h17x := zb_0.mp h17
           rw [rcnt_f h17x]
           refine Z.eql (zl2 := [some (.ref 15), some (.int a), some (.int (nI (i + 1)))]) (by show [_, _, some (Value.int (nI i + 1))] = _; rw [nI_1]) ?_
           exact ih (i + 1) a (by omega))
        | (refine Z.eql (zl2 := [some (.ref 15), some (.int (a + 1)), some (.int (nI (i + 1)))]) (by show [_, _, some (Value.int (nI i + 1))] = _; rw [nI_1]; rfl) ?_
           exact ih (i + 1) (a + 1) (by omega))
set_option maxRecDepth 100000 in
set_option maxHeartbeats 4000000 in
theorem c_X7_presentCount {nw : Nat} (h6 : X.1 6 = nI nw) (hw : nw ≤ 8) : ZM G mX7_presentCount 2 0 0 [.ref 15] (zw X Y O) (zEq (some (.int (rcnt (fun k => X.2.1 10 k = 0) 0 nw 0))) (zw X Y O)) := by
  refine ZM.go pX7 rfl rfl (zle rfl) (zl := [some (.ref 15), none, none]) rfl ?_
  refine z_iconst (v := 0) dX7_presentCount_0 rfl (q := 1) rfl ?_
  refine z_istore_n (i := 1) dX7_presentCount_1 rfl (zle rfl) rfl (q := 2) rfl ?_
  refine z_iconst (v := 0) dX7_presentCount_2 rfl (q := 3) rfl ?_
  refine z_istore_n (i := 2) dX7_presentCount_3 rfl (zle rfl) rfl (q := 4) rfl ?_
  exact z_X7_presentCount_4 h6 hw nw 0 0 (by omega)
end
