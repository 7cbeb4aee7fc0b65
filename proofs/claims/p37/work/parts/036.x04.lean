section
variable {G : zG} {X : zX} {Y : zY} {O : zO}
set_option maxRecDepth 100000 in
set_option maxHeartbeats 4000000 in
def zTh (E : String) (w : zWorld) : zRes → zWorld → Prop := fun r w2 => r = .inr E ∧ w2 = w
/- an answer, or what was thrown, and the world behind it -/
set_option maxRecDepth 100000 in
set_option maxHeartbeats 4000000 in
def zR (a : zRes) (w : zWorld) : zRes → zWorld → Prop := fun r w2 => r = a ∧ w2 = w
set_option maxRecDepth 100000 in
set_option maxHeartbeats 4000000 in
theorem ZM.toR {M : zM} {d mc ms : Nat} {av : List Value} {w w2 : zWorld} {v : Option Value} (h : ZM G M d mc ms av w (zEq v w2)) : ZM G M d mc ms av w (zR (.inl v) w2) := h
set_option maxRecDepth 100000 in
set_option maxHeartbeats 4000000 in
theorem ZM.toT {M : zM} {d mc ms : Nat} {av : List Value} {w w2 : zWorld} {E : String} (h : ZM G M d mc ms av w (zTh E w2)) : ZM G M d mc ms av w (zR (.inr E) w2) := h
set_option maxRecDepth 100000 in
set_option maxHeartbeats 4000000 in
theorem z_callVT {M : zM} {R : Room} {k n pc : Nat} {zl : List (Option Value)} {st : List Value} {w : zWorld} {P : zRes → zWorld → Prop} {ix b ci d mc ms : Nat} {M2 : zM} {fs As st0 : List Value} {E : String} {w2 : zWorld} (hd : decode M.code pc = .ok (.invokevirtual ix, 3)) (hs : zCalV M.y.cls ix M2 As.length) (hM : ZM G M2 d mc ms (.ref b :: As) w (zTh E w2)) (hc : w[b]? = some (.inr (ci, fs))) (hci : (zcl[ci]?).map (fun r => r.1) = some M2.y.cls)
    (hst0 : st0 = As.reverse ++ .ref b :: st) (hh : M.hh = none) (hW : (st.map fun v => v.category).sum ≤ 8) (hR : d + 11 ≤ R.frames ∧ M2.maxL + (60 * d + 319) ≤ R.locals) (hf : k + mc ≤ R.cells ∧ n + ms ≤ R.slots) (hP : P (.inr E) w2) : Z G M R k n pc zl st0 w P :=
  z_callV hd hs hM hc hci hst0 hW hR hf rfl (fun rv w3 h => by cases h.1) (fun E2 w3 h => by obtain ⟨h1, h2⟩ := h; cases h1; rw [h2]; exact zx_out hh hf hP)
set_option maxRecDepth 100000 in
set_option maxHeartbeats 4000000 in
abbrev eIOOBE : String := "java/lang/IndexOutOfBoundsException"
set_option maxRecDepth 100000 in
set_option maxHeartbeats 4000000 in
abbrev eIAE : String := "java/lang/IllegalArgumentException"
set_option maxRecDepth 100000 in
set_option maxHeartbeats 4000000 in
abbrev eISE : String := "java/lang/IllegalStateException"
set_option maxRecDepth 100000 in
set_option maxHeartbeats 4000000 in
abbrev eUOE : String := "java/lang/UnsupportedOperationException"
set_option maxRecDepth 100000 in
set_option maxHeartbeats 4000000 in
abbrev eNSE : String := "java/util/NoSuchElementException"
set_option maxRecDepth 100000 in
set_option maxHeartbeats 4000000 in
abbrev eAE : String := "java/lang/ArithmeticException"
/- the first one from i on, m places, with p; else -1 -/
set_option maxRecDepth 100000 in
set_option maxHeartbeats 4000000 in
def rfirst (p : Nat → Prop) [DecidablePred p] : Nat → Nat → Int32
  | _, 0 => -1
  | i, m + 1 => if p i then nI i else rfirst p (i + 1) m
set_option maxRecDepth 100000 in
set_option maxHeartbeats 4000000 in
abbrev zch (t : Nat) : Int32 := if t = 0 then 120 else 121
/- the shapes but s that such a rectangle overlaps -/
set_option maxRecDepth 100000 in
set_option maxHeartbeats 4000000 in
abbrev pover (X : zX) (s l t w h : Int32) (k : Nat) : Prop := ¬ nI k = s ∧ zmeet (X.2.1 0 k) (X.2.1 1 k) l w ∧ zmeet (X.2.1 2 k) (X.2.1 3 k) t h
set_option maxRecDepth 100000 in
set_option maxHeartbeats 4000000 in
def zneed (w l : Int32) : Int32 := (l + w / 2 - 1) / (w / 2) * 5
set_option maxRecDepth 100000 in
set_option maxHeartbeats 4000000 in
theorem c_X8_shapeCount  : ZM G mX8_shapeCount 2 0 0 [.ref 0] (zw X Y O) (zEq (some (.int (X.1 0))) (zw X Y O)) := by
  refine ZM.go pX8 rfl rfl (zle rfl) (zl := [some (.ref 0)]) rfl ?_
  refine z_aload_n (i := 0) dX8_shapeCount_0 rfl rfl (q := 1) rfl ?_
  refine z_get dX8_shapeCount_1 fX8_14 (wo_x _ _ _) rfl (q := 4) rfl ?_
  refine z_callVF (As := []) dX8_shapeCount_4 kX8_304 (c_X0_count (t := 0) (by decide) ) (wo_across _ _ _) rfl rfl (zle rfl) ⟨zle rfl, zle rfl⟩ ⟨zle rfl, zle rfl⟩ (q := 7) rfl ?_
  exact z_iret dX8_shapeCount_7 rfl ⟨zle rfl, zle rfl⟩ ⟨rfl, rfl⟩
set_option maxRecDepth 100000 in
set_option maxHeartbeats 4000000 in
theorem c_X8_requireShape {n k : Nat} (hn : X.1 0 = nI n) (h4 : n ≤ 4) (hk : k < n) : ZM G mX8_requireShape 3 0 0 [.ref 0, .int (nI k)] (zw X Y O) (zEq none (zw X Y O)) := by
  refine ZM.go pX8 rfl rfl (zle rfl) (zl := [some (.ref 0), some (.int (nI k))]) rfl ?_
  refine z_iload_n (i := 1) dX8_requireShape_0 rfl rfl (q := 1) rfl ?_
  refine z_if_lt (tgt := 12) dX8_requireShape_1 (by decide) (q := 4) rfl (fun h1 => absurd h1 (nI_pos (by omega))) (fun h1 => ?_)
  refine z_iload_n (i := 1) dX8_requireShape_4 rfl rfl (q := 5) rfl ?_
  refine z_aload_n (i := 0) dX8_requireShape_5 rfl rfl (q := 6) rfl ?_
  refine z_callVF (As := []) dX8_requireShape_6 kX8_82 (c_X8_shapeCount ) (wo_x _ _ _) rfl rfl (zle rfl) ⟨zle rfl, zle rfl⟩ ⟨zle rfl, zle rfl⟩ (q := 9) rfl ?_
  rw [hn]
  refine z_icmp_lt (tgt := 23) dX8_requireShape_9 (by decide) (q := 12) rfl (fun h9 => ?_) (fun h9 => absurd (nI_lt hk (by omega)) h9)
  exact z_vret dX8_requireShape_23 rfl ⟨zle rfl, zle rfl⟩ ⟨rfl, rfl⟩
set_option maxRecDepth 100000 in
set_option maxHeartbeats 4000000 in
theorem c_X8_requireShape_out {n : Nat} {s : Int32} (hn : X.1 0 = nI n) (h : s < 0 ∨ nI n ≤ s) : ZM G mX8_requireShape 3 1 6 [.ref 0, .int s] (zw X Y O) (zTh eIOOBE (zw X Y O)) := by
  refine ZM.go pX8 rfl rfl (zle rfl) (zl := [some (.ref 0), some (.int s)]) rfl ?_
  refine z_iload_n (i := 1) dX8_requireShape_0 rfl rfl (q := 1) rfl ?_
  refine z_if_lt (tgt := 12) dX8_requireShape_1 (by decide) (q := 4) rfl (fun h1 => ?_) (fun h1 => ?_)
  · exact z_throwW dX8_requireShape_12 dX8_requireShape_15 dX8_requireShape_16 dX8_requireShape_19 dX8_requireShape_22 xX8_307_309 rfl ⟨zle rfl, zle rfl, zle rfl, zle rfl⟩ ⟨rfl, rfl⟩
  · refine z_iload_n (i := 1) dX8_requireShape_4 rfl rfl (q := 5) rfl ?_
    refine z_aload_n (i := 0) dX8_requireShape_5 rfl rfl (q := 6) rfl ?_
    refine z_callVF (As := []) dX8_requireShape_6 kX8_82 (c_X8_shapeCount ) (wo_x _ _ _) rfl rfl (zle rfl) ⟨zle rfl, zle rfl⟩ ⟨zle rfl, zle rfl⟩ (q := 9) rfl ?_
    rw [hn]
    refine z_icmp_lt (tgt := 23) dX8_requireShape_9 (by decide) (q := 12) rfl (fun h9 => absurd (h.resolve_left h1) (Int32.not_le.mpr h9)) (fun h9 => ?_)
    exact z_throwW dX8_requireShape_12 dX8_requireShape_15 dX8_requireShape_16 dX8_requireShape_19 dX8_requireShape_22 xX8_307_309 rfl ⟨zle rfl, zle rfl, zle rfl, zle rfl⟩ ⟨rfl, rfl⟩
set_option maxRecDepth 100000 in
set_option maxHeartbeats 4000000 in
theorem c_X8_axisNamed {t : Nat} (ht : t < 2) : ZM G mX8_axisNamed 0 0 0 [.ref 0, .int (zch t)] (zw X Y O) (zEq (some (.ref (zax t))) (zw X Y O)) := by
  rcases (show t = 0 ∨ t = 1 by omega) with rfl | rfl
  · refine ZM.go pX8 rfl rfl (zle rfl) (zl := [some (.ref 0), some (.int (zch 0))]) rfl ?_
    refine z_iload_n (i := 1) dX8_axisNamed_0 rfl rfl (q := 1) rfl ?_
    refine z_bipush (v := 120) dX8_axisNamed_1 rfl (q := 3) rfl ?_
    refine z_icmp_ne (tgt := 11) dX8_axisNamed_3 (by decide) (q := 6) rfl (fun h3 => absurd h3 (by decide)) (fun h3 => ?_)
    refine z_aload_n (i := 0) dX8_axisNamed_6 rfl rfl (q := 7) rfl ?_
    refine z_get dX8_axisNamed_7 fX8_14 (wo_x _ _ _) rfl (q := 10) rfl ?_
    exact z_aret dX8_axisNamed_10 rfl ⟨zle rfl, zle rfl⟩ ⟨rfl, rfl⟩
  · refine ZM.go pX8 rfl rfl (zle rfl) (zl := [some (.ref 0), some (.int (zch 1))]) rfl ?_
    refine z_iload_n (i := 1) dX8_axisNamed_0 rfl rfl (q := 1) rfl ?_
    refine z_bipush (v := 120) dX8_axisNamed_1 rfl (q := 3) rfl ?_
    refine z_icmp_ne (tgt := 11) dX8_axisNamed_3 (by decide) (q := 6) rfl (fun h3 => ?_) (fun h3 => absurd h3 (by decide))
    refine z_iload_n (i := 1) dX8_axisNamed_11 rfl rfl (q := 12) rfl ?_
    refine z_bipush (v := 121) dX8_axisNamed_12 rfl (q := 14) rfl ?_
    refine z_icmp_ne (tgt := 22) dX8_axisNamed_14 (by decide) (q := 17) rfl (fun h14 => absurd h14 (by decide)) (fun h14 => ?_)
    refine z_aload_n (i := 0) dX8_axisNamed_17 rfl rfl (q := 18) rfl ?_
    refine z_get dX8_axisNamed_18 fX8_18 (wo_x _ _ _) rfl (q := 21) rfl ?_
    exact z_aret dX8_axisNamed_21 rfl ⟨zle rfl, zle rfl⟩ ⟨rfl, rfl⟩
set_option maxRecDepth 100000 in
set_option maxHeartbeats 4000000 in
theorem c_X8_axisNamed_out {c : Int32} (h1 : ¬ c = 120) (h2 : ¬ c = 121) : ZM G mX8_axisNamed 0 1 6 [.ref 0, .int c] (zw X Y O) (zTh eIAE (zw X Y O)) := by
  refine ZM.go pX8 rfl rfl (zle rfl) (zl := [some (.ref 0), some (.int c)]) rfl ?_
  refine z_iload_n (i := 1) dX8_axisNamed_0 rfl rfl (q := 1) rfl ?_
  refine z_bipush (v := 120) dX8_axisNamed_1 rfl (q := 3) rfl ?_
  refine z_icmp_ne (tgt := 11) dX8_axisNamed_3 (by decide) (q := 6) rfl (fun h3 => ?_) (fun h3 => absurd h3 h1)
  refine z_iload_n (i := 1) dX8_axisNamed_11 rfl rfl (q := 12) rfl ?_
  refine z_bipush (v := 121) dX8_axisNamed_12 rfl (q := 14) rfl ?_
  refine z_icmp_ne (tgt := 22) dX8_axisNamed_14 (by decide) (q := 17) rfl (fun h14 => ?_) (fun h14 => absurd h14 h2)
  exact z_throwW dX8_axisNamed_22 dX8_axisNamed_25 dX8_axisNamed_26 dX8_axisNamed_29 dX8_axisNamed_32 xX8_69_316 rfl ⟨zle rfl, zle rfl, zle rfl, zle rfl⟩ ⟨rfl, rfl⟩
set_option maxRecDepth 100000 in
set_option maxHeartbeats 4000000 in
theorem c_X8_isLockedShape {k : Nat} (hk : k < 4) : ZM G mX8_isLockedShape 1 0 0 [.ref 0, .int (nI k)] (zw X Y O) (zEq (some (.int (zb (¬ X.2.1 4 k = 0)))) (zw X Y O)) := by
  refine ZM.go pX8 rfl rfl (zle rfl) (zl := [some (.ref 0), some (.int (nI k))]) rfl ?_
  refine z_aload_n (i := 0) dX8_isLockedShape_0 rfl rfl (q := 1) rfl ?_
  refine z_get dX8_isLockedShape_1 fX8_24 (wo_x _ _ _) rfl (q := 4) rfl ?_
  refine z_iload_n (i := 1) dX8_isLockedShape_4 rfl rfl (q := 5) rfl ?_
  refine z_callVF (As := [_]) dX8_isLockedShape_5 kX8_265 (c_X4_get  (wr_4 _ _ _) (by omega) (by decide)) (wr_4 _ _ _).1 rfl rfl (zle rfl) ⟨zle rfl, zle rfl⟩ ⟨zle rfl, zle rfl⟩ (q := 8) rfl ?_
  refine z_if_eq (tgt := 15) dX8_isLockedShape_8 (by decide) (q := 11) rfl (fun h8 => ?_) (fun h8 => ?_)
  · refine z_iconst (v := 0) dX8_isLockedShape_15 rfl (q := 16) rfl ?_
    exact z_zret dX8_isLockedShape_16 rfl rfl ⟨zle rfl, zle rfl⟩ (by first | exact zr1 (by assumption) | exact zr0 (fun h => h (by assumption)))
  · refine z_iconst (v := 1) dX8_isLockedShape_11 rfl (q := 12) rfl ?_
    refine z_goto (tgt := 16) dX8_isLockedShape_12 (by decide) ?_
    exact z_zret dX8_isLockedShape_16 rfl rfl ⟨zle rfl, zle rfl⟩ (by first | exact zr1 (by assumption) | exact zr0 (fun h => h (by assumption)))
set_option maxRecDepth 100000 in
set_option maxHeartbeats 4000000 in
theorem z_X8_firstOverlapped_3 {n : Nat} {s l t w h : Int32} (hn : X.1 0 = nI n) (h4 : n ≤ 4) : ∀ (m i : Nat) , i + m = n → Z G mX8_firstOverlapped (zrm 3 0 0) 0 0 3 [some (.ref 0), some (.int s), some (.int l), some (.int t), some (.int w), some (.int h), some (.int (nI i))] [] (zw X Y O) (zEq (some (.int (rfirst (pover X s l t w h) i m))) (zw X Y O)) := by
  intro m
  induction m with
  | zero =>
    intro i  hi
    refine z_iload dX8_firstOverlapped_3 rfl (q := 5) rfl ?_
    refine z_aload_n (i := 0) dX8_firstOverlapped_5 rfl rfl (q := 6) rfl ?_
    refine z_callVF (As := []) dX8_firstOverlapped_6 kX8_82 (c_X8_shapeCount ) (wo_x _ _ _) rfl rfl (zle rfl) ⟨zle rfl, zle rfl⟩ ⟨zle rfl, zle rfl⟩ (q := 9) rfl ?_
    rw [hn]
    refine z_icmp_ge (tgt := 57) dX8_firstOverlapped_9 (by decide) (q := 12) rfl (fun h9 => ?_) (fun h9 => absurd (zge_t (by omega)) h9)
    refine z_iconst (v := (-1)) dX8_firstOverlapped_57 rfl (q := 58) rfl ?_
    exact z_iret dX8_firstOverlapped_58 rfl ⟨zle rfl, zle rfl⟩ ⟨rfl, rfl⟩
  | succ m ih =>
    intro i  hi
    refine z_iload dX8_firstOverlapped_3 rfl (q := 5) rfl ?_
    refine z_aload_n (i := 0) dX8_firstOverlapped_5 rfl rfl (q := 6) rfl ?_
    refine z_callVF (As := []) dX8_firstOverlapped_6 kX8_82 (c_X8_shapeCount ) (wo_x _ _ _) rfl rfl (zle rfl) ⟨zle rfl, zle rfl⟩ ⟨zle rfl, zle rfl⟩ (q := 9) rfl ?_
    rw [hn]
    refine z_icmp_ge (tgt := 57) dX8_firstOverlapped_9 (by decide) (q := 12) rfl (fun h9 => absurd h9 (zge_f (by omega) (by omega))) (fun h9 => ?_)
    refine z_iload dX8_firstOverlapped_12 rfl (q := 14) rfl ?_
    refine z_iload_n (i := 1) dX8_firstOverlapped_14 rfl rfl (q := 15) rfl ?_
    refine z_icmp_eq (tgt := 51) dX8_firstOverlapped_15 (by decide) (q := 18) rfl (fun h15 => ?_) (fun h15 => ?_)
    · rw [rfirst, if_neg (by first | exact fun h9 => h9.1 h15 | exact fun h9 => zb_0.mp h30 h9.2.1 | exact fun h9 => zb_0.mp h45 h9.2.2)]
      refine z_iinc dX8_firstOverlapped_51 rfl rfl (zle rfl) rfl (q := 54) rfl ?_
      refine z_goto (tgt := 3) dX8_firstOverlapped_54 (by decide) ?_
      refine Z.eql (zl2 := [some (.ref 0), some (.int s), some (.int l), some (.int t), some (.int w), some (.int h), some (.int (nI (i + 1)))]) (by show [_, _, _, _, _, _, some (Value.int (nI i + 1))] = _; rw [nI_1]) ?_
      exact ih (i + 1) (by omega)
    · refine z_aload_n (i := 0) dX8_firstOverlapped_18 rfl rfl (q := 19) rfl ?_
      refine z_get dX8_firstOverlapped_19 fX8_14 (wo_x _ _ _) rfl (q := 22) rfl ?_
      refine z_iload dX8_firstOverlapped_22 rfl (q := 24) rfl ?_
      refine z_iload_n (i := 2) dX8_firstOverlapped_24 rfl rfl (q := 25) rfl ?_
      refine z_iload dX8_firstOverlapped_25 rfl (q := 27) rfl ?_
      refine z_callVF (As := [_, _, _]) dX8_firstOverlapped_27 kX8_318 (c_X0_meets (t := 0) (by decide) (by omega)) (wo_across _ _ _) rfl rfl (zle rfl) ⟨zle rfl, zle rfl⟩ ⟨zle rfl, zle rfl⟩ (q := 30) rfl ?_
      refine z_if_eq (tgt := 51) dX8_firstOverlapped_30 (by decide) (q := 33) rfl (fun h30 => ?_) (fun h30 => ?_)
      · rw [rfirst, if_neg (by first | exact fun h9 => h9.1 h15 | exact fun h9 => zb_0.mp h30 h9.2.1 | exact fun h9 => zb_0.mp h45 h9.2.2)]
        refine z_iinc dX8_firstOverlapped_51 rfl rfl (zle rfl) rfl (q := 54) rfl ?_
        refine z_goto (tgt := 3) dX8_firstOverlapped_54 (by decide) ?_
        refine Z.eql (zl2 := [some (.ref 0), some (.int s), some (.int l), some (.int t), some (.int w), some (.int h), some (.int (nI (i + 1)))]) (by show [_, _, _, _, _, _, some (Value.int (nI i + 1))] = _; rw [nI_1]) ?_
        exact ih (i + 1) (by omega)
      · refine z_aload_n (i := 0) dX8_firstOverlapped_33 rfl rfl (q := 34) rfl ?_
        refine z_get dX8_firstOverlapped_34 fX8_18 (wo_x _ _ _) rfl (q := 37) rfl ?_
        refine z_iload dX8_firstOverlapped_37 rfl (q := 39) rfl ?_
        refine z_iload_n (i := 3) dX8_firstOverlapped_39 rfl rfl (q := 40) rfl ?_
        refine z_iload dX8_firstOverlapped_40 rfl (q := 42) rfl ?_
        refine z_callVF (As := [_, _, _]) dX8_firstOverlapped_42 kX8_318 (c_X0_meets (t := 1) (by decide) (by omega)) (wo_down _ _ _) rfl rfl (zle rfl) ⟨zle rfl, zle rfl⟩ ⟨zle rfl, zle rfl⟩ (q := 45) rfl ?_
        refine z_if_eq (tgt := 51) dX8_firstOverlapped_45 (by decide) (q := 48) rfl (fun h45 => ?_) (fun h45 => ?_)
        · rw [rfirst, if_neg (by first | exact fun h9 => h9.1 h15 | exact fun h9 => zb_0.mp h30 h9.2.1 | exact fun h9 => zb_0.mp h45 h9.2.2)]
          refine z_iinc dX8_firstOverlapped_51 rfl rfl (zle rfl) rfl (q := 54) rfl ?_
          refine z_goto (tgt := 3) dX8_firstOverlapped_54 (by decide) ?_
          refine Z.eql (zl2 := [some (.ref 0), some (.int s), some (.int l), some (.int t), some (.int w), some (.int h), some (.int (nI (i + 1)))]) (by show [_, _, _, _, _, _, some (Value.int (nI i + 1))] = _; rw [nI_1]) ?_
          exact ih (i + 1) (by omega)
        · refine z_iload dX8_firstOverlapped_48 rfl (q := 50) rfl ?_
          exact z_iret dX8_firstOverlapped_50 rfl ⟨zle rfl, zle rfl⟩ ⟨by rw [rfirst, if_pos ⟨h15, zb_1.mp h30, zb_1.mp h45⟩], rfl⟩
set_option maxRecDepth 100000 in
set_option maxHeartbeats 4000000 in
theorem c_X8_firstOverlapped {n : Nat} {s l t w h : Int32} (hn : X.1 0 = nI n) (h4 : n ≤ 4) : ZM G mX8_firstOverlapped 3 0 0 [.ref 0, .int s, .int l, .int t, .int w, .int h] (zw X Y O) (zEq (some (.int (rfirst (pover X s l t w h) 0 n))) (zw X Y O)) := by
  refine ZM.go pX8 rfl rfl (zle rfl) (zl := [some (.ref 0), some (.int s), some (.int l), some (.int t), some (.int w), some (.int h), none]) rfl ?_
  refine z_iconst (v := 0) dX8_firstOverlapped_0 rfl (q := 1) rfl ?_
  refine z_istore dX8_firstOverlapped_1 (zle rfl) rfl (q := 3) rfl ?_
  exact z_X8_firstOverlapped_3 hn h4 n 0 (by omega)
set_option maxRecDepth 100000 in
set_option maxHeartbeats 4000000 in
theorem c_X8_neededHeight {k : Nat} (hk : k < 4) (hw : 1 ≤ X.2.1 1 k / 2) : ZM G mX8_neededHeight 2 0 0 [.ref 0, .int (nI k)] (zw X Y O) (zEq (some (.int (zneed (X.2.1 1 k) (X.2.1 5 k)))) (zw X Y O)) := by
  refine ZM.go pX8 rfl rfl (zle rfl) (zl := [some (.ref 0), some (.int (nI k)), none, none]) rfl ?_
  refine z_aload_n (i := 0) dX8_neededHeight_0 rfl rfl (q := 1) rfl ?_
  refine z_get dX8_neededHeight_1 fX8_14 (wo_x _ _ _) rfl (q := 4) rfl ?_
  refine z_iload_n (i := 1) dX8_neededHeight_4 rfl rfl (q := 5) rfl ?_
  refine z_callVF (As := [_]) dX8_neededHeight_5 kX8_124 (c_X0_sizeAt (t := 0) (by decide) (by omega)) (wo_across _ _ _) rfl rfl (zle rfl) ⟨zle rfl, zle rfl⟩ ⟨zle rfl, zle rfl⟩ (q := 8) rfl ?_
  refine z_iconst (v := 2) dX8_neededHeight_8 rfl (q := 9) rfl ?_
  refine z_idiv dX8_neededHeight_9 (by decide) (q := 10) rfl ?_
  refine z_istore_n (i := 2) dX8_neededHeight_10 rfl (zle rfl) rfl (q := 11) rfl ?_
  refine z_iload_n (i := 2) dX8_neededHeight_11 rfl rfl (q := 12) rfl ?_
  refine z_iconst (v := 1) dX8_neededHeight_12 rfl (q := 13) rfl ?_
  refine z_icmp_ge (tgt := 18) dX8_neededHeight_13 (by decide) (q := 16) rfl (fun h13 => ?_) (fun h13 => absurd hw h13)
  refine z_aload_n (i := 0) dX8_neededHeight_18 rfl rfl (q := 19) rfl ?_
  refine z_get dX8_neededHeight_19 fX8_28 (wo_x _ _ _) rfl (q := 22) rfl ?_
  refine z_iload_n (i := 1) dX8_neededHeight_22 rfl rfl (q := 23) rfl ?_
  refine z_callVF (As := [_]) dX8_neededHeight_23 kX8_265 (c_X4_get  (wr_5 _ _ _) (by omega) (by decide)) (wr_5 _ _ _).1 rfl rfl (zle rfl) ⟨zle rfl, zle rfl⟩ ⟨zle rfl, zle rfl⟩ (q := 26) rfl ?_
  refine z_iload_n (i := 2) dX8_neededHeight_26 rfl rfl (q := 27) rfl ?_
  refine z_iadd dX8_neededHeight_27 (q := 28) rfl ?_
  refine z_iconst (v := 1) dX8_neededHeight_28 rfl (q := 29) rfl ?_
  refine z_isub dX8_neededHeight_29 (q := 30) rfl ?_
  refine z_iload_n (i := 2) dX8_neededHeight_30 rfl rfl (q := 31) rfl ?_
  refine z_idiv dX8_neededHeight_31 (fun h0 => absurd hw (by rw [show X.2.1 1 k / 2 = 0 from h0]; decide)) (q := 32) rfl ?_
  refine z_istore_n (i := 3) dX8_neededHeight_32 rfl (zle rfl) rfl (q := 33) rfl ?_
  refine z_iload_n (i := 3) dX8_neededHeight_33 rfl rfl (q := 34) rfl ?_
  refine z_iconst (v := 5) dX8_neededHeight_34 rfl (q := 35) rfl ?_
  refine z_imul dX8_neededHeight_35 (q := 36) rfl ?_
  exact z_iret dX8_neededHeight_36 rfl ⟨zle rfl, zle rfl⟩ ⟨rfl, rfl⟩
set_option maxRecDepth 100000 in
set_option maxHeartbeats 4000000 in
theorem c_X8_textFits {k : Nat} (hk : k < 4) (hw : 1 ≤ X.2.1 1 k / 2) : ZM G mX8_textFits 3 0 0 [.ref 0, .int (nI k)] (zw X Y O) (zEq (some (.int (zb (zneed (X.2.1 1 k) (X.2.1 5 k) ≤ X.2.1 3 k)))) (zw X Y O)) := by
  refine ZM.go pX8 rfl rfl (zle rfl) (zl := [some (.ref 0), some (.int (nI k))]) rfl ?_
  refine z_aload_n (i := 0) dX8_textFits_0 rfl rfl (q := 1) rfl ?_
  refine z_iload_n (i := 1) dX8_textFits_1 rfl rfl (q := 2) rfl ?_
  refine z_callVF (As := [_]) dX8_textFits_2 kX8_147 (c_X8_neededHeight hk hw) (wo_x _ _ _) rfl rfl (zle rfl) ⟨zle rfl, zle rfl⟩ ⟨zle rfl, zle rfl⟩ (q := 5) rfl ?_
  refine z_aload_n (i := 0) dX8_textFits_5 rfl rfl (q := 6) rfl ?_
  refine z_get dX8_textFits_6 fX8_18 (wo_x _ _ _) rfl (q := 9) rfl ?_
  refine z_iload_n (i := 1) dX8_textFits_9 rfl rfl (q := 10) rfl ?_
  refine z_callVF (As := [_]) dX8_textFits_10 kX8_124 (c_X0_sizeAt (t := 1) (by decide) (by omega)) (wo_down _ _ _) rfl rfl (zle rfl) ⟨zle rfl, zle rfl⟩ ⟨zle rfl, zle rfl⟩ (q := 13) rfl ?_
  refine z_icmp_gt (tgt := 20) dX8_textFits_13 (by decide) (q := 16) rfl (fun h13 => ?_) (fun h13 => ?_)
  · refine z_iconst (v := 0) dX8_textFits_20 rfl (q := 21) rfl ?_
    exact z_zret dX8_textFits_21 rfl rfl ⟨zle rfl, zle rfl⟩ (by first | exact zr1 (by assumption) | exact zr0 (by assumption) | exact zr1 (Int32.not_lt.mp (by assumption)) | exact zr0 (Int32.not_le.mpr (by assumption)))
  · refine z_iconst (v := 1) dX8_textFits_16 rfl (q := 17) rfl ?_
    refine z_goto (tgt := 21) dX8_textFits_17 (by decide) ?_
    exact z_zret dX8_textFits_21 rfl rfl ⟨zle rfl, zle rfl⟩ (by first | exact zr1 (by assumption) | exact zr0 (by assumption) | exact zr1 (Int32.not_lt.mp (by assumption)) | exact zr0 (Int32.not_le.mpr (by assumption)))
set_option maxRecDepth 100000 in
set_option maxHeartbeats 4000000 in
theorem c_X8_firstOverlappedIfGrown {n k : Nat} (hn : X.1 0 = nI n) (h4 : n ≤ 4) (hk : k < n) (hw : 1 ≤ X.2.1 1 k / 2) : ZM G mX8_firstOverlappedIfGrown 4 0 0 [.ref 0, .int (nI k)] (zw X Y O) (zEq (some (.int (rfirst (pover X (nI k) (X.2.1 0 k) (X.2.1 2 k) (X.2.1 1 k) (zneed (X.2.1 1 k) (X.2.1 5 k))) 0 n))) (zw X Y O)) := by
  refine ZM.go pX8 rfl rfl (zle rfl) (zl := [some (.ref 0), some (.int (nI k))]) rfl ?_
  refine z_aload_n (i := 0) dX8_firstOverlappedIfGrown_0 rfl rfl (q := 1) rfl ?_
  refine z_iload_n (i := 1) dX8_firstOverlappedIfGrown_1 rfl rfl (q := 2) rfl ?_
  refine z_aload_n (i := 0) dX8_firstOverlappedIfGrown_2 rfl rfl (q := 3) rfl ?_
  refine z_get dX8_firstOverlappedIfGrown_3 fX8_14 (wo_x _ _ _) rfl (q := 6) rfl ?_
  refine z_iload_n (i := 1) dX8_firstOverlappedIfGrown_6 rfl rfl (q := 7) rfl ?_
  refine z_callVF (As := [_]) dX8_firstOverlappedIfGrown_7 kX8_120 (c_X0_startAt (t := 0) (by decide) (by omega)) (wo_across _ _ _) rfl rfl (zle rfl) ⟨zle rfl, zle rfl⟩ ⟨zle rfl, zle rfl⟩ (q := 10) rfl ?_
  refine z_aload_n (i := 0) dX8_firstOverlappedIfGrown_10 rfl rfl (q := 11) rfl ?_
  refine z_get dX8_firstOverlappedIfGrown_11 fX8_18 (wo_x _ _ _) rfl (q := 14) rfl ?_
  refine z_iload_n (i := 1) dX8_firstOverlappedIfGrown_14 rfl rfl (q := 15) rfl ?_
  refine z_callVF (As := [_]) dX8_firstOverlappedIfGrown_15 kX8_120 (c_X0_startAt (t := 1) (by decide) (by omega)) (wo_down _ _ _) rfl rfl (zle rfl) ⟨zle rfl, zle rfl⟩ ⟨zle rfl, zle rfl⟩ (q := 18) rfl ?_
  refine z_aload_n (i := 0) dX8_firstOverlappedIfGrown_18 rfl rfl (q := 19) rfl ?_
  refine z_get dX8_firstOverlappedIfGrown_19 fX8_14 (wo_x _ _ _) rfl (q := 22) rfl ?_
  refine z_iload_n (i := 1) dX8_firstOverlappedIfGrown_22 rfl rfl (q := 23) rfl ?_
  refine z_callVF (As := [_]) dX8_firstOverlappedIfGrown_23 kX8_124 (c_X0_sizeAt (t := 0) (by decide) (by omega)) (wo_across _ _ _) rfl rfl (zle rfl) ⟨zle rfl, zle rfl⟩ ⟨zle rfl, zle rfl⟩ (q := 26) rfl ?_
  refine z_aload_n (i := 0) dX8_firstOverlappedIfGrown_26 rfl rfl (q := 27) rfl ?_
  refine z_iload_n (i := 1) dX8_firstOverlappedIfGrown_27 rfl rfl (q := 28) rfl ?_
  refine z_callVF (As := [_]) dX8_firstOverlappedIfGrown_28 kX8_147 (c_X8_neededHeight (by omega) hw) (wo_x _ _ _) rfl rfl (zle rfl) ⟨zle rfl, zle rfl⟩ ⟨zle rfl, zle rfl⟩ (q := 31) rfl ?_
  refine z_callVF (As := [_, _, _, _, _]) dX8_firstOverlappedIfGrown_31 kX8_91 (c_X8_firstOverlapped hn h4) (wo_x _ _ _) rfl rfl (zle rfl) ⟨zle rfl, zle rfl⟩ ⟨zle rfl, zle rfl⟩ (q := 34) rfl ?_
  exact z_iret dX8_firstOverlappedIfGrown_34 rfl ⟨zle rfl, zle rfl⟩ ⟨rfl, rfl⟩
set_option maxRecDepth 100000 in
set_option maxHeartbeats 4000000 in
theorem c_X8_grownLiesOnSlide {k : Nat} (hk : k < 4) (hw : 1 ≤ X.2.1 1 k / 2) : ZM G mX8_grownLiesOnSlide 3 0 0 [.ref 0, .int (nI k)] (zw X Y O) (zEq (some (.int (zb (zon 120 (X.2.1 2 k) (zneed (X.2.1 1 k) (X.2.1 5 k)))))) (zw X Y O)) := by
  refine ZM.go pX8 rfl rfl (zle rfl) (zl := [some (.ref 0), some (.int (nI k))]) rfl ?_
  refine z_aload_n (i := 0) dX8_grownLiesOnSlide_0 rfl rfl (q := 1) rfl ?_
  refine z_get dX8_grownLiesOnSlide_1 fX8_18 (wo_x _ _ _) rfl (q := 4) rfl ?_
  refine z_aload_n (i := 0) dX8_grownLiesOnSlide_4 rfl rfl (q := 5) rfl ?_
  refine z_get dX8_grownLiesOnSlide_5 fX8_18 (wo_x _ _ _) rfl (q := 8) rfl ?_
  refine z_iload_n (i := 1) dX8_grownLiesOnSlide_8 rfl rfl (q := 9) rfl ?_
  refine z_callVF (As := [_]) dX8_grownLiesOnSlide_9 kX8_120 (c_X0_startAt (t := 1) (by decide) hk) (wo_down _ _ _) rfl rfl (zle rfl) ⟨zle rfl, zle rfl⟩ ⟨zle rfl, zle rfl⟩ (q := 12) rfl ?_
  refine z_aload_n (i := 0) dX8_grownLiesOnSlide_12 rfl rfl (q := 13) rfl ?_
  refine z_iload_n (i := 1) dX8_grownLiesOnSlide_13 rfl rfl (q := 14) rfl ?_
  refine z_callVF (As := [_]) dX8_grownLiesOnSlide_14 kX8_147 (c_X8_neededHeight hk hw) (wo_x _ _ _) rfl rfl (zle rfl) ⟨zle rfl, zle rfl⟩ ⟨zle rfl, zle rfl⟩ (q := 17) rfl ?_
  refine z_callVF (As := [_, _]) dX8_grownLiesOnSlide_17 kX8_76 (c_X0_holds (t := 1) (by decide) ) (wo_down _ _ _) rfl rfl (zle rfl) ⟨zle rfl, zle rfl⟩ ⟨zle rfl, zle rfl⟩ (q := 20) rfl ?_
  exact z_zret dX8_grownLiesOnSlide_20 rfl zb_n ⟨zle rfl, zle rfl⟩ ⟨rfl, rfl⟩
set_option maxRecDepth 100000 in
set_option maxHeartbeats 4000000 in
theorem c_X8_requireDistance {s : Int32} (h : ¬ s < 0 ∧ s ≤ 200) : ZM G mX8_requireDistance 0 0 0 [.ref 0, .int s] (zw X Y O) (zEq none (zw X Y O)) := by
  refine ZM.go pX8 rfl rfl (zle rfl) (zl := [some (.ref 0), some (.int s)]) rfl ?_
  refine z_iload_n (i := 1) dX8_requireDistance_0 rfl rfl (q := 1) rfl ?_
  refine z_if_lt (tgt := 11) dX8_requireDistance_1 (by decide) (q := 4) rfl (fun h1 => absurd h1 h.1) (fun h1 => ?_)
  refine z_iload_n (i := 1) dX8_requireDistance_4 rfl rfl (q := 5) rfl ?_
  refine z_sipush (v := 200) dX8_requireDistance_5 rfl (q := 8) rfl ?_
  refine z_icmp_le (tgt := 22) dX8_requireDistance_8 (by decide) (q := 11) rfl (fun h8 => ?_) (fun h8 => absurd h.2 h8)
  exact z_vret dX8_requireDistance_22 rfl ⟨zle rfl, zle rfl⟩ ⟨rfl, rfl⟩
set_option maxRecDepth 100000 in
set_option maxHeartbeats 4000000 in
theorem c_X8_requireDistance_out {s : Int32} (h : ¬ (¬ s < 0 ∧ s ≤ 200)) : ZM G mX8_requireDistance 0 1 6 [.ref 0, .int s] (zw X Y O) (zTh eIAE (zw X Y O)) := by
  refine ZM.go pX8 rfl rfl (zle rfl) (zl := [some (.ref 0), some (.int s)]) rfl ?_
  refine z_iload_n (i := 1) dX8_requireDistance_0 rfl rfl (q := 1) rfl ?_
  refine z_if_lt (tgt := 11) dX8_requireDistance_1 (by decide) (q := 4) rfl (fun h1 => ?_) (fun h1 => ?_)
  · exact z_throwW dX8_requireDistance_11 dX8_requireDistance_14 dX8_requireDistance_15 dX8_requireDistance_18 dX8_requireDistance_21 xX8_69_312 rfl ⟨zle rfl, zle rfl, zle rfl, zle rfl⟩ ⟨rfl, rfl⟩
  · refine z_iload_n (i := 1) dX8_requireDistance_4 rfl rfl (q := 5) rfl ?_
    refine z_sipush (v := 200) dX8_requireDistance_5 rfl (q := 8) rfl ?_
    refine z_icmp_le (tgt := 22) dX8_requireDistance_8 (by decide) (q := 11) rfl (fun h8 => absurd ⟨h1, h8⟩ h) (fun h8 => ?_)
    exact z_throwW dX8_requireDistance_11 dX8_requireDistance_14 dX8_requireDistance_15 dX8_requireDistance_18 dX8_requireDistance_21 xX8_69_312 rfl ⟨zle rfl, zle rfl, zle rfl, zle rfl⟩ ⟨rfl, rfl⟩
set_option maxRecDepth 100000 in
set_option maxHeartbeats 4000000 in
theorem c_X8_requireWish {nw k : Nat} (h6 : X.1 6 = nI nw) (hk : k < nw) (hw : nw ≤ 8) (h : X.2.1 10 k = 0) : ZM G mX8_requireWish 2 0 0 [.ref 0, .int (nI k)] (zw X Y O) (zEq none (zw X Y O)) := by
  refine ZM.go pX8 rfl rfl (zle rfl) (zl := [some (.ref 0), some (.int (nI k))]) rfl ?_
  refine z_aload_n (i := 0) dX8_requireWish_0 rfl rfl (q := 1) rfl ?_
  refine z_get dX8_requireWish_1 fX8_34 (wo_x _ _ _) rfl (q := 4) rfl ?_
  refine z_iload_n (i := 1) dX8_requireWish_4 rfl rfl (q := 5) rfl ?_
  refine z_callVF (As := [_]) dX8_requireWish_5 kX8_206 (c_X7_isThere h6 hk hw) (wo_wishes _ _ _) rfl rfl (zle rfl) ⟨zle rfl, zle rfl⟩ ⟨zle rfl, zle rfl⟩ (q := 8) rfl ?_
  refine z_if_ne (tgt := 21) dX8_requireWish_8 (by decide) (q := 11) rfl (fun h8 => ?_) (fun h8 => absurd h (zb_0.mp h8))
  exact z_vret dX8_requireWish_21 rfl ⟨zle rfl, zle rfl⟩ ⟨rfl, rfl⟩
set_option maxRecDepth 100000 in
set_option maxHeartbeats 4000000 in
theorem c_X8_requireWish_dr {nw k : Nat} (h6 : X.1 6 = nI nw) (hk : k < nw) (hw : nw ≤ 8) (h : ¬ X.2.1 10 k = 0) : ZM G mX8_requireWish 2 1 6 [.ref 0, .int (nI k)] (zw X Y O) (zTh eNSE (zw X Y O)) := by
  refine ZM.go pX8 rfl rfl (zle rfl) (zl := [some (.ref 0), some (.int (nI k))]) rfl ?_
  refine z_aload_n (i := 0) dX8_requireWish_0 rfl rfl (q := 1) rfl ?_
  refine z_get dX8_requireWish_1 fX8_34 (wo_x _ _ _) rfl (q := 4) rfl ?_
  refine z_iload_n (i := 1) dX8_requireWish_4 rfl rfl (q := 5) rfl ?_
  refine z_callVF (As := [_]) dX8_requireWish_5 kX8_206 (c_X7_isThere h6 hk hw) (wo_wishes _ _ _) rfl rfl (zle rfl) ⟨zle rfl, zle rfl⟩ ⟨zle rfl, zle rfl⟩ (q := 8) rfl ?_
  refine z_if_ne (tgt := 21) dX8_requireWish_8 (by decide) (q := 11) rfl (fun h8 => absurd (zb_1.mp h8) h) (fun h8 => ?_)
  exact z_throwN dX8_requireWish_11 dX8_requireWish_14 dX8_requireWish_15 dX8_requireWish_17 dX8_requireWish_20 xX8_157_180 rfl ⟨zle rfl, zle rfl, zle rfl, zle rfl⟩ ⟨rfl, rfl⟩
set_option maxRecDepth 100000 in
set_option maxHeartbeats 4000000 in
theorem c_X8_requireWish_out {nw : Nat} {s : Int32} (h6 : X.1 6 = nI nw) (h : s < 0 ∨ nI nw ≤ s) : ZM G mX8_requireWish 2 1 6 [.ref 0, .int s] (zw X Y O) (zTh eNSE (zw X Y O)) := by
  refine ZM.go pX8 rfl rfl (zle rfl) (zl := [some (.ref 0), some (.int s)]) rfl ?_
  refine z_aload_n (i := 0) dX8_requireWish_0 rfl rfl (q := 1) rfl ?_
  refine z_get dX8_requireWish_1 fX8_34 (wo_x _ _ _) rfl (q := 4) rfl ?_
  refine z_iload_n (i := 1) dX8_requireWish_4 rfl rfl (q := 5) rfl ?_
  refine z_callVF (As := [_]) dX8_requireWish_5 kX8_206 (c_X7_isThere_out h6 h) (wo_wishes _ _ _) rfl rfl (zle rfl) ⟨zle rfl, zle rfl⟩ ⟨zle rfl, zle rfl⟩ (q := 8) rfl ?_
  refine z_if_ne (tgt := 21) dX8_requireWish_8 (by decide) (q := 11) rfl (fun h8 => absurd rfl h8) (fun h8 => ?_)
  exact z_throwN dX8_requireWish_11 dX8_requireWish_14 dX8_requireWish_15 dX8_requireWish_17 dX8_requireWish_20 xX8_157_180 rfl ⟨zle rfl, zle rfl, zle rfl, zle rfl⟩ ⟨rfl, rfl⟩
end
