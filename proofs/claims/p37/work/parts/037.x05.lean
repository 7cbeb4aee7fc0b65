section
variable {G : zG} {X : zX} {Y : zY} {O : zO}
set_option maxRecDepth 100000 in
set_option maxHeartbeats 4000000 in
def xadd (X : zX) (n : Nat) (l t w h : Int32) : zX := xrow (xrow (xrow (xrow (xrow (xrow X 0 (upd (X.2.1 0) n l) (nI (n + 1))) 1 (upd (X.2.1 1) n w) (nI (n + 1))) 2 (upd (X.2.1 2) n t) (nI (n + 1))) 3 (upd (X.2.1 3) n h) (nI (n + 1))) 4 (upd (X.2.1 4) n 0) (nI (n + 1))) 5 (upd (X.2.1 5) n 0) (nI (n + 1))
set_option maxRecDepth 100000 in
set_option maxHeartbeats 4000000 in
def A_addShape (X : zX) (n : Nat) (l t w h : Int32) : zRes × zX :=
  if w < 2 ∨ 200 < w ∨ h < 1 ∨ ¬ h ≤ 120 then (.inr eIAE, X)
  else if ¬ (zon 200 l w ∧ zon 120 t h) then (.inr eIAE, X)
  else if ¬ nI n < 4 then (.inr eISE, X)
  else if ¬ rfirst (pover X (-1) l t w h) 0 n = -1 then (.inr eUOE, X)
  else (.inl (some (.int (nI n))), xadd X n l t w h)
/- the six rows of the shapes have n each -/
set_option maxRecDepth 100000 in
set_option maxHeartbeats 4000000 in
def xlen (X : zX) (n : Nat) : Prop := X.1 0 = nI n ∧ X.1 1 = nI n ∧ X.1 2 = nI n ∧ X.1 3 = nI n ∧ X.1 4 = nI n ∧ X.1 5 = nI n
set_option maxRecDepth 100000 in
set_option maxHeartbeats 4000000 in
def mvh (X : zX) (n k : Nat) (l t : Int32) : Int32 :=
  if ¬ X.2.1 4 k = 0 then 108
  else if ¬ (zon 200 l (X.2.1 1 k) ∧ zon 120 t (X.2.1 3 k)) then 115
  else if rfirst (pover X (nI k) l t (X.2.1 1 k) (X.2.1 3 k)) 0 n = -1 then 110 else 111
set_option maxRecDepth 100000 in
set_option maxHeartbeats 4000000 in
def grh (X : zX) (n k : Nat) : Int32 :=
  if zneed (X.2.1 1 k) (X.2.1 5 k) ≤ X.2.1 3 k then 102
  else if ¬ X.2.1 4 k = 0 then 108
  else if ¬ zon 120 (X.2.1 2 k) (zneed (X.2.1 1 k) (X.2.1 5 k)) then 115
  else if rfirst (pover X (nI k) (X.2.1 0 k) (X.2.1 2 k) (X.2.1 1 k) (zneed (X.2.1 1 k) (X.2.1 5 k))) 0 n = -1 then 110 else 111
set_option maxRecDepth 100000 in
set_option maxHeartbeats 4000000 in
def A_moveTo (X : zX) (n k : Nat) (l t : Int32) : zRes × zX :=
  if mvh X n k l t = 108 then (.inr eISE, X) else if mvh X n k l t = 115 then (.inr eIAE, X) else if mvh X n k l t = 111 then (.inr eUOE, X)
  else (.inl (some (.int (iabs (l - X.2.1 0 k) + iabs (t - X.2.1 2 k)))), xmv (xrow (xrow X 0 (upd (X.2.1 0) k l) (X.1 0)) 2 (upd (X.2.1 2) k t) (X.1 2)) (X.2.2.2 + (iabs (l - X.2.1 0 k) + iabs (t - X.2.1 2 k)).toInt64))
set_option maxRecDepth 100000 in
set_option maxHeartbeats 4000000 in
def A_setText (X : zX) (k : Nat) (l : Int32) : zRes × zX :=
  if l < 0 ∨ ¬ l ≤ 400 then (.inr eIAE, X) else (.inl (some (.int (zneed (X.2.1 1 k) l))), xrow X 5 (upd (X.2.1 5) k l) (X.1 5))
set_option maxRecDepth 100000 in
set_option maxHeartbeats 4000000 in
def A_grow (X : zX) (n k : Nat) : zRes × zX :=
  if grh X n k = 102 then (.inr eNSE, X) else if grh X n k = 108 then (.inr eISE, X) else if ¬ grh X n k = 110 then (.inr eUOE, X)
  else (.inl (some (.int (zneed (X.2.1 1 k) (X.2.1 5 k)))), xrow X 3 (upd (X.2.1 3) k (zneed (X.2.1 1 k) (X.2.1 5 k))) (X.1 3))
set_option maxRecDepth 100000 in
set_option maxHeartbeats 4000000 in
def A_inTheWay (X : zX) (n k : Nat) : zRes :=
  if zneed (X.2.1 1 k) (X.2.1 5 k) ≤ X.2.1 3 k ∨ ¬ zon 120 (X.2.1 2 k) (zneed (X.2.1 1 k) (X.2.1 5 k)) then .inr eNSE
  else if rfirst (pover X (nI k) (X.2.1 0 k) (X.2.1 2 k) (X.2.1 1 k) (zneed (X.2.1 1 k) (X.2.1 5 k))) 0 n = -1 then .inr eNSE
  else .inl (some (.int (rfirst (pover X (nI k) (X.2.1 0 k) (X.2.1 2 k) (X.2.1 1 k) (zneed (X.2.1 1 k) (X.2.1 5 k))) 0 n)))
set_option maxRecDepth 100000 in
set_option maxHeartbeats 4000000 in
def A_addWish (X : zX) (nw : Nat) (kd a b f : Int32) : zRes × zX :=
  if ¬ (zkx kd ∨ zky kd) ∨ a = b ∨ f < 1 ∨ ¬ f ≤ 9 then (.inr eIAE, X) else if ¬ nI nw < 8 then (.inr eISE, X)
  else (.inl (some (.int (nI nw))), xwish X nw kd a b f)
set_option maxRecDepth 100000 in
set_option maxHeartbeats 4000000 in
theorem c_X8_moveHindrance {l t : Int32} {n k : Nat} (hn : X.1 0 = nI n) (h4 : n ≤ 4) (hk : k < n) : ZM G mX8_moveHindrance 4 0 0 [.ref 0, .int (nI k), .int l, .int t] (zw X Y O) (zEq (some (.int (mvh X n k l t))) (zw X Y O)) := by
  refine ZM.go pX8 rfl rfl (zle rfl) (zl := [some (.ref 0), some (.int (nI k)), some (.int l), some (.int t), none, none]) rfl ?_
  refine z_aload_n (i := 0) dX8_moveHindrance_0 rfl rfl (q := 1) rfl ?_
  refine z_get dX8_moveHindrance_1 fX8_14 (wo_x _ _ _) rfl (q := 4) rfl ?_
  refine z_iload_n (i := 1) dX8_moveHindrance_4 rfl rfl (q := 5) rfl ?_
  refine z_callVF (As := [_]) dX8_moveHindrance_5 kX8_124 (c_X0_sizeAt (t := 0) (by decide) (by omega)) (wo_across _ _ _) rfl rfl (zle rfl) ⟨zle rfl, zle rfl⟩ ⟨zle rfl, zle rfl⟩ (q := 8) rfl ?_
  refine z_istore dX8_moveHindrance_8 (zle rfl) rfl (q := 10) rfl ?_
  refine z_aload_n (i := 0) dX8_moveHindrance_10 rfl rfl (q := 11) rfl ?_
  refine z_get dX8_moveHindrance_11 fX8_18 (wo_x _ _ _) rfl (q := 14) rfl ?_
  refine z_iload_n (i := 1) dX8_moveHindrance_14 rfl rfl (q := 15) rfl ?_
  refine z_callVF (As := [_]) dX8_moveHindrance_15 kX8_124 (c_X0_sizeAt (t := 1) (by decide) (by omega)) (wo_down _ _ _) rfl rfl (zle rfl) ⟨zle rfl, zle rfl⟩ ⟨zle rfl, zle rfl⟩ (q := 18) rfl ?_
  refine z_istore dX8_moveHindrance_18 (zle rfl) rfl (q := 20) rfl ?_
  refine z_aload_n (i := 0) dX8_moveHindrance_20 rfl rfl (q := 21) rfl ?_
  refine z_iload_n (i := 1) dX8_moveHindrance_21 rfl rfl (q := 22) rfl ?_
  refine z_callVF (As := [_]) dX8_moveHindrance_22 kX8_109 (c_X8_isLockedShape (by omega)) (wo_x _ _ _) rfl rfl (zle rfl) ⟨zle rfl, zle rfl⟩ ⟨zle rfl, zle rfl⟩ (q := 25) rfl ?_
  refine z_if_eq (tgt := 31) dX8_moveHindrance_25 (by decide) (q := 28) rfl (fun h25 => ?_) (fun h25 => ?_)
  · replace h25 := zb_0.mp h25
    refine z_aload_n (i := 0) dX8_moveHindrance_31 rfl rfl (q := 32) rfl ?_
    refine z_get dX8_moveHindrance_32 fX8_14 (wo_x _ _ _) rfl (q := 35) rfl ?_
    refine z_iload_n (i := 2) dX8_moveHindrance_35 rfl rfl (q := 36) rfl ?_
    refine z_iload dX8_moveHindrance_36 rfl (q := 38) rfl ?_
    refine z_callVF (As := [_, _]) dX8_moveHindrance_38 kX8_76 (c_X0_holds (t := 0) (by decide) ) (wo_across _ _ _) rfl rfl (zle rfl) ⟨zle rfl, zle rfl⟩ ⟨zle rfl, zle rfl⟩ (q := 41) rfl ?_
    refine z_if_eq (tgt := 57) dX8_moveHindrance_41 (by decide) (q := 44) rfl (fun h41 => ?_) (fun h41 => ?_)
    · replace h41 := zb_0.mp h41
      refine z_bipush (v := 115) dX8_moveHindrance_57 rfl (q := 59) rfl ?_
      exact z_zret dX8_moveHindrance_59 rfl rfl ⟨zle rfl, zle rfl⟩ (by constructor <;> simp_all [mvh, zon, zlim, -Int32.not_le, -Int32.not_lt])
    · replace h41 := zb_1.mp h41
      refine z_aload_n (i := 0) dX8_moveHindrance_44 rfl rfl (q := 45) rfl ?_
      refine z_get dX8_moveHindrance_45 fX8_18 (wo_x _ _ _) rfl (q := 48) rfl ?_
      refine z_iload_n (i := 3) dX8_moveHindrance_48 rfl rfl (q := 49) rfl ?_
      refine z_iload dX8_moveHindrance_49 rfl (q := 51) rfl ?_
      refine z_callVF (As := [_, _]) dX8_moveHindrance_51 kX8_76 (c_X0_holds (t := 1) (by decide) ) (wo_down _ _ _) rfl rfl (zle rfl) ⟨zle rfl, zle rfl⟩ ⟨zle rfl, zle rfl⟩ (q := 54) rfl ?_
      refine z_if_ne (tgt := 60) dX8_moveHindrance_54 (by decide) (q := 57) rfl (fun h54 => ?_) (fun h54 => ?_)
      · replace h54 := zb_1.mp h54
        refine z_aload_n (i := 0) dX8_moveHindrance_60 rfl rfl (q := 61) rfl ?_
        refine z_iload_n (i := 1) dX8_moveHindrance_61 rfl rfl (q := 62) rfl ?_
        refine z_iload_n (i := 2) dX8_moveHindrance_62 rfl rfl (q := 63) rfl ?_
        refine z_iload_n (i := 3) dX8_moveHindrance_63 rfl rfl (q := 64) rfl ?_
        refine z_iload dX8_moveHindrance_64 rfl (q := 66) rfl ?_
        refine z_iload dX8_moveHindrance_66 rfl (q := 68) rfl ?_
        refine z_callVF (As := [_, _, _, _, _]) dX8_moveHindrance_68 kX8_91 (c_X8_firstOverlapped hn h4) (wo_x _ _ _) rfl rfl (zle rfl) ⟨zle rfl, zle rfl⟩ ⟨zle rfl, zle rfl⟩ (q := 71) rfl ?_
        refine z_iconst (v := (-1)) dX8_moveHindrance_71 rfl (q := 72) rfl ?_
        refine z_icmp_ne (tgt := 80) dX8_moveHindrance_72 (by decide) (q := 75) rfl (fun h72 => ?_) (fun h72 => ?_)
        · refine z_bipush (v := 111) dX8_moveHindrance_80 rfl (q := 82) rfl ?_
          exact z_zret dX8_moveHindrance_82 rfl rfl ⟨zle rfl, zle rfl⟩ (by constructor <;> simp_all [mvh, zon, zlim, -Int32.not_le, -Int32.not_lt])
        · refine z_bipush (v := 110) dX8_moveHindrance_75 rfl (q := 77) rfl ?_
          refine z_goto (tgt := 82) dX8_moveHindrance_77 (by decide) ?_
          exact z_zret dX8_moveHindrance_82 rfl rfl ⟨zle rfl, zle rfl⟩ (by constructor <;> simp_all [mvh, zon, zlim, -Int32.not_le, -Int32.not_lt])
      · replace h54 := zb_0.mp h54
        refine z_bipush (v := 115) dX8_moveHindrance_57 rfl (q := 59) rfl ?_
        exact z_zret dX8_moveHindrance_59 rfl rfl ⟨zle rfl, zle rfl⟩ (by constructor <;> simp_all [mvh, zon, zlim, -Int32.not_le, -Int32.not_lt])
  · replace h25 := zb_1.mp h25
    refine z_bipush (v := 108) dX8_moveHindrance_28 rfl (q := 30) rfl ?_
    exact z_zret dX8_moveHindrance_30 rfl rfl ⟨zle rfl, zle rfl⟩ (by constructor <;> simp_all [mvh, zon, zlim, -Int32.not_le, -Int32.not_lt])
set_option maxRecDepth 100000 in
set_option maxHeartbeats 4000000 in
theorem c_X8_growHindrance {n k : Nat} (hn : X.1 0 = nI n) (h4 : n ≤ 4) (hk : k < n) (hw : 1 ≤ X.2.1 1 k / 2) : ZM G mX8_growHindrance 5 0 0 [.ref 0, .int (nI k)] (zw X Y O) (zEq (some (.int (grh X n k))) (zw X Y O)) := by
  refine ZM.go pX8 rfl rfl (zle rfl) (zl := [some (.ref 0), some (.int (nI k))]) rfl ?_
  refine z_aload_n (i := 0) dX8_growHindrance_0 rfl rfl (q := 1) rfl ?_
  refine z_iload_n (i := 1) dX8_growHindrance_1 rfl rfl (q := 2) rfl ?_
  refine z_callVF (As := [_]) dX8_growHindrance_2 kX8_150 (c_X8_textFits (by omega) hw) (wo_x _ _ _) rfl rfl (zle rfl) ⟨zle rfl, zle rfl⟩ ⟨zle rfl, zle rfl⟩ (q := 5) rfl ?_
  refine z_if_eq (tgt := 11) dX8_growHindrance_5 (by decide) (q := 8) rfl (fun h5 => ?_) (fun h5 => ?_)
  · replace h5 := zb_0.mp h5
    refine z_aload_n (i := 0) dX8_growHindrance_11 rfl rfl (q := 12) rfl ?_
    refine z_iload_n (i := 1) dX8_growHindrance_12 rfl rfl (q := 13) rfl ?_
    refine z_callVF (As := [_]) dX8_growHindrance_13 kX8_109 (c_X8_isLockedShape (by omega)) (wo_x _ _ _) rfl rfl (zle rfl) ⟨zle rfl, zle rfl⟩ ⟨zle rfl, zle rfl⟩ (q := 16) rfl ?_
    refine z_if_eq (tgt := 22) dX8_growHindrance_16 (by decide) (q := 19) rfl (fun h16 => ?_) (fun h16 => ?_)
    · replace h16 := zb_0.mp h16
      refine z_aload_n (i := 0) dX8_growHindrance_22 rfl rfl (q := 23) rfl ?_
      refine z_iload_n (i := 1) dX8_growHindrance_23 rfl rfl (q := 24) rfl ?_
      refine z_callVF (As := [_]) dX8_growHindrance_24 kX8_167 (c_X8_grownLiesOnSlide (by omega) hw) (wo_x _ _ _) rfl rfl (zle rfl) ⟨zle rfl, zle rfl⟩ ⟨zle rfl, zle rfl⟩ (q := 27) rfl ?_
      refine z_if_ne (tgt := 33) dX8_growHindrance_27 (by decide) (q := 30) rfl (fun h27 => ?_) (fun h27 => ?_)
      · replace h27 := zb_1.mp h27
        refine z_aload_n (i := 0) dX8_growHindrance_33 rfl rfl (q := 34) rfl ?_
        refine z_iload_n (i := 1) dX8_growHindrance_34 rfl rfl (q := 35) rfl ?_
        refine z_callVF (As := [_]) dX8_growHindrance_35 kX8_172 (c_X8_firstOverlappedIfGrown hn h4 hk hw) (wo_x _ _ _) rfl rfl (zle rfl) ⟨zle rfl, zle rfl⟩ ⟨zle rfl, zle rfl⟩ (q := 38) rfl ?_
        refine z_iconst (v := (-1)) dX8_growHindrance_38 rfl (q := 39) rfl ?_
        refine z_icmp_ne (tgt := 47) dX8_growHindrance_39 (by decide) (q := 42) rfl (fun h39 => ?_) (fun h39 => ?_)
        · refine z_bipush (v := 111) dX8_growHindrance_47 rfl (q := 49) rfl ?_
          exact z_zret dX8_growHindrance_49 rfl rfl ⟨zle rfl, zle rfl⟩ (by constructor <;> simp_all [grh, zon, zlim, -Int32.not_le, -Int32.not_lt])
        · refine z_bipush (v := 110) dX8_growHindrance_42 rfl (q := 44) rfl ?_
          refine z_goto (tgt := 49) dX8_growHindrance_44 (by decide) ?_
          exact z_zret dX8_growHindrance_49 rfl rfl ⟨zle rfl, zle rfl⟩ (by constructor <;> simp_all [grh, zon, zlim, -Int32.not_le, -Int32.not_lt])
      · replace h27 := zb_0.mp h27
        refine z_bipush (v := 115) dX8_growHindrance_30 rfl (q := 32) rfl ?_
        exact z_zret dX8_growHindrance_32 rfl rfl ⟨zle rfl, zle rfl⟩ (by constructor <;> simp_all [grh, zon, zlim, -Int32.not_le, -Int32.not_lt])
    · replace h16 := zb_1.mp h16
      refine z_bipush (v := 108) dX8_growHindrance_19 rfl (q := 21) rfl ?_
      exact z_zret dX8_growHindrance_21 rfl rfl ⟨zle rfl, zle rfl⟩ (by constructor <;> simp_all [grh, zon, zlim, -Int32.not_le, -Int32.not_lt])
  · replace h5 := zb_1.mp h5
    refine z_bipush (v := 102) dX8_growHindrance_8 rfl (q := 10) rfl ?_
    exact z_zret dX8_growHindrance_10 rfl rfl ⟨zle rfl, zle rfl⟩ (by constructor <;> simp_all [grh, zon, zlim, -Int32.not_le, -Int32.not_lt])
set_option maxRecDepth 100000 in
set_option maxHeartbeats 4000000 in
theorem c_X8_addShape {n : Nat} {l t w h : Int32} (hx : xlen X n) (h4 : n ≤ 4) : ZM G mX8_addShape 4 1 6 [.ref 0, .int l, .int t, .int w, .int h] (zw X Y O) (zR (A_addShape X n l t w h).1 (zw (A_addShape X n l t w h).2 Y O)) := by
  obtain ⟨hn, g1, g2, g3, g4, g5⟩ := hx
  refine ZM.go pX8 rfl rfl (zle rfl) (zl := [some (.ref 0), some (.int l), some (.int t), some (.int w), some (.int h)]) rfl ?_
  refine z_iload_n (i := 3) dX8_addShape_0 rfl rfl (q := 1) rfl ?_
  refine z_iconst (v := 2) dX8_addShape_1 rfl (q := 2) rfl ?_
  refine z_icmp_lt (tgt := 25) dX8_addShape_2 (by decide) (q := 5) rfl (fun h2 => ?_) (fun h2 => ?_)
  · exact z_throw dX8_addShape_25 dX8_addShape_28 dX8_addShape_29 dX8_addShape_31 dX8_addShape_34 xX8_69_71 rfl ⟨zle rfl, zle rfl, zle rfl, zle rfl⟩ (by constructor <;> simp_all [A_addShape, zon, zlim, -Int32.not_le, -Int32.not_lt])
  · refine z_iload_n (i := 3) dX8_addShape_5 rfl rfl (q := 6) rfl ?_
    refine z_sipush (v := 200) dX8_addShape_6 rfl (q := 9) rfl ?_
    refine z_icmp_gt (tgt := 25) dX8_addShape_9 (by decide) (q := 12) rfl (fun h9 => ?_) (fun h9 => ?_)
    · exact z_throw dX8_addShape_25 dX8_addShape_28 dX8_addShape_29 dX8_addShape_31 dX8_addShape_34 xX8_69_71 rfl ⟨zle rfl, zle rfl, zle rfl, zle rfl⟩ (by constructor <;> simp_all [A_addShape, zon, zlim, -Int32.not_le, -Int32.not_lt])
    · refine z_iload dX8_addShape_12 rfl (q := 14) rfl ?_
      refine z_iconst (v := 1) dX8_addShape_14 rfl (q := 15) rfl ?_
      refine z_icmp_lt (tgt := 25) dX8_addShape_15 (by decide) (q := 18) rfl (fun h15 => ?_) (fun h15 => ?_)
      · exact z_throw dX8_addShape_25 dX8_addShape_28 dX8_addShape_29 dX8_addShape_31 dX8_addShape_34 xX8_69_71 rfl ⟨zle rfl, zle rfl, zle rfl, zle rfl⟩ (by constructor <;> simp_all [A_addShape, zon, zlim, -Int32.not_le, -Int32.not_lt])
      · refine z_iload dX8_addShape_18 rfl (q := 20) rfl ?_
        refine z_bipush (v := 120) dX8_addShape_20 rfl (q := 22) rfl ?_
        refine z_icmp_le (tgt := 35) dX8_addShape_22 (by decide) (q := 25) rfl (fun h22 => ?_) (fun h22 => ?_)
        · refine z_aload_n (i := 0) dX8_addShape_35 rfl rfl (q := 36) rfl ?_
          refine z_get dX8_addShape_36 fX8_14 (wo_x _ _ _) rfl (q := 39) rfl ?_
          refine z_iload_n (i := 1) dX8_addShape_39 rfl rfl (q := 40) rfl ?_
          refine z_iload_n (i := 3) dX8_addShape_40 rfl rfl (q := 41) rfl ?_
          refine z_callVF (As := [_, _]) dX8_addShape_41 kX8_76 (c_X0_holds (t := 0) (by decide) ) (wo_across _ _ _) rfl rfl (zle rfl) ⟨zle rfl, zle rfl⟩ ⟨zle rfl, zle rfl⟩ (q := 44) rfl ?_
          refine z_if_eq (tgt := 60) dX8_addShape_44 (by decide) (q := 47) rfl (fun h44 => ?_) (fun h44 => ?_)
          · replace h44 := zb_0.mp h44
            exact z_throw dX8_addShape_60 dX8_addShape_63 dX8_addShape_64 dX8_addShape_66 dX8_addShape_69 xX8_69_80 rfl ⟨zle rfl, zle rfl, zle rfl, zle rfl⟩ (by constructor <;> simp_all [A_addShape, zon, zlim, -Int32.not_le, -Int32.not_lt])
          · replace h44 := zb_1.mp h44
            refine z_aload_n (i := 0) dX8_addShape_47 rfl rfl (q := 48) rfl ?_
            refine z_get dX8_addShape_48 fX8_18 (wo_x _ _ _) rfl (q := 51) rfl ?_
            refine z_iload_n (i := 2) dX8_addShape_51 rfl rfl (q := 52) rfl ?_
            refine z_iload dX8_addShape_52 rfl (q := 54) rfl ?_
            refine z_callVF (As := [_, _]) dX8_addShape_54 kX8_76 (c_X0_holds (t := 1) (by decide) ) (wo_down _ _ _) rfl rfl (zle rfl) ⟨zle rfl, zle rfl⟩ ⟨zle rfl, zle rfl⟩ (q := 57) rfl ?_
            refine z_if_ne (tgt := 70) dX8_addShape_57 (by decide) (q := 60) rfl (fun h57 => ?_) (fun h57 => ?_)
            · replace h57 := zb_1.mp h57
              refine z_aload_n (i := 0) dX8_addShape_70 rfl rfl (q := 71) rfl ?_
              refine z_callVF (As := []) dX8_addShape_71 kX8_82 (c_X8_shapeCount ) (wo_x _ _ _) rfl rfl (zle rfl) ⟨zle rfl, zle rfl⟩ ⟨zle rfl, zle rfl⟩ (q := 74) rfl ?_
              refine z_iconst (v := 4) dX8_addShape_74 rfl (q := 75) rfl ?_
              rw [hn]
              refine z_icmp_lt (tgt := 88) dX8_addShape_75 (by decide) (q := 78) rfl (fun h75 => ?_) (fun h75 => ?_)
              · refine z_aload_n (i := 0) dX8_addShape_88 rfl rfl (q := 89) rfl ?_
                refine z_iconst (v := (-1)) dX8_addShape_89 rfl (q := 90) rfl ?_
                refine z_iload_n (i := 1) dX8_addShape_90 rfl rfl (q := 91) rfl ?_
                refine z_iload_n (i := 2) dX8_addShape_91 rfl rfl (q := 92) rfl ?_
                refine z_iload_n (i := 3) dX8_addShape_92 rfl rfl (q := 93) rfl ?_
                refine z_iload dX8_addShape_93 rfl (q := 95) rfl ?_
                refine z_callVF (As := [_, _, _, _, _]) dX8_addShape_95 kX8_91 (c_X8_firstOverlapped hn h4) (wo_x _ _ _) rfl rfl (zle rfl) ⟨zle rfl, zle rfl⟩ ⟨zle rfl, zle rfl⟩ (q := 98) rfl ?_
                refine z_iconst (v := (-1)) dX8_addShape_98 rfl (q := 99) rfl ?_
                refine z_icmp_eq (tgt := 112) dX8_addShape_99 (by decide) (q := 102) rfl (fun h99 => ?_) (fun h99 => ?_)
                · have hlt : n < 4 := (nI_ltI (by omega) (by decide)).mp (show nI n < nI 4 from h75)
                  refine z_aload_n (i := 0) dX8_addShape_112 rfl rfl (q := 113) rfl ?_
                  refine z_get dX8_addShape_113 fX8_14 (wo_x _ _ _) rfl (q := 116) rfl ?_
                  refine z_iload_n (i := 1) dX8_addShape_116 rfl rfl (q := 117) rfl ?_
                  refine z_iload_n (i := 3) dX8_addShape_117 rfl rfl (q := 118) rfl ?_
                  refine z_callVF (As := [_, _]) dX8_addShape_118 kX8_100 (c_X0_append (t := 0) (by decide) hlt hn g1) (wo_across _ _ _) rfl rfl (zle rfl) ⟨zle rfl, zle rfl⟩ ⟨zle rfl, zle rfl⟩ (q := 121) rfl ?_
                  refine z_aload_n (i := 0) dX8_addShape_121 rfl rfl (q := 122) rfl ?_
                  refine z_get dX8_addShape_122 fX8_18 (wo_x _ _ _) rfl (q := 125) rfl ?_
                  refine z_iload_n (i := 2) dX8_addShape_125 rfl rfl (q := 126) rfl ?_
                  refine z_iload dX8_addShape_126 rfl (q := 128) rfl ?_
                  refine z_callVF (As := [_, _]) dX8_addShape_128 kX8_100 (c_X0_append (t := 1) (by decide) hlt (by simp [xrow, va_up, *]) (by simp [xrow, va_up, *])) (wo_down _ _ _) rfl rfl (zle rfl) ⟨zle rfl, zle rfl⟩ ⟨zle rfl, zle rfl⟩ (q := 131) rfl ?_
                  refine z_aload_n (i := 0) dX8_addShape_131 rfl rfl (q := 132) rfl ?_
                  refine z_get dX8_addShape_132 fX8_24 (wo_x _ _ _) rfl (q := 135) rfl ?_
                  refine z_iconst (v := 0) dX8_addShape_135 rfl (q := 136) rfl ?_
                  refine z_callVF (As := [_]) dX8_addShape_136 kX8_104 (c_X4_append' (k := n) (wr_4 _ _ _) (by simp [xrow, va_up, *]) (by omega) (by decide)) (wr_4 _ _ _).1 rfl rfl (zle rfl) ⟨zle rfl, zle rfl⟩ ⟨zle rfl, zle rfl⟩ (q := 139) rfl ?_
                  refine Z.eqw (wp_4 _ _ _ _ _) ?_
                  refine z_aload_n (i := 0) dX8_addShape_139 rfl rfl (q := 140) rfl ?_
                  refine z_get dX8_addShape_140 fX8_28 (wo_x _ _ _) rfl (q := 143) rfl ?_
                  refine z_iconst (v := 0) dX8_addShape_143 rfl (q := 144) rfl ?_
                  refine z_callVF (As := [_]) dX8_addShape_144 kX8_104 (c_X4_append' (k := n) (wr_5 _ _ _) (by simp [xrow, va_up, *]) (by omega) (by decide)) (wr_5 _ _ _).1 rfl rfl (zle rfl) ⟨zle rfl, zle rfl⟩ ⟨zle rfl, zle rfl⟩ (q := 147) rfl ?_
                  refine Z.eqw (wp_5 _ _ _ _ _) ?_
                  refine z_aload_n (i := 0) dX8_addShape_147 rfl rfl (q := 148) rfl ?_
                  refine z_callVF (As := []) dX8_addShape_148 kX8_82 (c_X8_shapeCount ) (wo_x _ _ _) rfl rfl (zle rfl) ⟨zle rfl, zle rfl⟩ ⟨zle rfl, zle rfl⟩ (q := 151) rfl ?_
                  refine z_iconst (v := 1) dX8_addShape_151 rfl (q := 152) rfl ?_
                  refine z_isub dX8_addShape_152 (q := 153) rfl ?_
                  exact z_iret dX8_addShape_153 rfl ⟨zle rfl, zle rfl⟩ (by constructor <;> simp_all [A_addShape, zon, zlim, xadd, xrow, va_up, nI_pred, -Int32.not_le, -Int32.not_lt])
                · exact z_throw dX8_addShape_102 dX8_addShape_105 dX8_addShape_106 dX8_addShape_108 dX8_addShape_111 xX8_95_97 rfl ⟨zle rfl, zle rfl, zle rfl, zle rfl⟩ (by constructor <;> simp_all [A_addShape, zon, zlim, -Int32.not_le, -Int32.not_lt])
              · exact z_throw dX8_addShape_78 dX8_addShape_81 dX8_addShape_82 dX8_addShape_84 dX8_addShape_87 xX8_86_88 rfl ⟨zle rfl, zle rfl, zle rfl, zle rfl⟩ (by constructor <;> simp_all [A_addShape, zon, zlim, -Int32.not_le, -Int32.not_lt])
            · replace h57 := zb_0.mp h57
              exact z_throw dX8_addShape_60 dX8_addShape_63 dX8_addShape_64 dX8_addShape_66 dX8_addShape_69 xX8_69_80 rfl ⟨zle rfl, zle rfl, zle rfl, zle rfl⟩ (by constructor <;> simp_all [A_addShape, zon, zlim, -Int32.not_le, -Int32.not_lt])
        · exact z_throw dX8_addShape_25 dX8_addShape_28 dX8_addShape_29 dX8_addShape_31 dX8_addShape_34 xX8_69_71 rfl ⟨zle rfl, zle rfl, zle rfl, zle rfl⟩ (by constructor <;> simp_all [A_addShape, zon, zlim, -Int32.not_le, -Int32.not_lt])
set_option maxRecDepth 100000 in
set_option maxHeartbeats 4000000 in
theorem c_X8_setLocked {n k : Nat} (hn : X.1 0 = nI n) (h4 : n ≤ 4) (hk : k < n) {b : Int32} : ZM G mX8_setLocked 4 1 6 [.ref 0, .int (nI k), .int b] (zw X Y O) (zR (.inl (some (.int (zb (¬ X.2.1 4 k = 0))))) (zw (xrow X 4 (upd (X.2.1 4) k (zb (¬ b = 0))) (X.1 4)) Y O)) := by
  refine ZM.go pX8 rfl rfl (zle rfl) (zl := [some (.ref 0), some (.int (nI k)), some (.int b), none]) rfl ?_
  refine z_aload_n (i := 0) dX8_setLocked_0 rfl rfl (q := 1) rfl ?_
  refine z_iload_n (i := 1) dX8_setLocked_1 rfl rfl (q := 2) rfl ?_
  refine z_callVF (As := [_]) dX8_setLocked_2 kX8_106 (c_X8_requireShape hn h4 hk) (wo_x _ _ _) rfl rfl (zle rfl) ⟨zle rfl, zle rfl⟩ ⟨zle rfl, zle rfl⟩ (q := 5) rfl ?_
  refine z_aload_n (i := 0) dX8_setLocked_5 rfl rfl (q := 6) rfl ?_
  refine z_iload_n (i := 1) dX8_setLocked_6 rfl rfl (q := 7) rfl ?_
  refine z_callVF (As := [_]) dX8_setLocked_7 kX8_109 (c_X8_isLockedShape (by omega)) (wo_x _ _ _) rfl rfl (zle rfl) ⟨zle rfl, zle rfl⟩ ⟨zle rfl, zle rfl⟩ (q := 10) rfl ?_
  refine z_istore_n (i := 3) dX8_setLocked_10 rfl (zle rfl) rfl (q := 11) rfl ?_
  refine z_aload_n (i := 0) dX8_setLocked_11 rfl rfl (q := 12) rfl ?_
  refine z_get dX8_setLocked_12 fX8_24 (wo_x _ _ _) rfl (q := 15) rfl ?_
  refine z_iload_n (i := 1) dX8_setLocked_15 rfl rfl (q := 16) rfl ?_
  refine z_iload_n (i := 2) dX8_setLocked_16 rfl rfl (q := 17) rfl ?_
  refine z_if_eq (tgt := 24) dX8_setLocked_17 (by decide) (q := 20) rfl (fun h17 => ?_) (fun h17 => ?_)
  · refine z_iconst (v := 0) dX8_setLocked_24 rfl (q := 25) rfl ?_
    refine z_callVF (As := [_, _]) dX8_setLocked_25 kX8_113 (c_X4_set  (wr_4 _ _ _) (by omega) (by decide)) (wr_4 _ _ _).1 rfl rfl (zle rfl) ⟨zle rfl, zle rfl⟩ ⟨zle rfl, zle rfl⟩ (q := 28) rfl ?_
    refine Z.eqw (wp_4 _ _ _ _ _) ?_
    refine z_iload_n (i := 3) dX8_setLocked_28 rfl rfl (q := 29) rfl ?_
    exact z_zret dX8_setLocked_29 rfl zb_n ⟨zle rfl, zle rfl⟩ ⟨rfl, by simp [zb, *]⟩
  · refine z_iconst (v := 1) dX8_setLocked_20 rfl (q := 21) rfl ?_
    refine z_goto (tgt := 25) dX8_setLocked_21 (by decide) ?_
    refine z_callVF (As := [_, _]) dX8_setLocked_25 kX8_113 (c_X4_set  (wr_4 _ _ _) (by omega) (by decide)) (wr_4 _ _ _).1 rfl rfl (zle rfl) ⟨zle rfl, zle rfl⟩ ⟨zle rfl, zle rfl⟩ (q := 28) rfl ?_
    refine Z.eqw (wp_4 _ _ _ _ _) ?_
    refine z_iload_n (i := 3) dX8_setLocked_28 rfl rfl (q := 29) rfl ?_
    exact z_zret dX8_setLocked_29 rfl zb_n ⟨zle rfl, zle rfl⟩ ⟨rfl, by simp [zb, *]⟩
set_option maxRecDepth 100000 in
set_option maxHeartbeats 4000000 in
theorem c_X8_setLocked_out {n : Nat} {s : Int32} (hn : X.1 0 = nI n) (h : s < 0 ∨ nI n ≤ s) {b : Int32} : ZM G mX8_setLocked 4 1 6 [.ref 0, .int s, .int b] (zw X Y O) (zTh eIOOBE (zw X Y O)) := by
  refine ZM.go pX8 rfl rfl (zle rfl) (zl := [some (.ref 0), some (.int s), some (.int b), none]) rfl ?_
  refine z_aload_n (i := 0) dX8_setLocked_0 rfl rfl (q := 1) rfl ?_
  refine z_iload_n (i := 1) dX8_setLocked_1 rfl rfl (q := 2) rfl ?_
  exact z_callVT (As := [_]) dX8_setLocked_2 kX8_106 (c_X8_requireShape_out hn h) (wo_x _ _ _) rfl rfl rfl (zle rfl) ⟨zle rfl, zle rfl⟩ ⟨zle rfl, zle rfl⟩ ⟨rfl, rfl⟩
set_option maxRecDepth 100000 in
set_option maxHeartbeats 4000000 in
theorem c_X8_startOf {n k : Nat} (hn : X.1 0 = nI n) (h4 : n ≤ 4) (hk : k < n) {t : Nat} (ht : t < 2) : ZM G mX8_startOf 4 1 6 [.ref 0, .int (nI k), .int (zch t)] (zw X Y O) (zEq (some (.int (X.2.1 (2 * t) k))) (zw X Y O)) := by
  refine ZM.go pX8 rfl rfl (zle rfl) (zl := [some (.ref 0), some (.int (nI k)), some (.int (zch t))]) rfl ?_
  refine z_aload_n (i := 0) dX8_startOf_0 rfl rfl (q := 1) rfl ?_
  refine z_iload_n (i := 1) dX8_startOf_1 rfl rfl (q := 2) rfl ?_
  refine z_callVF (As := [_]) dX8_startOf_2 kX8_106 (c_X8_requireShape hn h4 hk) (wo_x _ _ _) rfl rfl (zle rfl) ⟨zle rfl, zle rfl⟩ ⟨zle rfl, zle rfl⟩ (q := 5) rfl ?_
  refine z_aload_n (i := 0) dX8_startOf_5 rfl rfl (q := 6) rfl ?_
  refine z_iload_n (i := 2) dX8_startOf_6 rfl rfl (q := 7) rfl ?_
  refine z_callVF (As := [_]) dX8_startOf_7 kX8_116 (c_X8_axisNamed ht) (wo_x _ _ _) rfl rfl (zle rfl) ⟨zle rfl, zle rfl⟩ ⟨zle rfl, zle rfl⟩ (q := 10) rfl ?_
  refine z_iload_n (i := 1) dX8_startOf_10 rfl rfl (q := 11) rfl ?_
  refine z_callVF (As := [_]) dX8_startOf_11 kX8_120 (c_X0_startAt (t := t) ht (by omega)) (wax_o _ _ _ ht) rfl rfl (zle rfl) ⟨zle rfl, zle rfl⟩ ⟨zle rfl, zle rfl⟩ (q := 14) rfl ?_
  exact z_iret dX8_startOf_14 rfl ⟨zle rfl, zle rfl⟩ ⟨rfl, rfl⟩
set_option maxRecDepth 100000 in
set_option maxHeartbeats 4000000 in
theorem c_X8_startOf_out {n : Nat} {s : Int32} (hn : X.1 0 = nI n) (h : s < 0 ∨ nI n ≤ s) {c : Int32} : ZM G mX8_startOf 4 1 6 [.ref 0, .int s, .int c] (zw X Y O) (zTh eIOOBE (zw X Y O)) := by
  refine ZM.go pX8 rfl rfl (zle rfl) (zl := [some (.ref 0), some (.int s), some (.int c)]) rfl ?_
  refine z_aload_n (i := 0) dX8_startOf_0 rfl rfl (q := 1) rfl ?_
  refine z_iload_n (i := 1) dX8_startOf_1 rfl rfl (q := 2) rfl ?_
  exact z_callVT (As := [_]) dX8_startOf_2 kX8_106 (c_X8_requireShape_out hn h) (wo_x _ _ _) rfl rfl rfl (zle rfl) ⟨zle rfl, zle rfl⟩ ⟨zle rfl, zle rfl⟩ ⟨rfl, rfl⟩
set_option maxRecDepth 100000 in
set_option maxHeartbeats 4000000 in
theorem c_X8_startOf_ax {n k : Nat} (hn : X.1 0 = nI n) (h4 : n ≤ 4) (hk : k < n) {c : Int32} (h1 : ¬ c = 120) (h2 : ¬ c = 121) : ZM G mX8_startOf 4 1 6 [.ref 0, .int (nI k), .int c] (zw X Y O) (zTh eIAE (zw X Y O)) := by
  refine ZM.go pX8 rfl rfl (zle rfl) (zl := [some (.ref 0), some (.int (nI k)), some (.int c)]) rfl ?_
  refine z_aload_n (i := 0) dX8_startOf_0 rfl rfl (q := 1) rfl ?_
  refine z_iload_n (i := 1) dX8_startOf_1 rfl rfl (q := 2) rfl ?_
  refine z_callVF (As := [_]) dX8_startOf_2 kX8_106 (c_X8_requireShape hn h4 hk) (wo_x _ _ _) rfl rfl (zle rfl) ⟨zle rfl, zle rfl⟩ ⟨zle rfl, zle rfl⟩ (q := 5) rfl ?_
  refine z_aload_n (i := 0) dX8_startOf_5 rfl rfl (q := 6) rfl ?_
  refine z_iload_n (i := 2) dX8_startOf_6 rfl rfl (q := 7) rfl ?_
  exact z_callVT (As := [_]) dX8_startOf_7 kX8_116 (c_X8_axisNamed_out h1 h2) (wo_x _ _ _) rfl rfl rfl (zle rfl) ⟨zle rfl, zle rfl⟩ ⟨zle rfl, zle rfl⟩ ⟨rfl, rfl⟩
set_option maxRecDepth 100000 in
set_option maxHeartbeats 4000000 in
theorem c_X8_sizeOf {n k : Nat} (hn : X.1 0 = nI n) (h4 : n ≤ 4) (hk : k < n) {t : Nat} (ht : t < 2) : ZM G mX8_sizeOf 4 1 6 [.ref 0, .int (nI k), .int (zch t)] (zw X Y O) (zEq (some (.int (X.2.1 (2 * t + 1) k))) (zw X Y O)) := by
  refine ZM.go pX8 rfl rfl (zle rfl) (zl := [some (.ref 0), some (.int (nI k)), some (.int (zch t))]) rfl ?_
  refine z_aload_n (i := 0) dX8_sizeOf_0 rfl rfl (q := 1) rfl ?_
  refine z_iload_n (i := 1) dX8_sizeOf_1 rfl rfl (q := 2) rfl ?_
  refine z_callVF (As := [_]) dX8_sizeOf_2 kX8_106 (c_X8_requireShape hn h4 hk) (wo_x _ _ _) rfl rfl (zle rfl) ⟨zle rfl, zle rfl⟩ ⟨zle rfl, zle rfl⟩ (q := 5) rfl ?_
  refine z_aload_n (i := 0) dX8_sizeOf_5 rfl rfl (q := 6) rfl ?_
  refine z_iload_n (i := 2) dX8_sizeOf_6 rfl rfl (q := 7) rfl ?_
  refine z_callVF (As := [_]) dX8_sizeOf_7 kX8_116 (c_X8_axisNamed ht) (wo_x _ _ _) rfl rfl (zle rfl) ⟨zle rfl, zle rfl⟩ ⟨zle rfl, zle rfl⟩ (q := 10) rfl ?_
  refine z_iload_n (i := 1) dX8_sizeOf_10 rfl rfl (q := 11) rfl ?_
  refine z_callVF (As := [_]) dX8_sizeOf_11 kX8_124 (c_X0_sizeAt (t := t) ht (by omega)) (wax_o _ _ _ ht) rfl rfl (zle rfl) ⟨zle rfl, zle rfl⟩ ⟨zle rfl, zle rfl⟩ (q := 14) rfl ?_
  exact z_iret dX8_sizeOf_14 rfl ⟨zle rfl, zle rfl⟩ ⟨rfl, rfl⟩
set_option maxRecDepth 100000 in
set_option maxHeartbeats 4000000 in
theorem c_X8_sizeOf_out {n : Nat} {s : Int32} (hn : X.1 0 = nI n) (h : s < 0 ∨ nI n ≤ s) {c : Int32} : ZM G mX8_sizeOf 4 1 6 [.ref 0, .int s, .int c] (zw X Y O) (zTh eIOOBE (zw X Y O)) := by
  refine ZM.go pX8 rfl rfl (zle rfl) (zl := [some (.ref 0), some (.int s), some (.int c)]) rfl ?_
  refine z_aload_n (i := 0) dX8_sizeOf_0 rfl rfl (q := 1) rfl ?_
  refine z_iload_n (i := 1) dX8_sizeOf_1 rfl rfl (q := 2) rfl ?_
  exact z_callVT (As := [_]) dX8_sizeOf_2 kX8_106 (c_X8_requireShape_out hn h) (wo_x _ _ _) rfl rfl rfl (zle rfl) ⟨zle rfl, zle rfl⟩ ⟨zle rfl, zle rfl⟩ ⟨rfl, rfl⟩
set_option maxRecDepth 100000 in
set_option maxHeartbeats 4000000 in
theorem c_X8_sizeOf_ax {n k : Nat} (hn : X.1 0 = nI n) (h4 : n ≤ 4) (hk : k < n) {c : Int32} (h1 : ¬ c = 120) (h2 : ¬ c = 121) : ZM G mX8_sizeOf 4 1 6 [.ref 0, .int (nI k), .int c] (zw X Y O) (zTh eIAE (zw X Y O)) := by
  refine ZM.go pX8 rfl rfl (zle rfl) (zl := [some (.ref 0), some (.int (nI k)), some (.int c)]) rfl ?_
  refine z_aload_n (i := 0) dX8_sizeOf_0 rfl rfl (q := 1) rfl ?_
  refine z_iload_n (i := 1) dX8_sizeOf_1 rfl rfl (q := 2) rfl ?_
  refine z_callVF (As := [_]) dX8_sizeOf_2 kX8_106 (c_X8_requireShape hn h4 hk) (wo_x _ _ _) rfl rfl (zle rfl) ⟨zle rfl, zle rfl⟩ ⟨zle rfl, zle rfl⟩ (q := 5) rfl ?_
  refine z_aload_n (i := 0) dX8_sizeOf_5 rfl rfl (q := 6) rfl ?_
  refine z_iload_n (i := 2) dX8_sizeOf_6 rfl rfl (q := 7) rfl ?_
  exact z_callVT (As := [_]) dX8_sizeOf_7 kX8_116 (c_X8_axisNamed_out h1 h2) (wo_x _ _ _) rfl rfl rfl (zle rfl) ⟨zle rfl, zle rfl⟩ ⟨zle rfl, zle rfl⟩ ⟨rfl, rfl⟩
set_option maxRecDepth 100000 in
set_option maxHeartbeats 4000000 in
theorem c_X8_moveTo {l t : Int32} {n k : Nat} (hn : X.1 0 = nI n) (h4 : n ≤ 4) (hk : k < n) : ZM G mX8_moveTo 5 1 6 [.ref 0, .int (nI k), .int l, .int t] (zw X Y O) (zR (A_moveTo X n k l t).1 (zw (A_moveTo X n k l t).2 Y O)) := by
  refine ZM.go pX8 rfl rfl (zle rfl) (zl := [some (.ref 0), some (.int (nI k)), some (.int l), some (.int t), none, none]) rfl ?_
  refine z_aload_n (i := 0) dX8_moveTo_0 rfl rfl (q := 1) rfl ?_
  refine z_iload_n (i := 1) dX8_moveTo_1 rfl rfl (q := 2) rfl ?_
  refine z_callVF (As := [_]) dX8_moveTo_2 kX8_106 (c_X8_requireShape hn h4 hk) (wo_x _ _ _) rfl rfl (zle rfl) ⟨zle rfl, zle rfl⟩ ⟨zle rfl, zle rfl⟩ (q := 5) rfl ?_
  refine z_aload_n (i := 0) dX8_moveTo_5 rfl rfl (q := 6) rfl ?_
  refine z_iload_n (i := 1) dX8_moveTo_6 rfl rfl (q := 7) rfl ?_
  refine z_iload_n (i := 2) dX8_moveTo_7 rfl rfl (q := 8) rfl ?_
  refine z_iload_n (i := 3) dX8_moveTo_8 rfl rfl (q := 9) rfl ?_
  refine z_callVF (As := [_, _, _]) dX8_moveTo_9 kX8_127 (c_X8_moveHindrance hn h4 hk) (wo_x _ _ _) rfl rfl (zle rfl) ⟨zle rfl, zle rfl⟩ ⟨zle rfl, zle rfl⟩ (q := 12) rfl ?_
  refine z_istore dX8_moveTo_12 (zle rfl) rfl (q := 14) rfl ?_
  refine z_iload dX8_moveTo_14 rfl (q := 16) rfl ?_
  refine z_bipush (v := 108) dX8_moveTo_16 rfl (q := 18) rfl ?_
  refine z_icmp_ne (tgt := 31) dX8_moveTo_18 (by decide) (q := 21) rfl (fun h18 => ?_) (fun h18 => ?_)
  · refine z_iload dX8_moveTo_31 rfl (q := 33) rfl ?_
    refine z_bipush (v := 115) dX8_moveTo_33 rfl (q := 35) rfl ?_
    refine z_icmp_ne (tgt := 48) dX8_moveTo_35 (by decide) (q := 38) rfl (fun h35 => ?_) (fun h35 => ?_)
    · refine z_iload dX8_moveTo_48 rfl (q := 50) rfl ?_
      refine z_bipush (v := 111) dX8_moveTo_50 rfl (q := 52) rfl ?_
      refine z_icmp_ne (tgt := 65) dX8_moveTo_52 (by decide) (q := 55) rfl (fun h52 => ?_) (fun h52 => ?_)
      · refine z_iload_n (i := 2) dX8_moveTo_65 rfl rfl (q := 66) rfl ?_
        refine z_aload_n (i := 0) dX8_moveTo_66 rfl rfl (q := 67) rfl ?_
        refine z_get dX8_moveTo_67 fX8_14 (wo_x _ _ _) rfl (q := 70) rfl ?_
        refine z_iload_n (i := 1) dX8_moveTo_70 rfl rfl (q := 71) rfl ?_
        refine z_callVF (As := [_]) dX8_moveTo_71 kX8_120 (c_X0_startAt (t := 0) (by decide) (by omega)) (wo_across _ _ _) rfl rfl (zle rfl) ⟨zle rfl, zle rfl⟩ ⟨zle rfl, zle rfl⟩ (q := 74) rfl ?_
        refine z_isub dX8_moveTo_74 (q := 75) rfl ?_
        refine z_abs dX8_moveTo_75 kX8_137 (zle rfl) ⟨zle rfl, zle rfl, zle rfl, zle rfl⟩ (q := 78) rfl ?_
        refine z_iload_n (i := 3) dX8_moveTo_78 rfl rfl (q := 79) rfl ?_
        refine z_aload_n (i := 0) dX8_moveTo_79 rfl rfl (q := 80) rfl ?_
        refine z_get dX8_moveTo_80 fX8_18 (wo_x _ _ _) rfl (q := 83) rfl ?_
        refine z_iload_n (i := 1) dX8_moveTo_83 rfl rfl (q := 84) rfl ?_
        refine z_callVF (As := [_]) dX8_moveTo_84 kX8_120 (c_X0_startAt (t := 1) (by decide) (by omega)) (wo_down _ _ _) rfl rfl (zle rfl) ⟨zle rfl, zle rfl⟩ ⟨zle rfl, zle rfl⟩ (q := 87) rfl ?_
        refine z_isub dX8_moveTo_87 (q := 88) rfl ?_
        refine z_abs dX8_moveTo_88 kX8_137 (zle rfl) ⟨zle rfl, zle rfl, zle rfl, zle rfl⟩ (q := 91) rfl ?_
        refine z_iadd dX8_moveTo_91 (q := 92) rfl ?_
        refine z_istore dX8_moveTo_92 (zle rfl) rfl (q := 94) rfl ?_
        refine z_aload_n (i := 0) dX8_moveTo_94 rfl rfl (q := 95) rfl ?_
        refine z_get dX8_moveTo_95 fX8_14 (wo_x _ _ _) rfl (q := 98) rfl ?_
        refine z_iload_n (i := 1) dX8_moveTo_98 rfl rfl (q := 99) rfl ?_
        refine z_iload_n (i := 2) dX8_moveTo_99 rfl rfl (q := 100) rfl ?_
        refine z_callVF (As := [_, _]) dX8_moveTo_100 kX8_142 (c_X0_setStart (t := 0) (by decide) (by omega)) (wo_across _ _ _) rfl rfl (zle rfl) ⟨zle rfl, zle rfl⟩ ⟨zle rfl, zle rfl⟩ (q := 103) rfl ?_
        refine z_aload_n (i := 0) dX8_moveTo_103 rfl rfl (q := 104) rfl ?_
        refine z_get dX8_moveTo_104 fX8_18 (wo_x _ _ _) rfl (q := 107) rfl ?_
        refine z_iload_n (i := 1) dX8_moveTo_107 rfl rfl (q := 108) rfl ?_
        refine z_iload_n (i := 3) dX8_moveTo_108 rfl rfl (q := 109) rfl ?_
        refine z_callVF (As := [_, _]) dX8_moveTo_109 kX8_142 (c_X0_setStart (t := 1) (by decide) (by omega)) (wo_down _ _ _) rfl rfl (zle rfl) ⟨zle rfl, zle rfl⟩ ⟨zle rfl, zle rfl⟩ (q := 112) rfl ?_
        refine z_aload_n (i := 0) dX8_moveTo_112 rfl rfl (q := 113) rfl ?_
        refine z_dup dX8_moveTo_113 rfl (q := 114) rfl ?_
        refine z_get dX8_moveTo_114 fX8_65 (wo_x _ _ _) rfl (q := 117) rfl ?_
        refine z_iload dX8_moveTo_117 rfl (q := 119) rfl ?_
        refine z_i2l dX8_moveTo_119 (q := 120) rfl ?_
        refine z_ladd dX8_moveTo_120 (q := 121) rfl ?_
        refine z_put dX8_moveTo_121 fX8_65 (wo_x _ _ _) (zle rfl) (zfit_long _) (q := 124) rfl ?_
        refine Z.eqw (wmv _ _ _ _) ?_
        refine z_iload dX8_moveTo_124 rfl (q := 126) rfl ?_
        exact z_iret dX8_moveTo_126 rfl ⟨zle rfl, zle rfl⟩ (by constructor <;> simp_all [A_moveTo, iabs, xrow, va_up, xmv, -Int32.not_le, -Int32.not_lt])
      · exact z_throw dX8_moveTo_55 dX8_moveTo_58 dX8_moveTo_59 dX8_moveTo_61 dX8_moveTo_64 xX8_95_135 rfl ⟨zle rfl, zle rfl, zle rfl, zle rfl⟩ (by constructor <;> simp_all [A_moveTo, zon, zlim, -Int32.not_le, -Int32.not_lt])
    · exact z_throw dX8_moveTo_38 dX8_moveTo_41 dX8_moveTo_42 dX8_moveTo_44 dX8_moveTo_47 xX8_69_133 rfl ⟨zle rfl, zle rfl, zle rfl, zle rfl⟩ (by constructor <;> simp_all [A_moveTo, zon, zlim, -Int32.not_le, -Int32.not_lt])
  · exact z_throw dX8_moveTo_21 dX8_moveTo_24 dX8_moveTo_25 dX8_moveTo_27 dX8_moveTo_30 xX8_86_131 rfl ⟨zle rfl, zle rfl, zle rfl, zle rfl⟩ (by constructor <;> simp_all [A_moveTo, zon, zlim, -Int32.not_le, -Int32.not_lt])
set_option maxRecDepth 100000 in
set_option maxHeartbeats 4000000 in
theorem c_X8_moveTo_out {n : Nat} {s : Int32} (hn : X.1 0 = nI n) (h : s < 0 ∨ nI n ≤ s) {l t : Int32} : ZM G mX8_moveTo 5 1 6 [.ref 0, .int s, .int l, .int t] (zw X Y O) (zTh eIOOBE (zw X Y O)) := by
  refine ZM.go pX8 rfl rfl (zle rfl) (zl := [some (.ref 0), some (.int s), some (.int l), some (.int t), none, none]) rfl ?_
  refine z_aload_n (i := 0) dX8_moveTo_0 rfl rfl (q := 1) rfl ?_
  refine z_iload_n (i := 1) dX8_moveTo_1 rfl rfl (q := 2) rfl ?_
  exact z_callVT (As := [_]) dX8_moveTo_2 kX8_106 (c_X8_requireShape_out hn h) (wo_x _ _ _) rfl rfl rfl (zle rfl) ⟨zle rfl, zle rfl⟩ ⟨zle rfl, zle rfl⟩ ⟨rfl, rfl⟩
set_option maxRecDepth 100000 in
set_option maxHeartbeats 4000000 in
theorem c_X8_moveReason {l t : Int32} {n k : Nat} (hn : X.1 0 = nI n) (h4 : n ≤ 4) (hk : k < n) : ZM G mX8_moveReason 5 1 6 [.ref 0, .int (nI k), .int l, .int t] (zw X Y O) (zEq (some (.int (mvh X n k l t))) (zw X Y O)) := by
  refine ZM.go pX8 rfl rfl (zle rfl) (zl := [some (.ref 0), some (.int (nI k)), some (.int l), some (.int t)]) rfl ?_
  refine z_aload_n (i := 0) dX8_moveReason_0 rfl rfl (q := 1) rfl ?_
  refine z_iload_n (i := 1) dX8_moveReason_1 rfl rfl (q := 2) rfl ?_
  refine z_callVF (As := [_]) dX8_moveReason_2 kX8_106 (c_X8_requireShape hn h4 hk) (wo_x _ _ _) rfl rfl (zle rfl) ⟨zle rfl, zle rfl⟩ ⟨zle rfl, zle rfl⟩ (q := 5) rfl ?_
  refine z_aload_n (i := 0) dX8_moveReason_5 rfl rfl (q := 6) rfl ?_
  refine z_iload_n (i := 1) dX8_moveReason_6 rfl rfl (q := 7) rfl ?_
  refine z_iload_n (i := 2) dX8_moveReason_7 rfl rfl (q := 8) rfl ?_
  refine z_iload_n (i := 3) dX8_moveReason_8 rfl rfl (q := 9) rfl ?_
  refine z_callVF (As := [_, _, _]) dX8_moveReason_9 kX8_127 (c_X8_moveHindrance hn h4 hk) (wo_x _ _ _) rfl rfl (zle rfl) ⟨zle rfl, zle rfl⟩ ⟨zle rfl, zle rfl⟩ (q := 12) rfl ?_
  exact z_zret dX8_moveReason_12 rfl (by unfold mvh; repeat (first | rfl | split)) ⟨zle rfl, zle rfl⟩ ⟨rfl, rfl⟩
set_option maxRecDepth 100000 in
set_option maxHeartbeats 4000000 in
theorem c_X8_moveReason_out {n : Nat} {s : Int32} (hn : X.1 0 = nI n) (h : s < 0 ∨ nI n ≤ s) {l t : Int32} : ZM G mX8_moveReason 5 1 6 [.ref 0, .int s, .int l, .int t] (zw X Y O) (zTh eIOOBE (zw X Y O)) := by
  refine ZM.go pX8 rfl rfl (zle rfl) (zl := [some (.ref 0), some (.int s), some (.int l), some (.int t)]) rfl ?_
  refine z_aload_n (i := 0) dX8_moveReason_0 rfl rfl (q := 1) rfl ?_
  refine z_iload_n (i := 1) dX8_moveReason_1 rfl rfl (q := 2) rfl ?_
  exact z_callVT (As := [_]) dX8_moveReason_2 kX8_106 (c_X8_requireShape_out hn h) (wo_x _ _ _) rfl rfl rfl (zle rfl) ⟨zle rfl, zle rfl⟩ ⟨zle rfl, zle rfl⟩ ⟨rfl, rfl⟩
end
