section
variable {G : zG} {X : zX} {Y : zY} {O : zO}
set_option maxRecDepth 100000 in
set_option maxHeartbeats 4000000 in
theorem zr1 {p : Prop} [Decidable p] {w : zWorld} (h : p) : zEq (some (.int (zb p))) w (.inl (some (.int 1))) w := ⟨by rw [← zb_t h], rfl⟩
set_option maxRecDepth 100000 in
set_option maxHeartbeats 4000000 in
theorem zr0 {p : Prop} [Decidable p] {w : zWorld} (h : ¬ p) : zEq (some (.int (zb p))) w (.inl (some (.int 0))) w := ⟨by rw [← zb_f h], rfl⟩
set_option maxRecDepth 100000 in
set_option maxHeartbeats 4000000 in
def imax (x y : Int32) : Int32 := if x < y then y else x
set_option maxRecDepth 100000 in
set_option maxHeartbeats 4000000 in
def imin (x y : Int32) : Int32 := if y < x then y else x
set_option maxRecDepth 100000 in
set_option maxHeartbeats 4000000 in
def iabs (x : Int32) : Int32 := if 0 ≤ x then x else 0 - x
/- what Axis.holds and Axis.meets ask -/
set_option maxRecDepth 100000 in
set_option maxHeartbeats 4000000 in
abbrev zon (lim s z : Int32) : Prop := ¬ s < 0 ∧ ¬ lim - z < s
set_option maxRecDepth 100000 in
set_option maxHeartbeats 4000000 in
abbrev zmeet (a az b bz : Int32) : Prop := ¬ a + az ≤ b ∧ ¬ b + bz ≤ a
set_option maxRecDepth 100000 in
set_option maxHeartbeats 4000000 in
abbrev zkx (k : Int32) : Prop := k = 108 ∨ k = 99 ∨ k = 114
set_option maxRecDepth 100000 in
set_option maxHeartbeats 4000000 in
abbrev zky (k : Int32) : Prop := k = 116 ∨ k = 109 ∨ k = 98
set_option maxRecDepth 100000 in
set_option maxHeartbeats 4000000 in
def zgap (a az b bz : Int32) : Int32 := imax 0 (imax (b - (a + az)) (a - (b + bz)))
set_option maxRecDepth 100000 in
set_option maxHeartbeats 4000000 in
theorem c_X0_holds {t : Nat} (ht : t < 2) {s z : Int32} : ZM G mX0_holds 1 0 0 [.ref (zax t), .int s, .int z] (zw X Y O) (zEq (some (.int (zb (zon (zlim t) s z)))) (zw X Y O)) := by
  refine ZM.go pX0 rfl rfl (zle rfl) (zl := [some (.ref (zax t)), some (.int s), some (.int z)]) rfl ?_
  refine z_iload_n (i := 1) dX0_holds_0 rfl rfl (q := 1) rfl ?_
  refine z_if_lt (tgt := 18) dX0_holds_1 (by decide) (q := 4) rfl (fun h1 => ?_) (fun h1 => ?_)
  · refine z_iconst (v := 0) dX0_holds_18 rfl (q := 19) rfl ?_
    exact z_zret dX0_holds_19 rfl rfl ⟨zle rfl, zle rfl⟩ (by first | exact zr1 (by simp [zon, zmeet, zkx, zky, *]) | exact zr0 (by simp [zon, zmeet, zkx, zky, *]))
  · refine z_iload_n (i := 1) dX0_holds_4 rfl rfl (q := 5) rfl ?_
    refine z_aload_n (i := 0) dX0_holds_5 rfl rfl (q := 6) rfl ?_
    refine z_get dX0_holds_6 fX0_23 (wax_o _ _ _ ht) rfl (q := 9) rfl ?_
    refine z_iload_n (i := 2) dX0_holds_9 rfl rfl (q := 10) rfl ?_
    refine z_isub dX0_holds_10 (q := 11) rfl ?_
    refine z_icmp_gt (tgt := 18) dX0_holds_11 (by decide) (q := 14) rfl (fun h11 => ?_) (fun h11 => ?_)
    · refine z_iconst (v := 0) dX0_holds_18 rfl (q := 19) rfl ?_
      exact z_zret dX0_holds_19 rfl rfl ⟨zle rfl, zle rfl⟩ (by first | exact zr1 (by simp [zon, zmeet, zkx, zky, *]) | exact zr0 (by simp [zon, zmeet, zkx, zky, *]))
    · refine z_iconst (v := 1) dX0_holds_14 rfl (q := 15) rfl ?_
      refine z_goto (tgt := 19) dX0_holds_15 (by decide) ?_
      exact z_zret dX0_holds_19 rfl rfl ⟨zle rfl, zle rfl⟩ (by first | exact zr1 (by simp [zon, zmeet, zkx, zky, *]) | exact zr0 (by simp [zon, zmeet, zkx, zky, *]))
set_option maxRecDepth 100000 in
set_option maxHeartbeats 4000000 in
theorem c_X0_meets {t : Nat} (ht : t < 2) {k : Nat} {s z : Int32} (hk : k < 4) : ZM G mX0_meets 1 0 0 [.ref (zax t), .int (nI k), .int s, .int z] (zw X Y O) (zEq (some (.int (zb (zmeet (X.2.1 (2 * t) k) (X.2.1 (2 * t + 1) k) s z)))) (zw X Y O)) := by
  refine ZM.go pX0 rfl rfl (zle rfl) (zl := [some (.ref (zax t)), some (.int (nI k)), some (.int s), some (.int z)]) rfl ?_
  refine z_iload_n (i := 2) dX0_meets_0 rfl rfl (q := 1) rfl ?_
  refine z_aload_n (i := 0) dX0_meets_1 rfl rfl (q := 2) rfl ?_
  refine z_get dX0_meets_2 fX0_14 (wax_o _ _ _ ht) rfl (q := 5) rfl ?_
  refine z_iload_n (i := 1) dX0_meets_5 rfl rfl (q := 6) rfl ?_
  refine z_callVF (As := [_]) dX0_meets_6 kX0_34 (c_X4_get  (wax_s _ _ _ ht) (by omega) (by decide)) (wax_s _ _ _ ht).1 rfl rfl (zle rfl) ⟨zle rfl, zle rfl⟩ ⟨zle rfl, zle rfl⟩ (q := 9) rfl ?_
  refine z_aload_n (i := 0) dX0_meets_9 rfl rfl (q := 10) rfl ?_
  refine z_get dX0_meets_10 fX0_20 (wax_o _ _ _ ht) rfl (q := 13) rfl ?_
  refine z_iload_n (i := 1) dX0_meets_13 rfl rfl (q := 14) rfl ?_
  refine z_callVF (As := [_]) dX0_meets_14 kX0_34 (c_X4_get  (wax_z _ _ _ ht) (by omega) (by decide)) (wax_z _ _ _ ht).1 rfl rfl (zle rfl) ⟨zle rfl, zle rfl⟩ ⟨zle rfl, zle rfl⟩ (q := 17) rfl ?_
  refine z_iadd dX0_meets_17 (q := 18) rfl ?_
  refine z_icmp_ge (tgt := 39) dX0_meets_18 (by decide) (q := 21) rfl (fun h18 => ?_) (fun h18 => ?_)
  · refine z_iconst (v := 0) dX0_meets_39 rfl (q := 40) rfl ?_
    exact z_zret dX0_meets_40 rfl rfl ⟨zle rfl, zle rfl⟩ (by first | exact zr1 (by simp [zon, zmeet, zkx, zky, *]) | exact zr0 (by simp [zon, zmeet, zkx, zky, *]))
  · refine z_aload_n (i := 0) dX0_meets_21 rfl rfl (q := 22) rfl ?_
    refine z_get dX0_meets_22 fX0_14 (wax_o _ _ _ ht) rfl (q := 25) rfl ?_
    refine z_iload_n (i := 1) dX0_meets_25 rfl rfl (q := 26) rfl ?_
    refine z_callVF (As := [_]) dX0_meets_26 kX0_34 (c_X4_get  (wax_s _ _ _ ht) (by omega) (by decide)) (wax_s _ _ _ ht).1 rfl rfl (zle rfl) ⟨zle rfl, zle rfl⟩ ⟨zle rfl, zle rfl⟩ (q := 29) rfl ?_
    refine z_iload_n (i := 2) dX0_meets_29 rfl rfl (q := 30) rfl ?_
    refine z_iload_n (i := 3) dX0_meets_30 rfl rfl (q := 31) rfl ?_
    refine z_iadd dX0_meets_31 (q := 32) rfl ?_
    refine z_icmp_ge (tgt := 39) dX0_meets_32 (by decide) (q := 35) rfl (fun h32 => ?_) (fun h32 => ?_)
    · refine z_iconst (v := 0) dX0_meets_39 rfl (q := 40) rfl ?_
      exact z_zret dX0_meets_40 rfl rfl ⟨zle rfl, zle rfl⟩ (by first | exact zr1 (by simp [zon, zmeet, zkx, zky, *]) | exact zr0 (by simp [zon, zmeet, zkx, zky, *]))
    · refine z_iconst (v := 1) dX0_meets_35 rfl (q := 36) rfl ?_
      refine z_goto (tgt := 40) dX0_meets_36 (by decide) ?_
      exact z_zret dX0_meets_40 rfl rfl ⟨zle rfl, zle rfl⟩ (by first | exact zr1 (by simp [zon, zmeet, zkx, zky, *]) | exact zr0 (by simp [zon, zmeet, zkx, zky, *]))
set_option maxRecDepth 100000 in
set_option maxHeartbeats 4000000 in
theorem c_X0_gapBetween {t : Nat} (ht : t < 2) {k j : Nat} (hk : k < 4) (hj : j < 4) : ZM G mX0_gapBetween 1 0 0 [.ref (zax t), .int (nI k), .int (nI j)] (zw X Y O) (zEq (some (.int (zgap (X.2.1 (2 * t) k) (X.2.1 (2 * t + 1) k) (X.2.1 (2 * t) j) (X.2.1 (2 * t + 1) j)))) (zw X Y O)) := by
  refine ZM.go pX0 rfl rfl (zle rfl) (zl := [some (.ref (zax t)), some (.int (nI k)), some (.int (nI j)), none, none, none, none]) rfl ?_
  refine z_aload_n (i := 0) dX0_gapBetween_0 rfl rfl (q := 1) rfl ?_
  refine z_get dX0_gapBetween_1 fX0_14 (wax_o _ _ _ ht) rfl (q := 4) rfl ?_
  refine z_iload_n (i := 1) dX0_gapBetween_4 rfl rfl (q := 5) rfl ?_
  refine z_callVF (As := [_]) dX0_gapBetween_5 kX0_34 (c_X4_get  (wax_s _ _ _ ht) (by omega) (by decide)) (wax_s _ _ _ ht).1 rfl rfl (zle rfl) ⟨zle rfl, zle rfl⟩ ⟨zle rfl, zle rfl⟩ (q := 8) rfl ?_
  refine z_istore_n (i := 3) dX0_gapBetween_8 rfl (zle rfl) rfl (q := 9) rfl ?_
  refine z_aload_n (i := 0) dX0_gapBetween_9 rfl rfl (q := 10) rfl ?_
  refine z_get dX0_gapBetween_10 fX0_14 (wax_o _ _ _ ht) rfl (q := 13) rfl ?_
  refine z_iload_n (i := 2) dX0_gapBetween_13 rfl rfl (q := 14) rfl ?_
  refine z_callVF (As := [_]) dX0_gapBetween_14 kX0_34 (c_X4_get  (wax_s _ _ _ ht) (by omega) (by decide)) (wax_s _ _ _ ht).1 rfl rfl (zle rfl) ⟨zle rfl, zle rfl⟩ ⟨zle rfl, zle rfl⟩ (q := 17) rfl ?_
  refine z_istore dX0_gapBetween_17 (zle rfl) rfl (q := 19) rfl ?_
  refine z_iload dX0_gapBetween_19 rfl (q := 21) rfl ?_
  refine z_iload_n (i := 3) dX0_gapBetween_21 rfl rfl (q := 22) rfl ?_
  refine z_aload_n (i := 0) dX0_gapBetween_22 rfl rfl (q := 23) rfl ?_
  refine z_get dX0_gapBetween_23 fX0_20 (wax_o _ _ _ ht) rfl (q := 26) rfl ?_
  refine z_iload_n (i := 1) dX0_gapBetween_26 rfl rfl (q := 27) rfl ?_
  refine z_callVF (As := [_]) dX0_gapBetween_27 kX0_34 (c_X4_get  (wax_z _ _ _ ht) (by omega) (by decide)) (wax_z _ _ _ ht).1 rfl rfl (zle rfl) ⟨zle rfl, zle rfl⟩ ⟨zle rfl, zle rfl⟩ (q := 30) rfl ?_
  refine z_iadd dX0_gapBetween_30 (q := 31) rfl ?_
  refine z_isub dX0_gapBetween_31 (q := 32) rfl ?_
  refine z_istore dX0_gapBetween_32 (zle rfl) rfl (q := 34) rfl ?_
  refine z_iload_n (i := 3) dX0_gapBetween_34 rfl rfl (q := 35) rfl ?_
  refine z_iload dX0_gapBetween_35 rfl (q := 37) rfl ?_
  refine z_aload_n (i := 0) dX0_gapBetween_37 rfl rfl (q := 38) rfl ?_
  refine z_get dX0_gapBetween_38 fX0_20 (wax_o _ _ _ ht) rfl (q := 41) rfl ?_
  refine z_iload_n (i := 2) dX0_gapBetween_41 rfl rfl (q := 42) rfl ?_
  refine z_callVF (As := [_]) dX0_gapBetween_42 kX0_34 (c_X4_get  (wax_z _ _ _ ht) (by omega) (by decide)) (wax_z _ _ _ ht).1 rfl rfl (zle rfl) ⟨zle rfl, zle rfl⟩ ⟨zle rfl, zle rfl⟩ (q := 45) rfl ?_
  refine z_iadd dX0_gapBetween_45 (q := 46) rfl ?_
  refine z_isub dX0_gapBetween_46 (q := 47) rfl ?_
  refine z_istore dX0_gapBetween_47 (zle rfl) rfl (q := 49) rfl ?_
  refine z_iconst (v := 0) dX0_gapBetween_49 rfl (q := 50) rfl ?_
  refine z_iload dX0_gapBetween_50 rfl (q := 52) rfl ?_
  refine z_iload dX0_gapBetween_52 rfl (q := 54) rfl ?_
  refine z_max dX0_gapBetween_54 kX0_42 (zle rfl) ⟨zle rfl, zle rfl, zle rfl, zle rfl⟩ (q := 57) rfl ?_
  refine z_max dX0_gapBetween_57 kX0_42 (zle rfl) ⟨zle rfl, zle rfl, zle rfl, zle rfl⟩ (q := 60) rfl ?_
  exact z_iret dX0_gapBetween_60 rfl ⟨zle rfl, zle rfl⟩ ⟨rfl, rfl⟩
set_option maxRecDepth 100000 in
set_option maxHeartbeats 4000000 in
theorem c_X0_twiceEdge {t : Nat} (ht : t < 2) {k : Nat} {e : Int32} (hk : k < 4) : ZM G mX0_twiceEdge 1 0 0 [.ref (zax t), .int (nI k), .int e] (zw X Y O) (zEq (some (.int (2 * X.2.1 (2 * t) k + e * X.2.1 (2 * t + 1) k))) (zw X Y O)) := by
  refine ZM.go pX0 rfl rfl (zle rfl) (zl := [some (.ref (zax t)), some (.int (nI k)), some (.int e)]) rfl ?_
  refine z_iconst (v := 2) dX0_twiceEdge_0 rfl (q := 1) rfl ?_
  refine z_aload_n (i := 0) dX0_twiceEdge_1 rfl rfl (q := 2) rfl ?_
  refine z_get dX0_twiceEdge_2 fX0_14 (wax_o _ _ _ ht) rfl (q := 5) rfl ?_
  refine z_iload_n (i := 1) dX0_twiceEdge_5 rfl rfl (q := 6) rfl ?_
  refine z_callVF (As := [_]) dX0_twiceEdge_6 kX0_34 (c_X4_get  (wax_s _ _ _ ht) (by omega) (by decide)) (wax_s _ _ _ ht).1 rfl rfl (zle rfl) ⟨zle rfl, zle rfl⟩ ⟨zle rfl, zle rfl⟩ (q := 9) rfl ?_
  refine z_imul dX0_twiceEdge_9 (q := 10) rfl ?_
  refine z_iload_n (i := 2) dX0_twiceEdge_10 rfl rfl (q := 11) rfl ?_
  refine z_aload_n (i := 0) dX0_twiceEdge_11 rfl rfl (q := 12) rfl ?_
  refine z_get dX0_twiceEdge_12 fX0_20 (wax_o _ _ _ ht) rfl (q := 15) rfl ?_
  refine z_iload_n (i := 1) dX0_twiceEdge_15 rfl rfl (q := 16) rfl ?_
  refine z_callVF (As := [_]) dX0_twiceEdge_16 kX0_34 (c_X4_get  (wax_z _ _ _ ht) (by omega) (by decide)) (wax_z _ _ _ ht).1 rfl rfl (zle rfl) ⟨zle rfl, zle rfl⟩ ⟨zle rfl, zle rfl⟩ (q := 19) rfl ?_
  refine z_imul dX0_twiceEdge_19 (q := 20) rfl ?_
  refine z_iadd dX0_twiceEdge_20 (q := 21) rfl ?_
  exact z_iret dX0_twiceEdge_21 rfl ⟨zle rfl, zle rfl⟩ ⟨rfl, rfl⟩
set_option maxRecDepth 100000 in
set_option maxHeartbeats 4000000 in
theorem c_X3_unitsBetween {k j : Nat} (hk : k < 4) (hj : j < 4) : ZM G mX3_unitsBetween 2 0 0 [.ref 1, .ref 6, .int (nI k), .int (nI j)] (zw X Y O) (zEq (some (.int (imax (zgap (X.2.1 0 k) (X.2.1 1 k) (X.2.1 0 j) (X.2.1 1 j)) (zgap (X.2.1 2 k) (X.2.1 3 k) (X.2.1 2 j) (X.2.1 3 j))))) (zw X Y O)) := by
  refine ZM.go pX3 rfl rfl (zle rfl) (zl := [some (.ref 1), some (.ref 6), some (.int (nI k)), some (.int (nI j))]) rfl ?_
  refine z_aload_n (i := 0) dX3_unitsBetween_0 rfl rfl (q := 1) rfl ?_
  refine z_iload_n (i := 2) dX3_unitsBetween_1 rfl rfl (q := 2) rfl ?_
  refine z_iload_n (i := 3) dX3_unitsBetween_2 rfl rfl (q := 3) rfl ?_
  refine z_callVF (As := [_, _]) dX3_unitsBetween_3 kX3_23 (c_X0_gapBetween (t := 0) (by decide) hk hj) (wo_across _ _ _) rfl rfl (zle rfl) ⟨zle rfl, zle rfl⟩ ⟨zle rfl, zle rfl⟩ (q := 6) rfl ?_
  refine z_aload_n (i := 1) dX3_unitsBetween_6 rfl rfl (q := 7) rfl ?_
  refine z_iload_n (i := 2) dX3_unitsBetween_7 rfl rfl (q := 8) rfl ?_
  refine z_iload_n (i := 3) dX3_unitsBetween_8 rfl rfl (q := 9) rfl ?_
  refine z_callVF (As := [_, _]) dX3_unitsBetween_9 kX3_23 (c_X0_gapBetween (t := 1) (by decide) hk hj) (wo_down _ _ _) rfl rfl (zle rfl) ⟨zle rfl, zle rfl⟩ ⟨zle rfl, zle rfl⟩ (q := 12) rfl ?_
  refine z_max dX3_unitsBetween_12 kX3_29 (zle rfl) ⟨zle rfl, zle rfl, zle rfl, zle rfl⟩ (q := 15) rfl ?_
  exact z_iret dX3_unitsBetween_15 rfl ⟨zle rfl, zle rfl⟩ ⟨rfl, rfl⟩
set_option maxRecDepth 100000 in
set_option maxHeartbeats 4000000 in
theorem c_X3_lowestOfGroup {k : Nat} (hk : k < 4) : ZM G mX3_lowestOfGroup 1 0 0 [.ref 68, .int (nI k)] (zw X Y O) (zEq (some (.int (X.2.1 30 k))) (zw X Y O)) := by
  refine ZM.go pX3 rfl rfl (zle rfl) (zl := [some (.ref 68), some (.int (nI k))]) rfl ?_
  refine z_aload_n (i := 0) dX3_lowestOfGroup_0 rfl rfl (q := 1) rfl ?_
  refine z_get dX3_lowestOfGroup_1 fX3_14 (wo_nearness _ _ _) rfl (q := 4) rfl ?_
  refine z_iload_n (i := 1) dX3_lowestOfGroup_4 rfl rfl (q := 5) rfl ?_
  refine z_callVF (As := [_]) dX3_lowestOfGroup_5 kX3_34 (c_X4_get  (wr_30 _ _ _) (by omega) (by decide)) (wr_30 _ _ _).1 rfl rfl (zle rfl) ⟨zle rfl, zle rfl⟩ ⟨zle rfl, zle rfl⟩ (q := 8) rfl ?_
  exact z_iret dX3_lowestOfGroup_8 rfl ⟨zle rfl, zle rfl⟩ ⟨rfl, rfl⟩
/- what edge a kind speaks of -/
set_option maxRecDepth 100000 in
set_option maxHeartbeats 4000000 in
def zedge (k : Int32) : Int32 := if k = 108 ∨ k = 116 then 0 else if k = 99 ∨ k = 109 then 1 else 2
set_option maxRecDepth 100000 in
set_option maxHeartbeats 4000000 in
theorem c_X7_isKindAcross {x : Int32} : ZM G mX7_isKindAcross 0 0 0 [.int x] (zw X Y O) (zEq (some (.int (zb (zkx x)))) (zw X Y O)) := by
  refine ZM.go pX7 rfl rfl (zle rfl) (zl := [some (.int x)]) rfl ?_
  refine z_iload_n (i := 0) dX7_isKindAcross_0 rfl rfl (q := 1) rfl ?_
  refine z_bipush (v := 108) dX7_isKindAcross_1 rfl (q := 3) rfl ?_
  refine z_icmp_eq (tgt := 18) dX7_isKindAcross_3 (by decide) (q := 6) rfl (fun h3 => ?_) (fun h3 => ?_)
  · refine z_iconst (v := 1) dX7_isKindAcross_18 rfl (q := 19) rfl ?_
    refine z_goto (tgt := 23) dX7_isKindAcross_19 (by decide) ?_
    exact z_zret dX7_isKindAcross_23 rfl rfl ⟨zle rfl, zle rfl⟩ (by first | exact zr1 (by simp [zon, zmeet, zkx, zky, *]) | exact zr0 (by simp [zon, zmeet, zkx, zky, *]))
  · refine z_iload_n (i := 0) dX7_isKindAcross_6 rfl rfl (q := 7) rfl ?_
    refine z_bipush (v := 99) dX7_isKindAcross_7 rfl (q := 9) rfl ?_
    refine z_icmp_eq (tgt := 18) dX7_isKindAcross_9 (by decide) (q := 12) rfl (fun h9 => ?_) (fun h9 => ?_)
    · refine z_iconst (v := 1) dX7_isKindAcross_18 rfl (q := 19) rfl ?_
      refine z_goto (tgt := 23) dX7_isKindAcross_19 (by decide) ?_
      exact z_zret dX7_isKindAcross_23 rfl rfl ⟨zle rfl, zle rfl⟩ (by first | exact zr1 (by simp [zon, zmeet, zkx, zky, *]) | exact zr0 (by simp [zon, zmeet, zkx, zky, *]))
    · refine z_iload_n (i := 0) dX7_isKindAcross_12 rfl rfl (q := 13) rfl ?_
      refine z_bipush (v := 114) dX7_isKindAcross_13 rfl (q := 15) rfl ?_
      refine z_icmp_ne (tgt := 22) dX7_isKindAcross_15 (by decide) (q := 18) rfl (fun h15 => ?_) (fun h15 => ?_)
      · refine z_iconst (v := 0) dX7_isKindAcross_22 rfl (q := 23) rfl ?_
        exact z_zret dX7_isKindAcross_23 rfl rfl ⟨zle rfl, zle rfl⟩ (by first | exact zr1 (by simp [zon, zmeet, zkx, zky, *]) | exact zr0 (by simp [zon, zmeet, zkx, zky, *]))
      · refine z_iconst (v := 1) dX7_isKindAcross_18 rfl (q := 19) rfl ?_
        refine z_goto (tgt := 23) dX7_isKindAcross_19 (by decide) ?_
        exact z_zret dX7_isKindAcross_23 rfl rfl ⟨zle rfl, zle rfl⟩ (by first | exact zr1 (by simp [zon, zmeet, zkx, zky, *]) | exact zr0 (by simp [zon, zmeet, zkx, zky, *]))
set_option maxRecDepth 100000 in
set_option maxHeartbeats 4000000 in
theorem c_X7_isKind {x : Int32} : ZM G mX7_isKind 1 0 0 [.int x] (zw X Y O) (zEq (some (.int (zb (zkx x ∨ zky x)))) (zw X Y O)) := by
  refine ZM.go pX7 rfl rfl (zle rfl) (zl := [some (.int x)]) rfl ?_
  refine z_iload_n (i := 0) dX7_isKind_0 rfl rfl (q := 1) rfl ?_
  refine z_callSF (As := [_]) dX7_isKind_1 kX7_32 (c_X7_isKindAcross ) rfl (zle rfl) ⟨zle rfl, zle rfl⟩ ⟨zle rfl, zle rfl⟩ (q := 4) rfl ?_
  refine z_if_ne (tgt := 25) dX7_isKind_4 (by decide) (q := 7) rfl (fun h4 => ?_) (fun h4 => ?_)
  · refine z_iconst (v := 1) dX7_isKind_25 rfl (q := 26) rfl ?_
    refine z_goto (tgt := 30) dX7_isKind_26 (by decide) ?_
    exact z_zret dX7_isKind_30 rfl rfl ⟨zle rfl, zle rfl⟩ (by first | exact zr1 (Or.inl (zb_1.mp (by assumption))) | exact zr1 (by simp [zkx, zky, *]) | exact zr0 (by simp_all [zkx, zky, zb_0]))
  · refine z_iload_n (i := 0) dX7_isKind_7 rfl rfl (q := 8) rfl ?_
    refine z_bipush (v := 116) dX7_isKind_8 rfl (q := 10) rfl ?_
    refine z_icmp_eq (tgt := 25) dX7_isKind_10 (by decide) (q := 13) rfl (fun h10 => ?_) (fun h10 => ?_)
    · refine z_iconst (v := 1) dX7_isKind_25 rfl (q := 26) rfl ?_
      refine z_goto (tgt := 30) dX7_isKind_26 (by decide) ?_
      exact z_zret dX7_isKind_30 rfl rfl ⟨zle rfl, zle rfl⟩ (by first | exact zr1 (Or.inl (zb_1.mp (by assumption))) | exact zr1 (by simp [zkx, zky, *]) | exact zr0 (by simp_all [zkx, zky, zb_0]))
    · refine z_iload_n (i := 0) dX7_isKind_13 rfl rfl (q := 14) rfl ?_
      refine z_bipush (v := 109) dX7_isKind_14 rfl (q := 16) rfl ?_
      refine z_icmp_eq (tgt := 25) dX7_isKind_16 (by decide) (q := 19) rfl (fun h16 => ?_) (fun h16 => ?_)
      · refine z_iconst (v := 1) dX7_isKind_25 rfl (q := 26) rfl ?_
        refine z_goto (tgt := 30) dX7_isKind_26 (by decide) ?_
        exact z_zret dX7_isKind_30 rfl rfl ⟨zle rfl, zle rfl⟩ (by first | exact zr1 (Or.inl (zb_1.mp (by assumption))) | exact zr1 (by simp [zkx, zky, *]) | exact zr0 (by simp_all [zkx, zky, zb_0]))
      · refine z_iload_n (i := 0) dX7_isKind_19 rfl rfl (q := 20) rfl ?_
        refine z_bipush (v := 98) dX7_isKind_20 rfl (q := 22) rfl ?_
        refine z_icmp_ne (tgt := 29) dX7_isKind_22 (by decide) (q := 25) rfl (fun h22 => ?_) (fun h22 => ?_)
        · refine z_iconst (v := 0) dX7_isKind_29 rfl (q := 30) rfl ?_
          exact z_zret dX7_isKind_30 rfl rfl ⟨zle rfl, zle rfl⟩ (by first | exact zr1 (Or.inl (zb_1.mp (by assumption))) | exact zr1 (by simp [zkx, zky, *]) | exact zr0 (by simp_all [zkx, zky, zb_0]))
        · refine z_iconst (v := 1) dX7_isKind_25 rfl (q := 26) rfl ?_
          refine z_goto (tgt := 30) dX7_isKind_26 (by decide) ?_
          exact z_zret dX7_isKind_30 rfl rfl ⟨zle rfl, zle rfl⟩ (by first | exact zr1 (Or.inl (zb_1.mp (by assumption))) | exact zr1 (by simp [zkx, zky, *]) | exact zr0 (by simp_all [zkx, zky, zb_0]))
set_option maxRecDepth 100000 in
set_option maxHeartbeats 4000000 in
theorem c_X7_addedCount  : ZM G mX7_addedCount 1 0 0 [.ref 15] (zw X Y O) (zEq (some (.int (X.1 6))) (zw X Y O)) := by
  refine ZM.go pX7 rfl rfl (zle rfl) (zl := [some (.ref 15)]) rfl ?_
  refine z_aload_n (i := 0) dX7_addedCount_0 rfl rfl (q := 1) rfl ?_
  refine z_get dX7_addedCount_1 fX7_14 (wo_wishes _ _ _) rfl (q := 4) rfl ?_
  refine z_callVF (As := []) dX7_addedCount_4 kX7_36 (c_X4_length (wr_6 _ _ _)) (wr_6 _ _ _).1 rfl rfl (zle rfl) ⟨zle rfl, zle rfl⟩ ⟨zle rfl, zle rfl⟩ (q := 7) rfl ?_
  exact z_iret dX7_addedCount_7 rfl ⟨zle rfl, zle rfl⟩ ⟨rfl, rfl⟩
set_option maxRecDepth 100000 in
set_option maxHeartbeats 4000000 in
theorem c_X7_shapeAt {k : Nat} (hk : k < 8) : ZM G mX7_shapeAt 1 0 0 [.ref 15, .int (nI k)] (zw X Y O) (zEq (some (.int (X.2.1 7 k))) (zw X Y O)) := by
  refine ZM.go pX7 rfl rfl (zle rfl) (zl := [some (.ref 15), some (.int (nI k))]) rfl ?_
  refine z_aload_n (i := 0) dX7_shapeAt_0 rfl rfl (q := 1) rfl ?_
  refine z_get dX7_shapeAt_1 fX7_20 (wo_wishes _ _ _) rfl (q := 4) rfl ?_
  refine z_iload_n (i := 1) dX7_shapeAt_4 rfl rfl (q := 5) rfl ?_
  refine z_callVF (As := [_]) dX7_shapeAt_5 kX7_47 (c_X4_get  (wr_7 _ _ _) (by omega) (by decide)) (wr_7 _ _ _).1 rfl rfl (zle rfl) ⟨zle rfl, zle rfl⟩ ⟨zle rfl, zle rfl⟩ (q := 8) rfl ?_
  exact z_iret dX7_shapeAt_8 rfl ⟨zle rfl, zle rfl⟩ ⟨rfl, rfl⟩
set_option maxRecDepth 100000 in
set_option maxHeartbeats 4000000 in
theorem c_X7_otherAt {k : Nat} (hk : k < 8) : ZM G mX7_otherAt 1 0 0 [.ref 15, .int (nI k)] (zw X Y O) (zEq (some (.int (X.2.1 8 k))) (zw X Y O)) := by
  refine ZM.go pX7 rfl rfl (zle rfl) (zl := [some (.ref 15), some (.int (nI k))]) rfl ?_
  refine z_aload_n (i := 0) dX7_otherAt_0 rfl rfl (q := 1) rfl ?_
  refine z_get dX7_otherAt_1 fX7_23 (wo_wishes _ _ _) rfl (q := 4) rfl ?_
  refine z_iload_n (i := 1) dX7_otherAt_4 rfl rfl (q := 5) rfl ?_
  refine z_callVF (As := [_]) dX7_otherAt_5 kX7_47 (c_X4_get  (wr_8 _ _ _) (by omega) (by decide)) (wr_8 _ _ _).1 rfl rfl (zle rfl) ⟨zle rfl, zle rfl⟩ ⟨zle rfl, zle rfl⟩ (q := 8) rfl ?_
  exact z_iret dX7_otherAt_8 rfl ⟨zle rfl, zle rfl⟩ ⟨rfl, rfl⟩
set_option maxRecDepth 100000 in
set_option maxHeartbeats 4000000 in
theorem c_X7_strengthAt {k : Nat} (hk : k < 8) : ZM G mX7_strengthAt 1 0 0 [.ref 15, .int (nI k)] (zw X Y O) (zEq (some (.int (X.2.1 9 k))) (zw X Y O)) := by
  refine ZM.go pX7 rfl rfl (zle rfl) (zl := [some (.ref 15), some (.int (nI k))]) rfl ?_
  refine z_aload_n (i := 0) dX7_strengthAt_0 rfl rfl (q := 1) rfl ?_
  refine z_get dX7_strengthAt_1 fX7_26 (wo_wishes _ _ _) rfl (q := 4) rfl ?_
  refine z_iload_n (i := 1) dX7_strengthAt_4 rfl rfl (q := 5) rfl ?_
  refine z_callVF (As := [_]) dX7_strengthAt_5 kX7_47 (c_X4_get  (wr_9 _ _ _) (by omega) (by decide)) (wr_9 _ _ _).1 rfl rfl (zle rfl) ⟨zle rfl, zle rfl⟩ ⟨zle rfl, zle rfl⟩ (q := 8) rfl ?_
  exact z_iret dX7_strengthAt_8 rfl ⟨zle rfl, zle rfl⟩ ⟨rfl, rfl⟩
set_option maxRecDepth 100000 in
set_option maxHeartbeats 4000000 in
theorem c_X7_remove {k : Nat} (hk : k < 8) : ZM G mX7_remove 1 0 0 [.ref 15, .int (nI k)] (zw X Y O) (zEq none (zw (xrow X 10 (upd (X.2.1 10) k 1) (X.1 10)) Y O)) := by
  refine ZM.go pX7 rfl rfl (zle rfl) (zl := [some (.ref 15), some (.int (nI k))]) rfl ?_
  refine z_aload_n (i := 0) dX7_remove_0 rfl rfl (q := 1) rfl ?_
  refine z_get dX7_remove_1 fX7_29 (wo_wishes _ _ _) rfl (q := 4) rfl ?_
  refine z_iload_n (i := 1) dX7_remove_4 rfl rfl (q := 5) rfl ?_
  refine z_iconst (v := 1) dX7_remove_5 rfl (q := 6) rfl ?_
  refine z_callVF (As := [_, _]) dX7_remove_6 kX7_43 (c_X4_set  (wr_10 _ _ _) (by omega) (by decide)) (wr_10 _ _ _).1 rfl rfl (zle rfl) ⟨zle rfl, zle rfl⟩ ⟨zle rfl, zle rfl⟩ (q := 9) rfl ?_
  refine Z.eqw (wp_10 _ _ _ _ _) ?_
  exact z_vret dX7_remove_9 rfl ⟨zle rfl, zle rfl⟩ ⟨rfl, rfl⟩
end
