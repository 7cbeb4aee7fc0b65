section
variable {G : zG} {X : zX} {Y : zY} {O : zO}
set_option maxRecDepth 100000 in
set_option maxHeartbeats 4000000 in
def rsumc (p : Nat → Prop) [DecidablePred p] (g : Nat → Int32) : Nat → Nat → Int32 → Int32
  | _, 0, a => a
  | i, m + 1, a => rsumc p g (i + 1) m (if p i then a + g i else a)
set_option maxRecDepth 100000 in
set_option maxHeartbeats 4000000 in
theorem rsumc_t {p : Nat → Prop} [DecidablePred p] {g : Nat → Int32} {i m : Nat} {a : Int32} (h : p i) : rsumc p g i (m + 1) a = rsumc p g (i + 1) m (a + g i) := by rw [rsumc, if_pos h]
set_option maxRecDepth 100000 in
set_option maxHeartbeats 4000000 in
theorem rsumc_f {p : Nat → Prop} [DecidablePred p] {g : Nat → Int32} {i m : Nat} {a : Int32} (h : ¬ p i) : rsumc p g i (m + 1) a = rsumc p g (i + 1) m a := by rw [rsumc, if_neg h]
/- the shapes that the wishes speak of -/
set_option maxRecDepth 100000 in
set_option maxHeartbeats 4000000 in
def wshapes (X : zX) (nw : Nat) (wa wb : Nat → Nat) : Prop := ∀ k, k < nw → X.2.1 7 k = nI (wa k) ∧ X.2.1 8 k = nI (wb k) ∧ wa k < 4 ∧ wb k < 4
set_option maxRecDepth 100000 in
set_option maxHeartbeats 4000000 in
abbrev pstr (X : zX) (t : Nat) (wa wb : Nat → Nat) (k : Nat) : Prop := X.2.1 10 k = 0 ∧ (if zkx (X.2.1 6 k) then (120 : Int32) else 121) = zch t ∧ 2 * X.2.1 (2 * t) (wa k) + zedge (X.2.1 6 k) * X.2.1 (2 * t + 1) (wa k) = 2 * X.2.1 (2 * t) (wb k) + zedge (X.2.1 6 k) * X.2.1 (2 * t + 1) (wb k)
set_option maxRecDepth 100000 in
set_option maxHeartbeats 4000000 in
abbrev zdist (X : zX) (k j : Nat) : Int32 := imax (zgap (X.2.1 0 k) (X.2.1 1 k) (X.2.1 0 j) (X.2.1 1 j)) (zgap (X.2.1 2 k) (X.2.1 3 k) (X.2.1 2 j) (X.2.1 3 j))
set_option maxRecDepth 100000 in
set_option maxHeartbeats 4000000 in
theorem z_X8_strength_11 {t nw : Nat} {wa wb : Nat → Nat} (ht : t < 2) (h6 : X.1 6 = nI nw) (hw : nw ≤ 8) (hs : wshapes X nw wa wb) : ∀ (m i : Nat) (a : Int32), i + m = nw → Z G mX8_strength (zrm 3 1 6) 0 0 11 [some (.ref 0), some (.int (zch t)), some (.ref (zax t)), some (.int a), some (.int (nI i))] [] (zw X Y O) (zEq (some (.int (rsumc (pstr X t wa wb) (X.2.1 9) i m a))) (zw X Y O)) := by
  intro m
  induction m with
  | zero =>
    intro i a hi
    refine z_iload dX8_strength_11 rfl (q := 13) rfl ?_
    refine z_aload_n (i := 0) dX8_strength_13 rfl rfl (q := 14) rfl ?_
    refine z_get dX8_strength_14 fX8_34 (wo_x _ _ _) rfl (q := 17) rfl ?_
    refine z_callVF (As := []) dX8_strength_17 kX8_182 (c_X7_addedCount ) (wo_wishes _ _ _) rfl rfl (zle rfl) ⟨zle rfl, zle rfl⟩ ⟨zle rfl, zle rfl⟩ (q := 20) rfl ?_
    rw [h6]
    refine z_icmp_ge (tgt := 79) dX8_strength_20 (by decide) (q := 23) rfl (fun h20 => ?_) (fun h20 => absurd (zge_t (by omega)) h20)
    refine z_iload_n (i := 3) dX8_strength_79 rfl rfl (q := 80) rfl ?_
    exact z_iret dX8_strength_80 rfl ⟨zle rfl, zle rfl⟩ ⟨rfl, rfl⟩
  | succ m ih =>
    intro i a hi
    refine z_iload dX8_strength_11 rfl (q := 13) rfl ?_
    refine z_aload_n (i := 0) dX8_strength_13 rfl rfl (q := 14) rfl ?_
    refine z_get dX8_strength_14 fX8_34 (wo_x _ _ _) rfl (q := 17) rfl ?_
    refine z_callVF (As := []) dX8_strength_17 kX8_182 (c_X7_addedCount ) (wo_wishes _ _ _) rfl rfl (zle rfl) ⟨zle rfl, zle rfl⟩ ⟨zle rfl, zle rfl⟩ (q := 20) rfl ?_
    rw [h6]
    refine z_icmp_ge (tgt := 79) dX8_strength_20 (by decide) (q := 23) rfl (fun h20 => absurd h20 (zge_f (by omega) (by omega))) (fun h20 => ?_)
    refine z_aload_n (i := 0) dX8_strength_23 rfl rfl (q := 24) rfl ?_
    refine z_get dX8_strength_24 fX8_34 (wo_x _ _ _) rfl (q := 27) rfl ?_
    refine z_iload dX8_strength_27 rfl (q := 29) rfl ?_
    refine z_callVF (As := [_]) dX8_strength_29 kX8_206 (c_X7_isThere h6 (by omega) hw) (wo_wishes _ _ _) rfl rfl (zle rfl) ⟨zle rfl, zle rfl⟩ ⟨zle rfl, zle rfl⟩ (q := 32) rfl ?_
    refine z_if_eq (tgt := 73) dX8_strength_32 (by decide) (q := 35) rfl (fun h32 => ?_) (fun h32 => ?_)
    · replace h32 := zb_0.mp h32
      rw [rsumc_f (fun hh => h32 hh.1)]
      refine z_iinc dX8_strength_73 rfl rfl (zle rfl) rfl (q := 76) rfl ?_
      refine z_goto (tgt := 11) dX8_strength_76 (by decide) ?_
      refine Z.eql (zl2 := [some (.ref 0), some (.int (zch t)), some (.ref (zax t)), some (.int (a)), some (.int (nI (i + 1)))]) (by show [_, _, _, _, some (Value.int (nI i + 1))] = _; rw [nI_1]) ?_
      exact ih (i + 1) (a) (by omega)
    · replace h32 := zb_1.mp h32
      refine z_aload_n (i := 0) dX8_strength_35 rfl rfl (q := 36) rfl ?_
      refine z_get dX8_strength_36 fX8_34 (wo_x _ _ _) rfl (q := 39) rfl ?_
      refine z_iload dX8_strength_39 rfl (q := 41) rfl ?_
      refine z_callVF (As := [_]) dX8_strength_41 kX8_199 (c_X7_axisAt (by omega)) (wo_wishes _ _ _) rfl rfl (zle rfl) ⟨zle rfl, zle rfl⟩ ⟨zle rfl, zle rfl⟩ (q := 44) rfl ?_
      refine z_iload_n (i := 1) dX8_strength_44 rfl rfl (q := 45) rfl ?_
      refine z_icmp_ne (tgt := 73) dX8_strength_45 (by decide) (q := 48) rfl (fun h45 => ?_) (fun h45 => ?_)
      · rw [rsumc_f (fun hh => h45 hh.2.1)]
        refine z_iinc dX8_strength_73 rfl rfl (zle rfl) rfl (q := 76) rfl ?_
        refine z_goto (tgt := 11) dX8_strength_76 (by decide) ?_
        refine Z.eql (zl2 := [some (.ref 0), some (.int (zch t)), some (.ref (zax t)), some (.int (a)), some (.int (nI (i + 1)))]) (by show [_, _, _, _, some (Value.int (nI i + 1))] = _; rw [nI_1]) ?_
        exact ih (i + 1) (a) (by omega)
      · refine z_aload_n (i := 0) dX8_strength_48 rfl rfl (q := 49) rfl ?_
        refine z_get dX8_strength_49 fX8_34 (wo_x _ _ _) rfl (q := 52) rfl ?_
        refine z_aload_n (i := 2) dX8_strength_52 rfl rfl (q := 53) rfl ?_
        refine z_iload dX8_strength_53 rfl (q := 55) rfl ?_
        refine z_callVF (As := [_, _]) dX8_strength_55 kX8_202 (c_X7_holdsIn ht (by omega) (hs i (by omega)).2.2.1 (hs i (by omega)).2.2.2 (hs i (by omega)).1 (hs i (by omega)).2.1) (wo_wishes _ _ _) rfl rfl (zle rfl) ⟨zle rfl, zle rfl⟩ ⟨zle rfl, zle rfl⟩ (q := 58) rfl ?_
        refine z_if_eq (tgt := 73) dX8_strength_58 (by decide) (q := 61) rfl (fun h58 => ?_) (fun h58 => ?_)
        · replace h58 := zb_0.mp h58
          rw [rsumc_f (fun hh => h58 hh.2.2)]
          refine z_iinc dX8_strength_73 rfl rfl (zle rfl) rfl (q := 76) rfl ?_
          refine z_goto (tgt := 11) dX8_strength_76 (by decide) ?_
          refine Z.eql (zl2 := [some (.ref 0), some (.int (zch t)), some (.ref (zax t)), some (.int (a)), some (.int (nI (i + 1)))]) (by show [_, _, _, _, some (Value.int (nI i + 1))] = _; rw [nI_1]) ?_
          exact ih (i + 1) (a) (by omega)
        · replace h58 := zb_1.mp h58
          refine z_iload_n (i := 3) dX8_strength_61 rfl rfl (q := 62) rfl ?_
          refine z_aload_n (i := 0) dX8_strength_62 rfl rfl (q := 63) rfl ?_
          refine z_get dX8_strength_63 fX8_34 (wo_x _ _ _) rfl (q := 66) rfl ?_
          refine z_iload dX8_strength_66 rfl (q := 68) rfl ?_
          refine z_callVF (As := [_]) dX8_strength_68 kX8_209 (c_X7_strengthAt (by omega)) (wo_wishes _ _ _) rfl rfl (zle rfl) ⟨zle rfl, zle rfl⟩ ⟨zle rfl, zle rfl⟩ (q := 71) rfl ?_
          refine z_iadd dX8_strength_71 (q := 72) rfl ?_
          refine z_istore_n (i := 3) dX8_strength_72 rfl (zle rfl) rfl (q := 73) rfl ?_
          rw [rsumc_t ⟨h32, h45, h58⟩]
          refine z_iinc dX8_strength_73 rfl rfl (zle rfl) rfl (q := 76) rfl ?_
          refine z_goto (tgt := 11) dX8_strength_76 (by decide) ?_
          refine Z.eql (zl2 := [some (.ref 0), some (.int (zch t)), some (.ref (zax t)), some (.int (a + X.2.1 9 i)), some (.int (nI (i + 1)))]) (by show [_, _, _, _, some (Value.int (nI i + 1))] = _; rw [nI_1]) ?_
          exact ih (i + 1) (a + X.2.1 9 i) (by omega)
set_option maxRecDepth 100000 in
set_option maxHeartbeats 4000000 in
theorem c_X8_strength {t nw : Nat} {wa wb : Nat → Nat} (ht : t < 2) (h6 : X.1 6 = nI nw) (hw : nw ≤ 8) (hs : wshapes X nw wa wb) : ZM G mX8_strength 3 1 6 [.ref 0, .int (zch t)] (zw X Y O) (zEq (some (.int (rsumc (pstr X t wa wb) (X.2.1 9) 0 nw 0))) (zw X Y O)) := by
  refine ZM.go pX8 rfl rfl (zle rfl) (zl := [some (.ref 0), some (.int (zch t)), none, none, none]) rfl ?_
  refine z_aload_n (i := 0) dX8_strength_0 rfl rfl (q := 1) rfl ?_
  refine z_iload_n (i := 1) dX8_strength_1 rfl rfl (q := 2) rfl ?_
  refine z_callVF (As := [_]) dX8_strength_2 kX8_116 (c_X8_axisNamed ht) (wo_x _ _ _) rfl rfl (zle rfl) ⟨zle rfl, zle rfl⟩ ⟨zle rfl, zle rfl⟩ (q := 5) rfl ?_
  refine z_astore_n (i := 2) dX8_strength_5 rfl (zle rfl) rfl (q := 6) rfl ?_
  refine z_iconst (v := 0) dX8_strength_6 rfl (q := 7) rfl ?_
  refine z_istore_n (i := 3) dX8_strength_7 rfl (zle rfl) rfl (q := 8) rfl ?_
  refine z_iconst (v := 0) dX8_strength_8 rfl (q := 9) rfl ?_
  refine z_istore dX8_strength_9 (zle rfl) rfl (q := 11) rfl ?_
  exact z_X8_strength_11 ht h6 hw hs nw 0 0 (by omega)
set_option maxRecDepth 100000 in
set_option maxHeartbeats 4000000 in
theorem c_X8_strength_ax {c : Int32} (h1 : ¬ c = 120) (h2 : ¬ c = 121) : ZM G mX8_strength 3 1 6 [.ref 0, .int c] (zw X Y O) (zTh eIAE (zw X Y O)) := by
  refine ZM.go pX8 rfl rfl (zle rfl) (zl := [some (.ref 0), some (.int c), none, none, none]) rfl ?_
  refine z_aload_n (i := 0) dX8_strength_0 rfl rfl (q := 1) rfl ?_
  refine z_iload_n (i := 1) dX8_strength_1 rfl rfl (q := 2) rfl ?_
  exact z_callVT (As := [_]) dX8_strength_2 kX8_116 (c_X8_axisNamed_out h1 h2) (wo_x _ _ _) rfl rfl rfl (zle rfl) ⟨zle rfl, zle rfl⟩ ⟨zle rfl, zle rfl⟩ ⟨rfl, rfl⟩
set_option maxRecDepth 100000 in
set_option maxHeartbeats 4000000 in
theorem c_X8_distance {j : Nat} {n k : Nat} (hn : X.1 0 = nI n) (h4 : n ≤ 4) (hk : k < n) (hj : j < n) (hne : ¬ k = j) : ZM G mX8_distance 4 1 6 [.ref 0, .int (nI k), .int (nI j)] (zw X Y O) (zEq (some (.int (zdist X k j))) (zw X Y O)) := by
  refine ZM.go pX8 rfl rfl (zle rfl) (zl := [some (.ref 0), some (.int (nI k)), some (.int (nI j))]) rfl ?_
  refine z_aload_n (i := 0) dX8_distance_0 rfl rfl (q := 1) rfl ?_
  refine z_iload_n (i := 1) dX8_distance_1 rfl rfl (q := 2) rfl ?_
  refine z_callVF (As := [_]) dX8_distance_2 kX8_106 (c_X8_requireShape hn h4 hk) (wo_x _ _ _) rfl rfl (zle rfl) ⟨zle rfl, zle rfl⟩ ⟨zle rfl, zle rfl⟩ (q := 5) rfl ?_
  refine z_aload_n (i := 0) dX8_distance_5 rfl rfl (q := 6) rfl ?_
  refine z_iload_n (i := 2) dX8_distance_6 rfl rfl (q := 7) rfl ?_
  refine z_callVF (As := [_]) dX8_distance_7 kX8_106 (c_X8_requireShape hn h4 hj) (wo_x _ _ _) rfl rfl (zle rfl) ⟨zle rfl, zle rfl⟩ ⟨zle rfl, zle rfl⟩ (q := 10) rfl ?_
  refine z_iload_n (i := 1) dX8_distance_10 rfl rfl (q := 11) rfl ?_
  refine z_iload_n (i := 2) dX8_distance_11 rfl rfl (q := 12) rfl ?_
  refine z_icmp_ne (tgt := 26) dX8_distance_12 (by decide) (q := 15) rfl (fun h12 => ?_) (fun h12 => absurd ((nI_eq (by omega) (by omega)).mp h12) hne)
  refine z_aload_n (i := 0) dX8_distance_26 rfl rfl (q := 27) rfl ?_
  refine z_get dX8_distance_27 fX8_14 (wo_x _ _ _) rfl (q := 30) rfl ?_
  refine z_aload_n (i := 0) dX8_distance_30 rfl rfl (q := 31) rfl ?_
  refine z_get dX8_distance_31 fX8_18 (wo_x _ _ _) rfl (q := 34) rfl ?_
  refine z_iload_n (i := 1) dX8_distance_34 rfl rfl (q := 35) rfl ?_
  refine z_iload_n (i := 2) dX8_distance_35 rfl rfl (q := 36) rfl ?_
  refine z_callSF (As := [_, _, _, _]) dX8_distance_36 kX8_270 (c_X3_unitsBetween (by omega) (by omega)) rfl (zle rfl) ⟨zle rfl, zle rfl⟩ ⟨zle rfl, zle rfl⟩ (q := 39) rfl ?_
  exact z_iret dX8_distance_39 rfl ⟨zle rfl, zle rfl⟩ ⟨rfl, rfl⟩
set_option maxRecDepth 100000 in
set_option maxHeartbeats 4000000 in
theorem c_X8_distance_same {n k : Nat} (hn : X.1 0 = nI n) (h4 : n ≤ 4) (hk : k < n) : ZM G mX8_distance 4 1 6 [.ref 0, .int (nI k), .int (nI k)] (zw X Y O) (zTh eIAE (zw X Y O)) := by
  refine ZM.go pX8 rfl rfl (zle rfl) (zl := [some (.ref 0), some (.int (nI k)), some (.int (nI k))]) rfl ?_
  refine z_aload_n (i := 0) dX8_distance_0 rfl rfl (q := 1) rfl ?_
  refine z_iload_n (i := 1) dX8_distance_1 rfl rfl (q := 2) rfl ?_
  refine z_callVF (As := [_]) dX8_distance_2 kX8_106 (c_X8_requireShape hn h4 hk) (wo_x _ _ _) rfl rfl (zle rfl) ⟨zle rfl, zle rfl⟩ ⟨zle rfl, zle rfl⟩ (q := 5) rfl ?_
  refine z_aload_n (i := 0) dX8_distance_5 rfl rfl (q := 6) rfl ?_
  refine z_iload_n (i := 2) dX8_distance_6 rfl rfl (q := 7) rfl ?_
  refine z_callVF (As := [_]) dX8_distance_7 kX8_106 (c_X8_requireShape hn h4 hk) (wo_x _ _ _) rfl rfl (zle rfl) ⟨zle rfl, zle rfl⟩ ⟨zle rfl, zle rfl⟩ (q := 10) rfl ?_
  refine z_iload_n (i := 1) dX8_distance_10 rfl rfl (q := 11) rfl ?_
  refine z_iload_n (i := 2) dX8_distance_11 rfl rfl (q := 12) rfl ?_
  refine z_icmp_ne (tgt := 26) dX8_distance_12 (by decide) (q := 15) rfl (fun h12 => absurd rfl h12) (fun h12 => ?_)
  exact z_throwW dX8_distance_15 dX8_distance_18 dX8_distance_19 dX8_distance_22 dX8_distance_25 xX8_69_268 rfl ⟨zle rfl, zle rfl, zle rfl, zle rfl⟩ ⟨rfl, rfl⟩
set_option maxRecDepth 100000 in
set_option maxHeartbeats 4000000 in
theorem c_X8_distance_out {n : Nat} {s : Int32} (hn : X.1 0 = nI n) (h : s < 0 ∨ nI n ≤ s) {s2 : Int32} : ZM G mX8_distance 4 1 6 [.ref 0, .int s, .int s2] (zw X Y O) (zTh eIOOBE (zw X Y O)) := by
  refine ZM.go pX8 rfl rfl (zle rfl) (zl := [some (.ref 0), some (.int s), some (.int s2)]) rfl ?_
  refine z_aload_n (i := 0) dX8_distance_0 rfl rfl (q := 1) rfl ?_
  refine z_iload_n (i := 1) dX8_distance_1 rfl rfl (q := 2) rfl ?_
  exact z_callVT (As := [_]) dX8_distance_2 kX8_106 (c_X8_requireShape_out hn h) (wo_x _ _ _) rfl rfl rfl (zle rfl) ⟨zle rfl, zle rfl⟩ ⟨zle rfl, zle rfl⟩ ⟨rfl, rfl⟩
set_option maxRecDepth 100000 in
set_option maxHeartbeats 4000000 in
theorem c_X8_distance_out2 {n k : Nat} {s : Int32} (hn : X.1 0 = nI n) (h4 : n ≤ 4) (hk : k < n) (h : s < 0 ∨ nI n ≤ s) : ZM G mX8_distance 4 1 6 [.ref 0, .int (nI k), .int s] (zw X Y O) (zTh eIOOBE (zw X Y O)) := by
  refine ZM.go pX8 rfl rfl (zle rfl) (zl := [some (.ref 0), some (.int (nI k)), some (.int s)]) rfl ?_
  refine z_aload_n (i := 0) dX8_distance_0 rfl rfl (q := 1) rfl ?_
  refine z_iload_n (i := 1) dX8_distance_1 rfl rfl (q := 2) rfl ?_
  refine z_callVF (As := [_]) dX8_distance_2 kX8_106 (c_X8_requireShape hn h4 hk) (wo_x _ _ _) rfl rfl (zle rfl) ⟨zle rfl, zle rfl⟩ ⟨zle rfl, zle rfl⟩ (q := 5) rfl ?_
  refine z_aload_n (i := 0) dX8_distance_5 rfl rfl (q := 6) rfl ?_
  refine z_iload_n (i := 2) dX8_distance_6 rfl rfl (q := 7) rfl ?_
  exact z_callVT (As := [_]) dX8_distance_7 kX8_106 (c_X8_requireShape_out hn h) (wo_x _ _ _) rfl rfl rfl (zle rfl) ⟨zle rfl, zle rfl⟩ ⟨zle rfl, zle rfl⟩ ⟨rfl, rfl⟩
set_option maxRecDepth 100000 in
set_option maxHeartbeats 4000000 in
theorem c_X8_moved  : ZM G mX8_moved 0 0 0 [.ref 0] (zw X Y O) (zEq (some (.long X.2.2.2)) (zw X Y O)) := by
  refine ZM.go pX8 rfl rfl (zle rfl) (zl := [some (.ref 0)]) rfl ?_
  refine z_aload_n (i := 0) dX8_moved_0 rfl rfl (q := 1) rfl ?_
  refine z_get dX8_moved_1 fX8_65 (wo_x _ _ _) rfl (q := 4) rfl ?_
  exact z_lret dX8_moved_4 rfl ⟨zle rfl, zle rfl⟩ ⟨rfl, rfl⟩
end
