section
variable {G : zG} {X : zX} {Y : zY} {O : zO}
set_option maxRecDepth 100000 in
set_option maxHeartbeats 4000000 in
theorem sbf_le {z : Nat → Nat} : ∀ p, (∀ q, q < p → z q ≤ 200) → sbf z p ≤ 200 * p
  | 0, _ => Nat.le_refl _
  | p + 1, h => by
    have h1 := sbf_le p (fun q hq => h q (by omega))
    have h2 := h p (Nat.lt_succ_self p)
    unfold sbf
    omega
set_option maxRecDepth 100000 in
set_option maxHeartbeats 4000000 in
abbrev eSt (X : zX) (t : Nat) (o : Nat → Nat) (p : Nat) : Nat := sN X t (o p)
set_option maxRecDepth 100000 in
set_option maxHeartbeats 4000000 in
abbrev eSb (X : zX) (t : Nat) (o : Nat → Nat) : Nat → Nat := sbf (fun q => zN X t (o q))
set_option maxRecDepth 100000 in
set_option maxHeartbeats 4000000 in
abbrev eLk (X : zX) (o : Nat → Nat) (p : Nat) : Int32 := X.2.1 4 (o p)
set_option maxRecDepth 100000 in
set_option maxHeartbeats 4000000 in
abbrev eF (X : zX) (t n : Nat) (o : Nat → Nat) : Int32 := zlim t - nI (sbf (fun q => zN X t (o q)) n)
set_option maxRecDepth 100000 in
set_option maxHeartbeats 4000000 in
theorem evN_of {X2 : zX} {t n nw : Nat} {o : Nat → Nat} (hI : inv X n nw) (ht : t < 2) (hev : evI X t n o n X2) (ho : ordR X t n o) (hf : X2.2.2.1 2 = eF X t n o) : evN X2 n (eSt X t o) (eSb X t o) (eLk X o) (eF X t n o) ∧ (eF X t n o < 0 ∨ ∃ Fn, eF X t n o = nI Fn ∧ Fn ≤ 200) := by
  have h4 := hI.1
  have hz : ∀ q, q < n → zN X t (o q) ≤ 200 := fun q hq => (inv_axis hI ht (ho.1 q hq)).2.2
  refine ⟨⟨h4, hev.1, fun p hp => ?_, hf⟩, ?_⟩
  · obtain ⟨g1, g2, g3⟩ := hev.2.2.2.2.2 p hp
    have h1 := sbf_le (z := fun q => zN X t (o q)) p (fun q hq => hz q (by omega))
    exact ⟨g1, (inv_axis hI ht (ho.1 p hp)).1.2, g2, by show sbf _ p ≤ 800; omega, g3⟩
  · have h1 := sbf_le (z := fun q => zN X t (o q)) n hz
    have hl : ∃ l, zlim t = nI l ∧ l ≤ 200 := by
      rcases (show t = 0 ∨ t = 1 by omega) with rfl | rfl
      · exact ⟨200, rfl, by decide⟩
      · exact ⟨120, rfl, by decide⟩
    obtain ⟨l, e, hl⟩ := hl
    show zlim t - nI (sbf (fun q => zN X t (o q)) n) < 0 ∨ ∃ Fn, zlim t - nI (sbf (fun q => zN X t (o q)) n) = nI Fn ∧ Fn ≤ 200
    rw [e]
    rcases Nat.lt_or_ge l (sbf (fun q => zN X t (o q)) n) with h2 | h2
    · exact Or.inl (nI_subneg h2 (by omega))
    · exact Or.inr ⟨_, nI_sub h2, by omega⟩
/- b is what an even search along t finds, o its order -/
set_option maxRecDepth 100000 in
set_option maxHeartbeats 4000000 in
def evR (X : zX) (t n : Nat) (o : Nat → Nat) (b : eb) : Prop := ordR X t n o ∧ eres (cand n (eSt X t o) (eSb X t o) (eLk X o) (eF X t n o)) (fun g s => cN (eSt X t o) (eSb X t o) g s 0 n) b
set_option maxRecDepth 100000 in
set_option maxHeartbeats 4000000 in
def evAns : eb → zRes
  | none => .inr eNSE
  | some (c, _, _) => .inl (some (.int (nI c)))
set_option maxRecDepth 100000 in
set_option maxHeartbeats 4000000 in
theorem ke_k3 {X X2 X3 : zX} (h : ke X X2) (h2 : k3 X2 X3) : ke X X3 :=
  ⟨fun r hr => ⟨(h2.1 r (fun e => hr (by omega))).1.trans (h.1 r hr).1, (h2.1 r (fun e => hr (by omega))).2.trans (h.1 r hr).2⟩, h2.2.2.trans h.2⟩
set_option maxRecDepth 100000 in
set_option maxHeartbeats 4000000 in
theorem c_X8_requireEvenLayout (h : ¬ X.2.2.1 3 = -1) : ZM G mX8_requireEvenLayout 1 0 0 [.ref 0] (zw X Y O) (zEq none (zw X Y O)) := by
  refine ZM.go pX8 rfl rfl (zle rfl) (zl := [some (.ref 0)]) rfl ?_
  refine z_aload_n (i := 0) dX8_requireEvenLayout_0 rfl rfl (q := 1) rfl ?_
  refine z_get dX8_requireEvenLayout_1 fX8_48 (wo_x _ _ _) rfl (q := 4) rfl ?_
  refine z_callVF (As := []) dX8_requireEvenLayout_4 kX8_248 (c_X2_foundCost ) (wo_evenSearch _ _ _) rfl rfl (zle rfl) ⟨zle rfl, zle rfl⟩ ⟨zle rfl, zle rfl⟩ (q := 7) rfl ?_
  refine z_iconst (v := (-1)) dX8_requireEvenLayout_7 rfl (q := 8) rfl ?_
  refine z_icmp_ne (tgt := 22) dX8_requireEvenLayout_8 (by decide) (q := 11) rfl (fun h8 => ?_) (fun h8 => absurd h8 h)
  exact z_vret dX8_requireEvenLayout_22 rfl ⟨zle rfl, zle rfl⟩ ⟨rfl, rfl⟩
set_option maxRecDepth 100000 in
set_option maxHeartbeats 4000000 in
theorem c_X8_requireEvenLayout_no (h : X.2.2.1 3 = -1) : ZM G mX8_requireEvenLayout 1 1 6 [.ref 0] (zw X Y O) (zTh eNSE (zw X Y O)) := by
  refine ZM.go pX8 rfl rfl (zle rfl) (zl := [some (.ref 0)]) rfl ?_
  refine z_aload_n (i := 0) dX8_requireEvenLayout_0 rfl rfl (q := 1) rfl ?_
  refine z_get dX8_requireEvenLayout_1 fX8_48 (wo_x _ _ _) rfl (q := 4) rfl ?_
  refine z_callVF (As := []) dX8_requireEvenLayout_4 kX8_248 (c_X2_foundCost ) (wo_evenSearch _ _ _) rfl rfl (zle rfl) ⟨zle rfl, zle rfl⟩ ⟨zle rfl, zle rfl⟩ (q := 7) rfl ?_
  refine z_iconst (v := (-1)) dX8_requireEvenLayout_7 rfl (q := 8) rfl ?_
  refine z_icmp_ne (tgt := 22) dX8_requireEvenLayout_8 (by decide) (q := 11) rfl (fun h8 => absurd h h8) (fun h8 => ?_)
  exact z_throwNW dX8_requireEvenLayout_11 dX8_requireEvenLayout_14 dX8_requireEvenLayout_15 dX8_requireEvenLayout_18 dX8_requireEvenLayout_21 xX8_157_314 rfl ⟨zle rfl, zle rfl, zle rfl, zle rfl⟩ ⟨rfl, rfl⟩
set_option maxRecDepth 100000 in
set_option maxHeartbeats 4000000 in
theorem c_X8_evenCost_0 {n nw : Nat} (hI : inv X n nw) : ZM G mX8_evenCost 6 1 6 [.ref 0, .int (zch 0)] (zw X Y O) (fun r w2 => ∃ (X2 : zX) (o : Nat → Nat) (b : eb), evR X 0 n o b ∧ r = evAns b ∧ w2 = zw X2 Y O ∧ keep0 X X2) := by
  refine ZM.go pX8 rfl rfl (zle rfl) (zl := [some (.ref 0), some (.int (zch 0))]) rfl ?_
  refine z_aload_n (i := 0) dX8_evenCost_0 rfl rfl (q := 1) rfl ?_
  refine z_get dX8_evenCost_1 fX8_48 (wo_x _ _ _) rfl (q := 4) rfl ?_
  refine z_aload_n (i := 0) dX8_evenCost_4 rfl rfl (q := 5) rfl ?_
  refine z_iload_n (i := 1) dX8_evenCost_5 rfl rfl (q := 6) rfl ?_
  refine z_callVF (As := [_]) dX8_evenCost_6 kX8_116 (c_X8_axisNamed (t := 0) (by decide)) (wo_x _ _ _) rfl rfl (zle rfl) ⟨zle rfl, zle rfl⟩ ⟨zle rfl, zle rfl⟩ (q := 9) rfl ?_
  refine z_aload_n (i := 0) dX8_evenCost_9 rfl rfl (q := 10) rfl ?_
  refine z_get dX8_evenCost_10 fX8_24 (wo_x _ _ _) rfl (q := 13) rfl ?_
  refine z_callV (As := [_, _]) dX8_evenCost_13 kX8_238 (c_X2_load_0 (hI.2.2.1 (2 * 0) (by decide)) hI.1 (fun j hj => inv_axis hI (t := 0) (by decide) hj)) (wo_evenSearch _ _ _) rfl rfl (zle rfl) ⟨zle rfl, zle rfl⟩ ⟨zle rfl, zle rfl⟩ (q := 16) rfl (fun rv w2 hw2 => ?_) (fun E w2 h9 => by cases h9.1)
  obtain ⟨h9, X2, o, rfl, hk, hev, ho, hf⟩ := hw2
  cases h9
  obtain ⟨hE, hF⟩ := evN_of (t := 0) hI (by decide) hev ho hf
  refine z_aload_n (i := 0) dX8_evenCost_16 rfl rfl (q := 17) rfl ?_
  refine z_get dX8_evenCost_17 fX8_48 (wo_x _ _ _) rfl (q := 20) rfl ?_
  refine z_callV (As := []) dX8_evenCost_20 kX8_242 (c_X2_searchBestStarts hE hF) (wo_evenSearch _ _ _) rfl rfl (zle rfl) ⟨zle rfl, zle rfl⟩ ⟨zle rfl, zle rfl⟩ (q := 23) rfl (fun rv w2 hw2 => ?_) (fun E w2 h9 => by cases h9.1)
  obtain ⟨h9, X3, b, rfl, hk3, hb, hr⟩ := hw2
  cases h9
  rcases b with _ | ⟨c, g, s⟩
  · refine z_aload_n (i := 0) dX8_evenCost_23 rfl rfl (q := 24) rfl ?_
    exact z_callVT (As := []) dX8_evenCost_24 kX8_245 (c_X8_requireEvenLayout_no hb) (wo_x _ _ _) rfl rfl rfl (zle rfl) ⟨zle rfl, zle rfl⟩ ⟨zle rfl, zle rfl⟩ ⟨X3, o, none, ⟨ho, hr⟩, rfl, rfl, ke_0 (ke_k3 hk hk3)⟩
  · refine z_aload_n (i := 0) dX8_evenCost_23 rfl rfl (q := 24) rfl ?_
    refine z_callVF (As := []) dX8_evenCost_24 kX8_245 (c_X8_requireEvenLayout (fun h9 => nI_neg1 (by have := hb.2.2.2.1; omega) (hb.1.symm.trans h9))) (wo_x _ _ _) rfl rfl (zle rfl) ⟨zle rfl, zle rfl⟩ ⟨zle rfl, zle rfl⟩ (q := 27) rfl ?_
    refine z_aload_n (i := 0) dX8_evenCost_27 rfl rfl (q := 28) rfl ?_
    refine z_get dX8_evenCost_28 fX8_48 (wo_x _ _ _) rfl (q := 31) rfl ?_
    refine z_callVF (As := []) dX8_evenCost_31 kX8_248 (c_X2_foundCost) (wo_evenSearch _ _ _) rfl rfl (zle rfl) ⟨zle rfl, zle rfl⟩ ⟨zle rfl, zle rfl⟩ (q := 34) rfl ?_
    rw [hb.1]
    exact z_iret dX8_evenCost_34 rfl ⟨zle rfl, zle rfl⟩ ⟨X3, o, some (c, g, s), ⟨ho, hr⟩, rfl, rfl, ke_0 (ke_k3 hk hk3)⟩
set_option maxRecDepth 100000 in
set_option maxHeartbeats 4000000 in
theorem c_X8_evenCost_1 {n nw : Nat} (hI : inv X n nw) : ZM G mX8_evenCost 6 1 6 [.ref 0, .int (zch 1)] (zw X Y O) (fun r w2 => ∃ (X2 : zX) (o : Nat → Nat) (b : eb), evR X 1 n o b ∧ r = evAns b ∧ w2 = zw X2 Y O ∧ keep0 X X2) := by
  refine ZM.go pX8 rfl rfl (zle rfl) (zl := [some (.ref 0), some (.int (zch 1))]) rfl ?_
  refine z_aload_n (i := 0) dX8_evenCost_0 rfl rfl (q := 1) rfl ?_
  refine z_get dX8_evenCost_1 fX8_48 (wo_x _ _ _) rfl (q := 4) rfl ?_
  refine z_aload_n (i := 0) dX8_evenCost_4 rfl rfl (q := 5) rfl ?_
  refine z_iload_n (i := 1) dX8_evenCost_5 rfl rfl (q := 6) rfl ?_
  refine z_callVF (As := [_]) dX8_evenCost_6 kX8_116 (c_X8_axisNamed (t := 1) (by decide)) (wo_x _ _ _) rfl rfl (zle rfl) ⟨zle rfl, zle rfl⟩ ⟨zle rfl, zle rfl⟩ (q := 9) rfl ?_
  refine z_aload_n (i := 0) dX8_evenCost_9 rfl rfl (q := 10) rfl ?_
  refine z_get dX8_evenCost_10 fX8_24 (wo_x _ _ _) rfl (q := 13) rfl ?_
  refine z_callV (As := [_, _]) dX8_evenCost_13 kX8_238 (c_X2_load_1 (hI.2.2.1 (2 * 1) (by decide)) hI.1 (fun j hj => inv_axis hI (t := 1) (by decide) hj)) (wo_evenSearch _ _ _) rfl rfl (zle rfl) ⟨zle rfl, zle rfl⟩ ⟨zle rfl, zle rfl⟩ (q := 16) rfl (fun rv w2 hw2 => ?_) (fun E w2 h9 => by cases h9.1)
  obtain ⟨h9, X2, o, rfl, hk, hev, ho, hf⟩ := hw2
  cases h9
  obtain ⟨hE, hF⟩ := evN_of (t := 1) hI (by decide) hev ho hf
  refine z_aload_n (i := 0) dX8_evenCost_16 rfl rfl (q := 17) rfl ?_
  refine z_get dX8_evenCost_17 fX8_48 (wo_x _ _ _) rfl (q := 20) rfl ?_
  refine z_callV (As := []) dX8_evenCost_20 kX8_242 (c_X2_searchBestStarts hE hF) (wo_evenSearch _ _ _) rfl rfl (zle rfl) ⟨zle rfl, zle rfl⟩ ⟨zle rfl, zle rfl⟩ (q := 23) rfl (fun rv w2 hw2 => ?_) (fun E w2 h9 => by cases h9.1)
  obtain ⟨h9, X3, b, rfl, hk3, hb, hr⟩ := hw2
  cases h9
  rcases b with _ | ⟨c, g, s⟩
  · refine z_aload_n (i := 0) dX8_evenCost_23 rfl rfl (q := 24) rfl ?_
    exact z_callVT (As := []) dX8_evenCost_24 kX8_245 (c_X8_requireEvenLayout_no hb) (wo_x _ _ _) rfl rfl rfl (zle rfl) ⟨zle rfl, zle rfl⟩ ⟨zle rfl, zle rfl⟩ ⟨X3, o, none, ⟨ho, hr⟩, rfl, rfl, ke_0 (ke_k3 hk hk3)⟩
  · refine z_aload_n (i := 0) dX8_evenCost_23 rfl rfl (q := 24) rfl ?_
    refine z_callVF (As := []) dX8_evenCost_24 kX8_245 (c_X8_requireEvenLayout (fun h9 => nI_neg1 (by have := hb.2.2.2.1; omega) (hb.1.symm.trans h9))) (wo_x _ _ _) rfl rfl (zle rfl) ⟨zle rfl, zle rfl⟩ ⟨zle rfl, zle rfl⟩ (q := 27) rfl ?_
    refine z_aload_n (i := 0) dX8_evenCost_27 rfl rfl (q := 28) rfl ?_
    refine z_get dX8_evenCost_28 fX8_48 (wo_x _ _ _) rfl (q := 31) rfl ?_
    refine z_callVF (As := []) dX8_evenCost_31 kX8_248 (c_X2_foundCost) (wo_evenSearch _ _ _) rfl rfl (zle rfl) ⟨zle rfl, zle rfl⟩ ⟨zle rfl, zle rfl⟩ (q := 34) rfl ?_
    rw [hb.1]
    exact z_iret dX8_evenCost_34 rfl ⟨zle rfl, zle rfl⟩ ⟨X3, o, some (c, g, s), ⟨ho, hr⟩, rfl, rfl, ke_0 (ke_k3 hk hk3)⟩
set_option maxRecDepth 100000 in
set_option maxHeartbeats 4000000 in
theorem c_X8_evenCost_ax {c : Int32} (h1 : ¬ c = 120) (h2 : ¬ c = 121) : ZM G mX8_evenCost 6 1 6 [.ref 0, .int c] (zw X Y O) (zTh eIAE (zw X Y O)) := by
  refine ZM.go pX8 rfl rfl (zle rfl) (zl := [some (.ref 0), some (.int c)]) rfl ?_
  refine z_aload_n (i := 0) dX8_evenCost_0 rfl rfl (q := 1) rfl ?_
  refine z_get dX8_evenCost_1 fX8_48 (wo_x _ _ _) rfl (q := 4) rfl ?_
  refine z_aload_n (i := 0) dX8_evenCost_4 rfl rfl (q := 5) rfl ?_
  refine z_iload_n (i := 1) dX8_evenCost_5 rfl rfl (q := 6) rfl ?_
  exact z_callVT (As := [_]) dX8_evenCost_6 kX8_116 (c_X8_axisNamed_out h1 h2) (wo_x _ _ _) rfl rfl rfl (zle rfl) ⟨zle rfl, zle rfl⟩ ⟨zle rfl, zle rfl⟩ ⟨rfl, rfl⟩
set_option maxRecDepth 100000 in
set_option maxHeartbeats 4000000 in
theorem c_X8_evenByAll_0 {n nw : Nat} (hI : inv X n nw) : ZM G mX8_evenByAll 6 1 6 [.ref 0, .int (zch 0)] (zw X Y O) (fun r w2 => ∃ (X2 : zX) (o : Nat → Nat) (b : eb), evR X 0 n o b ∧ r = evAns b ∧ w2 = zw X2 Y O ∧ keep0 X X2) := by
  refine ZM.go pX8 rfl rfl (zle rfl) (zl := [some (.ref 0), some (.int (zch 0))]) rfl ?_
  refine z_aload_n (i := 0) dX8_evenByAll_0 rfl rfl (q := 1) rfl ?_
  refine z_get dX8_evenByAll_1 fX8_48 (wo_x _ _ _) rfl (q := 4) rfl ?_
  refine z_aload_n (i := 0) dX8_evenByAll_4 rfl rfl (q := 5) rfl ?_
  refine z_iload_n (i := 1) dX8_evenByAll_5 rfl rfl (q := 6) rfl ?_
  refine z_callVF (As := [_]) dX8_evenByAll_6 kX8_116 (c_X8_axisNamed (t := 0) (by decide)) (wo_x _ _ _) rfl rfl (zle rfl) ⟨zle rfl, zle rfl⟩ ⟨zle rfl, zle rfl⟩ (q := 9) rfl ?_
  refine z_aload_n (i := 0) dX8_evenByAll_9 rfl rfl (q := 10) rfl ?_
  refine z_get dX8_evenByAll_10 fX8_24 (wo_x _ _ _) rfl (q := 13) rfl ?_
  refine z_callV (As := [_, _]) dX8_evenByAll_13 kX8_238 (c_X2_load_0 (hI.2.2.1 (2 * 0) (by decide)) hI.1 (fun j hj => inv_axis hI (t := 0) (by decide) hj)) (wo_evenSearch _ _ _) rfl rfl (zle rfl) ⟨zle rfl, zle rfl⟩ ⟨zle rfl, zle rfl⟩ (q := 16) rfl (fun rv w2 hw2 => ?_) (fun E w2 h9 => by cases h9.1)
  obtain ⟨h9, X2, o, rfl, hk, hev, ho, hf⟩ := hw2
  cases h9
  obtain ⟨hE, hF⟩ := evN_of (t := 0) hI (by decide) hev ho hf
  refine z_aload_n (i := 0) dX8_evenByAll_16 rfl rfl (q := 17) rfl ?_
  refine z_get dX8_evenByAll_17 fX8_48 (wo_x _ _ _) rfl (q := 20) rfl ?_
  refine z_callV (As := []) dX8_evenByAll_20 kX8_249 (c_X2_searchAll hE hF) (wo_evenSearch _ _ _) rfl rfl (zle rfl) ⟨zle rfl, zle rfl⟩ ⟨zle rfl, zle rfl⟩ (q := 23) rfl (fun rv w2 hw2 => ?_) (fun E w2 h9 => by cases h9.1)
  obtain ⟨h9, X3, b, rfl, hk3, hb, hr⟩ := hw2
  cases h9
  rcases b with _ | ⟨c, g, s⟩
  · refine z_aload_n (i := 0) dX8_evenByAll_23 rfl rfl (q := 24) rfl ?_
    exact z_callVT (As := []) dX8_evenByAll_24 kX8_245 (c_X8_requireEvenLayout_no hb) (wo_x _ _ _) rfl rfl rfl (zle rfl) ⟨zle rfl, zle rfl⟩ ⟨zle rfl, zle rfl⟩ ⟨X3, o, none, ⟨ho, hr⟩, rfl, rfl, ke_0 (ke_k3 hk hk3)⟩
  · refine z_aload_n (i := 0) dX8_evenByAll_23 rfl rfl (q := 24) rfl ?_
    refine z_callVF (As := []) dX8_evenByAll_24 kX8_245 (c_X8_requireEvenLayout (fun h9 => nI_neg1 (by have := hb.2.2.2.1; omega) (hb.1.symm.trans h9))) (wo_x _ _ _) rfl rfl (zle rfl) ⟨zle rfl, zle rfl⟩ ⟨zle rfl, zle rfl⟩ (q := 27) rfl ?_
    refine z_aload_n (i := 0) dX8_evenByAll_27 rfl rfl (q := 28) rfl ?_
    refine z_get dX8_evenByAll_28 fX8_48 (wo_x _ _ _) rfl (q := 31) rfl ?_
    refine z_callVF (As := []) dX8_evenByAll_31 kX8_248 (c_X2_foundCost) (wo_evenSearch _ _ _) rfl rfl (zle rfl) ⟨zle rfl, zle rfl⟩ ⟨zle rfl, zle rfl⟩ (q := 34) rfl ?_
    rw [hb.1]
    exact z_iret dX8_evenByAll_34 rfl ⟨zle rfl, zle rfl⟩ ⟨X3, o, some (c, g, s), ⟨ho, hr⟩, rfl, rfl, ke_0 (ke_k3 hk hk3)⟩
set_option maxRecDepth 100000 in
set_option maxHeartbeats 4000000 in
theorem c_X8_evenByAll_1 {n nw : Nat} (hI : inv X n nw) : ZM G mX8_evenByAll 6 1 6 [.ref 0, .int (zch 1)] (zw X Y O) (fun r w2 => ∃ (X2 : zX) (o : Nat → Nat) (b : eb), evR X 1 n o b ∧ r = evAns b ∧ w2 = zw X2 Y O ∧ keep0 X X2) := by
  refine ZM.go pX8 rfl rfl (zle rfl) (zl := [some (.ref 0), some (.int (zch 1))]) rfl ?_
  refine z_aload_n (i := 0) dX8_evenByAll_0 rfl rfl (q := 1) rfl ?_
  refine z_get dX8_evenByAll_1 fX8_48 (wo_x _ _ _) rfl (q := 4) rfl ?_
  refine z_aload_n (i := 0) dX8_evenByAll_4 rfl rfl (q := 5) rfl ?_
  refine z_iload_n (i := 1) dX8_evenByAll_5 rfl rfl (q := 6) rfl ?_
  refine z_callVF (As := [_]) dX8_evenByAll_6 kX8_116 (c_X8_axisNamed (t := 1) (by decide)) (wo_x _ _ _) rfl rfl (zle rfl) ⟨zle rfl, zle rfl⟩ ⟨zle rfl, zle rfl⟩ (q := 9) rfl ?_
  refine z_aload_n (i := 0) dX8_evenByAll_9 rfl rfl (q := 10) rfl ?_
  refine z_get dX8_evenByAll_10 fX8_24 (wo_x _ _ _) rfl (q := 13) rfl ?_
  refine z_callV (As := [_, _]) dX8_evenByAll_13 kX8_238 (c_X2_load_1 (hI.2.2.1 (2 * 1) (by decide)) hI.1 (fun j hj => inv_axis hI (t := 1) (by decide) hj)) (wo_evenSearch _ _ _) rfl rfl (zle rfl) ⟨zle rfl, zle rfl⟩ ⟨zle rfl, zle rfl⟩ (q := 16) rfl (fun rv w2 hw2 => ?_) (fun E w2 h9 => by cases h9.1)
  obtain ⟨h9, X2, o, rfl, hk, hev, ho, hf⟩ := hw2
  cases h9
  obtain ⟨hE, hF⟩ := evN_of (t := 1) hI (by decide) hev ho hf
  refine z_aload_n (i := 0) dX8_evenByAll_16 rfl rfl (q := 17) rfl ?_
  refine z_get dX8_evenByAll_17 fX8_48 (wo_x _ _ _) rfl (q := 20) rfl ?_
  refine z_callV (As := []) dX8_evenByAll_20 kX8_249 (c_X2_searchAll hE hF) (wo_evenSearch _ _ _) rfl rfl (zle rfl) ⟨zle rfl, zle rfl⟩ ⟨zle rfl, zle rfl⟩ (q := 23) rfl (fun rv w2 hw2 => ?_) (fun E w2 h9 => by cases h9.1)
  obtain ⟨h9, X3, b, rfl, hk3, hb, hr⟩ := hw2
  cases h9
  rcases b with _ | ⟨c, g, s⟩
  · refine z_aload_n (i := 0) dX8_evenByAll_23 rfl rfl (q := 24) rfl ?_
    exact z_callVT (As := []) dX8_evenByAll_24 kX8_245 (c_X8_requireEvenLayout_no hb) (wo_x _ _ _) rfl rfl rfl (zle rfl) ⟨zle rfl, zle rfl⟩ ⟨zle rfl, zle rfl⟩ ⟨X3, o, none, ⟨ho, hr⟩, rfl, rfl, ke_0 (ke_k3 hk hk3)⟩
  · refine z_aload_n (i := 0) dX8_evenByAll_23 rfl rfl (q := 24) rfl ?_
    refine z_callVF (As := []) dX8_evenByAll_24 kX8_245 (c_X8_requireEvenLayout (fun h9 => nI_neg1 (by have := hb.2.2.2.1; omega) (hb.1.symm.trans h9))) (wo_x _ _ _) rfl rfl (zle rfl) ⟨zle rfl, zle rfl⟩ ⟨zle rfl, zle rfl⟩ (q := 27) rfl ?_
    refine z_aload_n (i := 0) dX8_evenByAll_27 rfl rfl (q := 28) rfl ?_
    refine z_get dX8_evenByAll_28 fX8_48 (wo_x _ _ _) rfl (q := 31) rfl ?_
    refine z_callVF (As := []) dX8_evenByAll_31 kX8_248 (c_X2_foundCost) (wo_evenSearch _ _ _) rfl rfl (zle rfl) ⟨zle rfl, zle rfl⟩ ⟨zle rfl, zle rfl⟩ (q := 34) rfl ?_
    rw [hb.1]
    exact z_iret dX8_evenByAll_34 rfl ⟨zle rfl, zle rfl⟩ ⟨X3, o, some (c, g, s), ⟨ho, hr⟩, rfl, rfl, ke_0 (ke_k3 hk hk3)⟩
set_option maxRecDepth 100000 in
set_option maxHeartbeats 4000000 in
theorem c_X8_evenByAll_ax {c : Int32} (h1 : ¬ c = 120) (h2 : ¬ c = 121) : ZM G mX8_evenByAll 6 1 6 [.ref 0, .int c] (zw X Y O) (zTh eIAE (zw X Y O)) := by
  refine ZM.go pX8 rfl rfl (zle rfl) (zl := [some (.ref 0), some (.int c)]) rfl ?_
  refine z_aload_n (i := 0) dX8_evenByAll_0 rfl rfl (q := 1) rfl ?_
  refine z_get dX8_evenByAll_1 fX8_48 (wo_x _ _ _) rfl (q := 4) rfl ?_
  refine z_aload_n (i := 0) dX8_evenByAll_4 rfl rfl (q := 5) rfl ?_
  refine z_iload_n (i := 1) dX8_evenByAll_5 rfl rfl (q := 6) rfl ?_
  exact z_callVT (As := [_]) dX8_evenByAll_6 kX8_116 (c_X8_axisNamed_out h1 h2) (wo_x _ _ _) rfl rfl rfl (zle rfl) ⟨zle rfl, zle rfl⟩ ⟨zle rfl, zle rfl⟩ ⟨rfl, rfl⟩
end
