section
variable {G : zG} {X X1 X2 : zX} {Y : zY} {O : zO}
set_option maxRecDepth 100000 in
set_option maxHeartbeats 4000000 in
theorem wcon_7 : Cond.constant RL 7 69069 ∈ zt := zt_at 686 rfl rfl
set_option maxRecDepth 100000 in
set_option maxHeartbeats 4000000 in
theorem wcon_8 : Cond.constant RL 8 1103515245 ∈ zt := zt_at 687 rfl rfl
set_option maxRecDepth 100000 in
set_option maxHeartbeats 4000000 in
theorem nI_remm {a m : Nat} (h : a < 2 ^ 31) (hm : m < 2 ^ 31) : nI a - nI a / nI m * nI m = nI (a % m) := by
  have e : nI a / nI m = nI (a / m) := (Int32.ofNat_div h hm).symm
  rw [e, nI_mul, nI_sub (Nat.div_mul_le_self a m)]
  congr 1
  have := Nat.div_add_mod a m
  rw [Nat.mul_comm] at this
  omega
set_option maxRecDepth 100000 in
set_option maxHeartbeats 4000000 in
theorem u_nI (x : UInt32) : x.toInt32 = nI x.toNat := by
  apply Int32.toBitVec_inj.mp
  show x.toBitVec = BitVec.ofNat 32 x.toBitVec.toNat
  rw [BitVec.ofNat_toNat]
  simp
set_option maxRecDepth 100000 in
set_option maxHeartbeats 4000000 in
theorem shr8 (x : Int32) : ∃ u, u < 2 ^ 24 ∧ (x.toUInt32 >>> ((8 : Int32).toUInt32 &&& Int32.toUInt32 31)).toInt32 = nI u := by
  refine ⟨(x.toUInt32 >>> ((8 : Int32).toUInt32 &&& Int32.toUInt32 31)).toNat, ?_, u_nI _⟩
  have h : x.toUInt32.toNat < 2 ^ 32 := x.toUInt32.toNat_lt
  rw [show ((8 : Int32).toUInt32 &&& Int32.toUInt32 31) = (8 : UInt32) by decide, UInt32.toNat_shiftRight]
  rw [show (8 : UInt32).toNat % 32 = 8 by decide, Nat.shiftRight_eq_div_pow]
  omega
set_option maxRecDepth 100000 in
set_option maxHeartbeats 4000000 in
theorem c_L_cell {w : zWorld} {i : Nat} (hL : G.L ≤ 260) (hi : i < 100000) : ZM G mL_cell 0 0 0 [.ref zSI, .int (nI i)] w (fun r w2 => (∃ v, r = .inl (some (.int v))) ∧ w2 = w) := by
  refine ZM.go pL rfl rfl (zle rfl) (zl := [some (.ref zSI), some (.int (nI i)), none]) rfl ?_
  refine z_ldci dL_cell_0 wcon_7 (q := 2) rfl ?_
  refine z_iload_n (i := 1) dL_cell_2 rfl rfl (q := 3) rfl ?_
  refine z_aload_n (i := 0) dL_cell_3 rfl rfl (q := 4) rfl ?_
  refine z_slen dL_cell_4 (q := 5) rfl ?_
  refine z_icmp_ge (tgt := 14) dL_cell_5 (by decide) (q := 8) rfl (fun h5 => ?_) (fun h5 => ?_)
  · refine z_iconst (v := 0) dL_cell_14 rfl (q := 15) rfl ?_
    refine z_sipush (v := 1009) dL_cell_15 rfl (q := 18) rfl ?_
    refine z_iload_n (i := 1) dL_cell_18 rfl rfl (q := 19) rfl ?_
    refine z_imul dL_cell_19 (q := 20) rfl ?_
    refine z_iadd dL_cell_20 (q := 21) rfl ?_
    refine z_imul dL_cell_21 (q := 22) rfl ?_
    refine z_sipush (v := 12345) dL_cell_22 rfl (q := 25) rfl ?_
    refine z_iadd dL_cell_25 (q := 26) rfl ?_
    refine z_istore_n (i := 2) dL_cell_26 rfl (zle rfl) rfl (q := 27) rfl ?_
    refine z_iload_n (i := 2) dL_cell_27 rfl rfl (q := 28) rfl ?_
    refine z_iload_n (i := 2) dL_cell_28 rfl rfl (q := 29) rfl ?_
    refine z_bipush (v := 13) dL_cell_29 rfl (q := 31) rfl ?_
    refine z_iushr dL_cell_31 rfl (q := 32) rfl ?_
    refine z_ixor dL_cell_32 (q := 33) rfl ?_
    refine z_ldci dL_cell_33 wcon_8 (q := 35) rfl ?_
    refine z_imul dL_cell_35 (q := 36) rfl ?_
    refine z_istore_n (i := 2) dL_cell_36 rfl (zle rfl) rfl (q := 37) rfl ?_
    refine z_iload_n (i := 2) dL_cell_37 rfl rfl (q := 38) rfl ?_
    refine z_iload_n (i := 2) dL_cell_38 rfl rfl (q := 39) rfl ?_
    refine z_bipush (v := 16) dL_cell_39 rfl (q := 41) rfl ?_
    refine z_iushr dL_cell_41 rfl (q := 42) rfl ?_
    refine z_ixor dL_cell_42 (q := 43) rfl ?_
    exact z_iret dL_cell_43 rfl ⟨zle rfl, zle rfl⟩ ⟨⟨_, rfl⟩, rfl⟩
  · refine z_aload_n (i := 0) dL_cell_8 rfl rfl (q := 9) rfl ?_
    refine z_iload_n (i := 1) dL_cell_9 rfl rfl (q := 10) rfl ?_
    refine z_sld dL_cell_10 (zin (by have h9 : ¬ nI G.L ≤ nI i := h5; rw [nI_leI (by omega) (by omega)] at h9; omega) (by omega)) (q := 11) rfl ?_
    refine z_goto (tgt := 15) dL_cell_11 (by decide) ?_
    refine z_sipush (v := 1009) dL_cell_15 rfl (q := 18) rfl ?_
    refine z_iload_n (i := 1) dL_cell_18 rfl rfl (q := 19) rfl ?_
    refine z_imul dL_cell_19 (q := 20) rfl ?_
    refine z_iadd dL_cell_20 (q := 21) rfl ?_
    refine z_imul dL_cell_21 (q := 22) rfl ?_
    refine z_sipush (v := 12345) dL_cell_22 rfl (q := 25) rfl ?_
    refine z_iadd dL_cell_25 (q := 26) rfl ?_
    refine z_istore_n (i := 2) dL_cell_26 rfl (zle rfl) rfl (q := 27) rfl ?_
    refine z_iload_n (i := 2) dL_cell_27 rfl rfl (q := 28) rfl ?_
    refine z_iload_n (i := 2) dL_cell_28 rfl rfl (q := 29) rfl ?_
    refine z_bipush (v := 13) dL_cell_29 rfl (q := 31) rfl ?_
    refine z_iushr dL_cell_31 rfl (q := 32) rfl ?_
    refine z_ixor dL_cell_32 (q := 33) rfl ?_
    refine z_ldci dL_cell_33 wcon_8 (q := 35) rfl ?_
    refine z_imul dL_cell_35 (q := 36) rfl ?_
    refine z_istore_n (i := 2) dL_cell_36 rfl (zle rfl) rfl (q := 37) rfl ?_
    refine z_iload_n (i := 2) dL_cell_37 rfl rfl (q := 38) rfl ?_
    refine z_iload_n (i := 2) dL_cell_38 rfl rfl (q := 39) rfl ?_
    refine z_bipush (v := 16) dL_cell_39 rfl (q := 41) rfl ?_
    refine z_iushr dL_cell_41 rfl (q := 42) rfl ?_
    refine z_ixor dL_cell_42 (q := 43) rfl ?_
    exact z_iret dL_cell_43 rfl ⟨zle rfl, zle rfl⟩ ⟨⟨_, rfl⟩, rfl⟩
set_option maxRecDepth 100000 in
set_option maxHeartbeats 4000000 in
theorem c_L_pick {w : zWorld} {i m : Nat} (hL : G.L ≤ 260) (hi : i < 100000) (hm : 0 < m) (hm2 : m < 100000) : ZM G mL_pick 1 0 0 [.ref zSI, .int (nI i), .int (nI m)] w (fun r w2 => (∃ v, v < m ∧ r = .inl (some (.int (nI v)))) ∧ w2 = w) := by
  refine ZM.go pL rfl rfl (zle rfl) (zl := [some (.ref zSI), some (.int (nI i)), some (.int (nI m))]) rfl ?_
  refine z_aload_n (i := 0) dL_pick_0 rfl rfl (q := 1) rfl ?_
  refine z_iload_n (i := 1) dL_pick_1 rfl rfl (q := 2) rfl ?_
  refine z_callS (As := [_, _]) dL_pick_2 kL_9 (c_L_cell hL hi) rfl (zle rfl) ⟨zle rfl, zle rfl⟩ ⟨zle rfl, zle rfl⟩ (q := 5) rfl (fun rv w2 hw2 => ?_) (fun E w2 hw2 => by obtain ⟨⟨v, h⟩, -⟩ := hw2; cases h)
  obtain ⟨⟨v, h⟩, rfl⟩ := hw2
  cases h
  obtain ⟨u, hu, eu⟩ := shr8 v
  refine z_bipush (v := 8) dL_pick_5 rfl (q := 7) rfl ?_
  refine z_iushr dL_pick_7 eu (q := 8) rfl ?_
  refine z_iload_n (i := 2) dL_pick_8 rfl rfl (q := 9) rfl ?_
  refine z_irem dL_pick_9 (nI_ne0 hm (by omega)) (q := 10) rfl ?_
  refine Z.eqst (st2 := [.int (nI (u % m))]) (by rw [nI_remm (by omega) (by omega)]; rfl) ?_
  exact z_iret dL_pick_10 rfl ⟨zle rfl, zle rfl⟩ ⟨⟨u % m, Nat.mod_lt _ hm, rfl⟩, rfl⟩
set_option maxRecDepth 100000 in
set_option maxHeartbeats 4000000 in
theorem c_L_told_1 {w : zWorld} : ZM G mL_told 0 0 0 [.int 1] w (zEq (some (.int 1)) w) := by
  refine ZM.go pL rfl rfl (zle rfl) (zl := [some (.int 1)]) rfl ?_
  refine z_iload_n (i := 0) dL_told_0 rfl rfl (q := 1) rfl ?_
  refine z_if_eq (tgt := 8) dL_told_1 (by decide) (q := 4) rfl (fun h1 => absurd h1 (by decide)) (fun h1 => ?_)
  refine z_iconst (v := 1) dL_told_4 rfl (q := 5) rfl ?_
  refine z_goto (tgt := 9) dL_told_5 (by decide) ?_
  exact z_iret dL_told_9 rfl ⟨zle rfl, zle rfl⟩ ⟨rfl, rfl⟩
set_option maxRecDepth 100000 in
set_option maxHeartbeats 4000000 in
theorem c_L_told_0 {w : zWorld} : ZM G mL_told 0 0 0 [.int 0] w (zEq (some (.int 0)) w) := by
  refine ZM.go pL rfl rfl (zle rfl) (zl := [some (.int 0)]) rfl ?_
  refine z_iload_n (i := 0) dL_told_0 rfl rfl (q := 1) rfl ?_
  refine z_if_eq (tgt := 8) dL_told_1 (by decide) (q := 4) rfl (fun h1 => ?_) (fun h1 => absurd h1 (by decide))
  refine z_iconst (v := 0) dL_told_8 rfl (q := 9) rfl ?_
  exact z_iret dL_told_9 rfl ⟨zle rfl, zle rfl⟩ ⟨rfl, rfl⟩
set_option maxRecDepth 100000 in
set_option maxHeartbeats 4000000 in
theorem c_L_told {w : zWorld} {p : Prop} [Decidable p] : ZM G mL_told 0 0 0 [.int (zb p)] w (zEq (some (.int (zb p))) w) := by
  by_cases h : p
  · rw [show zb p = 1 from if_pos h]; exact c_L_told_1
  · rw [show zb p = 0 from if_neg h]; exact c_L_told_0
set_option maxRecDepth 100000 in
set_option maxHeartbeats 4000000 in
theorem c_L_axis_0 {w : zWorld} : ZM G mL_axis 0 0 0 [.int 0] w (zEq (some (.int 120)) w) := by
  refine ZM.go pL rfl rfl (zle rfl) (zl := [some (.int 0)]) rfl ?_
  refine z_iload_n (i := 0) dL_axis_0 rfl rfl (q := 1) rfl ?_
  refine z_if_ne (tgt := 9) dL_axis_1 (by decide) (q := 4) rfl (fun h1 => absurd h1 (by decide)) (fun h1 => ?_)
  refine z_bipush (v := 120) dL_axis_4 rfl (q := 6) rfl ?_
  refine z_goto (tgt := 11) dL_axis_6 (by decide) ?_
  exact z_zret dL_axis_11 rfl (by first | rfl | assumption | decide) ⟨zle rfl, zle rfl⟩ ⟨rfl, rfl⟩
set_option maxRecDepth 100000 in
set_option maxHeartbeats 4000000 in
theorem c_L_axis_1 {w : zWorld} : ZM G mL_axis 0 0 0 [.int 1] w (zEq (some (.int 121)) w) := by
  refine ZM.go pL rfl rfl (zle rfl) (zl := [some (.int 1)]) rfl ?_
  refine z_iload_n (i := 0) dL_axis_0 rfl rfl (q := 1) rfl ?_
  refine z_if_ne (tgt := 9) dL_axis_1 (by decide) (q := 4) rfl (fun h1 => ?_) (fun h1 => absurd h1 (by decide))
  refine z_bipush (v := 121) dL_axis_9 rfl (q := 11) rfl ?_
  exact z_zret dL_axis_11 rfl (by first | rfl | assumption | decide) ⟨zle rfl, zle rfl⟩ ⟨rfl, rfl⟩
set_option maxRecDepth 100000 in
set_option maxHeartbeats 4000000 in
theorem c_L_axis {w : zWorld} {t : Nat} (ht : t < 2) : ZM G mL_axis 0 0 0 [.int (nI t)] w (zEq (some (.int (zch t))) w) := by
  rcases (show t = 0 ∨ t = 1 by omega) with rfl | rfl
  · exact c_L_axis_0
  · exact c_L_axis_1
set_option maxRecDepth 100000 in
set_option maxHeartbeats 4000000 in
def kdc (k : Nat) : Int32 := if k = 0 then 108 else if k = 1 then 99 else if k = 2 then 114 else if k = 3 then 116 else if k = 4 then 109 else 98
set_option maxRecDepth 100000 in
set_option maxHeartbeats 4000000 in
theorem c_L_kind_0 {w : zWorld} : ZM G mL_kind 0 0 0 [.int 0] w (zEq (some (.int (kdc 0))) w) := by
  refine ZM.go pL rfl rfl (zle rfl) (zl := [some (.int 0)]) rfl ?_
  refine z_iload_n (i := 0) dL_kind_0 rfl rfl (q := 1) rfl ?_
  refine z_if_ne (tgt := 9) dL_kind_1 (by decide) (q := 4) rfl (fun h1 => absurd h1 (by decide)) (fun h1 => ?_)
  refine z_bipush (v := 108) dL_kind_4 rfl (q := 6) rfl ?_
  refine z_goto (tgt := 51) dL_kind_6 (by decide) ?_
  exact z_zret dL_kind_51 rfl (by first | rfl | assumption | decide) ⟨zle rfl, zle rfl⟩ ⟨rfl, rfl⟩
set_option maxRecDepth 100000 in
set_option maxHeartbeats 4000000 in
theorem c_L_kind_1 {w : zWorld} : ZM G mL_kind 0 0 0 [.int 1] w (zEq (some (.int (kdc 1))) w) := by
  refine ZM.go pL rfl rfl (zle rfl) (zl := [some (.int 1)]) rfl ?_
  refine z_iload_n (i := 0) dL_kind_0 rfl rfl (q := 1) rfl ?_
  refine z_if_ne (tgt := 9) dL_kind_1 (by decide) (q := 4) rfl (fun h1 => ?_) (fun h1 => absurd h1 (by decide))
  refine z_iload_n (i := 0) dL_kind_9 rfl rfl (q := 10) rfl ?_
  refine z_iconst (v := 1) dL_kind_10 rfl (q := 11) rfl ?_
  refine z_icmp_ne (tgt := 19) dL_kind_11 (by decide) (q := 14) rfl (fun h11 => absurd h11 (by decide)) (fun h11 => ?_)
  refine z_bipush (v := 99) dL_kind_14 rfl (q := 16) rfl ?_
  refine z_goto (tgt := 51) dL_kind_16 (by decide) ?_
  exact z_zret dL_kind_51 rfl (by first | rfl | assumption | decide) ⟨zle rfl, zle rfl⟩ ⟨rfl, rfl⟩
set_option maxRecDepth 100000 in
set_option maxHeartbeats 4000000 in
theorem c_L_kind_2 {w : zWorld} : ZM G mL_kind 0 0 0 [.int 2] w (zEq (some (.int (kdc 2))) w) := by
  refine ZM.go pL rfl rfl (zle rfl) (zl := [some (.int 2)]) rfl ?_
  refine z_iload_n (i := 0) dL_kind_0 rfl rfl (q := 1) rfl ?_
  refine z_if_ne (tgt := 9) dL_kind_1 (by decide) (q := 4) rfl (fun h1 => ?_) (fun h1 => absurd h1 (by decide))
  refine z_iload_n (i := 0) dL_kind_9 rfl rfl (q := 10) rfl ?_
  refine z_iconst (v := 1) dL_kind_10 rfl (q := 11) rfl ?_
  refine z_icmp_ne (tgt := 19) dL_kind_11 (by decide) (q := 14) rfl (fun h11 => ?_) (fun h11 => absurd h11 (by decide))
  refine z_iload_n (i := 0) dL_kind_19 rfl rfl (q := 20) rfl ?_
  refine z_iconst (v := 2) dL_kind_20 rfl (q := 21) rfl ?_
  refine z_icmp_ne (tgt := 29) dL_kind_21 (by decide) (q := 24) rfl (fun h21 => absurd h21 (by decide)) (fun h21 => ?_)
  refine z_bipush (v := 114) dL_kind_24 rfl (q := 26) rfl ?_
  refine z_goto (tgt := 51) dL_kind_26 (by decide) ?_
  exact z_zret dL_kind_51 rfl (by first | rfl | assumption | decide) ⟨zle rfl, zle rfl⟩ ⟨rfl, rfl⟩
set_option maxRecDepth 100000 in
set_option maxHeartbeats 4000000 in
theorem c_L_kind_3 {w : zWorld} : ZM G mL_kind 0 0 0 [.int 3] w (zEq (some (.int (kdc 3))) w) := by
  refine ZM.go pL rfl rfl (zle rfl) (zl := [some (.int 3)]) rfl ?_
  refine z_iload_n (i := 0) dL_kind_0 rfl rfl (q := 1) rfl ?_
  refine z_if_ne (tgt := 9) dL_kind_1 (by decide) (q := 4) rfl (fun h1 => ?_) (fun h1 => absurd h1 (by decide))
  refine z_iload_n (i := 0) dL_kind_9 rfl rfl (q := 10) rfl ?_
  refine z_iconst (v := 1) dL_kind_10 rfl (q := 11) rfl ?_
  refine z_icmp_ne (tgt := 19) dL_kind_11 (by decide) (q := 14) rfl (fun h11 => ?_) (fun h11 => absurd h11 (by decide))
  refine z_iload_n (i := 0) dL_kind_19 rfl rfl (q := 20) rfl ?_
  refine z_iconst (v := 2) dL_kind_20 rfl (q := 21) rfl ?_
  refine z_icmp_ne (tgt := 29) dL_kind_21 (by decide) (q := 24) rfl (fun h21 => ?_) (fun h21 => absurd h21 (by decide))
  refine z_iload_n (i := 0) dL_kind_29 rfl rfl (q := 30) rfl ?_
  refine z_iconst (v := 3) dL_kind_30 rfl (q := 31) rfl ?_
  refine z_icmp_ne (tgt := 39) dL_kind_31 (by decide) (q := 34) rfl (fun h31 => absurd h31 (by decide)) (fun h31 => ?_)
  refine z_bipush (v := 116) dL_kind_34 rfl (q := 36) rfl ?_
  refine z_goto (tgt := 51) dL_kind_36 (by decide) ?_
  exact z_zret dL_kind_51 rfl (by first | rfl | assumption | decide) ⟨zle rfl, zle rfl⟩ ⟨rfl, rfl⟩
set_option maxRecDepth 100000 in
set_option maxHeartbeats 4000000 in
theorem c_L_kind_4 {w : zWorld} : ZM G mL_kind 0 0 0 [.int 4] w (zEq (some (.int (kdc 4))) w) := by
  refine ZM.go pL rfl rfl (zle rfl) (zl := [some (.int 4)]) rfl ?_
  refine z_iload_n (i := 0) dL_kind_0 rfl rfl (q := 1) rfl ?_
  refine z_if_ne (tgt := 9) dL_kind_1 (by decide) (q := 4) rfl (fun h1 => ?_) (fun h1 => absurd h1 (by decide))
  refine z_iload_n (i := 0) dL_kind_9 rfl rfl (q := 10) rfl ?_
  refine z_iconst (v := 1) dL_kind_10 rfl (q := 11) rfl ?_
  refine z_icmp_ne (tgt := 19) dL_kind_11 (by decide) (q := 14) rfl (fun h11 => ?_) (fun h11 => absurd h11 (by decide))
  refine z_iload_n (i := 0) dL_kind_19 rfl rfl (q := 20) rfl ?_
  refine z_iconst (v := 2) dL_kind_20 rfl (q := 21) rfl ?_
  refine z_icmp_ne (tgt := 29) dL_kind_21 (by decide) (q := 24) rfl (fun h21 => ?_) (fun h21 => absurd h21 (by decide))
  refine z_iload_n (i := 0) dL_kind_29 rfl rfl (q := 30) rfl ?_
  refine z_iconst (v := 3) dL_kind_30 rfl (q := 31) rfl ?_
  refine z_icmp_ne (tgt := 39) dL_kind_31 (by decide) (q := 34) rfl (fun h31 => ?_) (fun h31 => absurd h31 (by decide))
  refine z_iload_n (i := 0) dL_kind_39 rfl rfl (q := 40) rfl ?_
  refine z_iconst (v := 4) dL_kind_40 rfl (q := 41) rfl ?_
  refine z_icmp_ne (tgt := 49) dL_kind_41 (by decide) (q := 44) rfl (fun h41 => absurd h41 (by decide)) (fun h41 => ?_)
  refine z_bipush (v := 109) dL_kind_44 rfl (q := 46) rfl ?_
  refine z_goto (tgt := 51) dL_kind_46 (by decide) ?_
  exact z_zret dL_kind_51 rfl (by first | rfl | assumption | decide) ⟨zle rfl, zle rfl⟩ ⟨rfl, rfl⟩
set_option maxRecDepth 100000 in
set_option maxHeartbeats 4000000 in
theorem c_L_kind_5 {w : zWorld} : ZM G mL_kind 0 0 0 [.int 5] w (zEq (some (.int (kdc 5))) w) := by
  refine ZM.go pL rfl rfl (zle rfl) (zl := [some (.int 5)]) rfl ?_
  refine z_iload_n (i := 0) dL_kind_0 rfl rfl (q := 1) rfl ?_
  refine z_if_ne (tgt := 9) dL_kind_1 (by decide) (q := 4) rfl (fun h1 => ?_) (fun h1 => absurd h1 (by decide))
  refine z_iload_n (i := 0) dL_kind_9 rfl rfl (q := 10) rfl ?_
  refine z_iconst (v := 1) dL_kind_10 rfl (q := 11) rfl ?_
  refine z_icmp_ne (tgt := 19) dL_kind_11 (by decide) (q := 14) rfl (fun h11 => ?_) (fun h11 => absurd h11 (by decide))
  refine z_iload_n (i := 0) dL_kind_19 rfl rfl (q := 20) rfl ?_
  refine z_iconst (v := 2) dL_kind_20 rfl (q := 21) rfl ?_
  refine z_icmp_ne (tgt := 29) dL_kind_21 (by decide) (q := 24) rfl (fun h21 => ?_) (fun h21 => absurd h21 (by decide))
  refine z_iload_n (i := 0) dL_kind_29 rfl rfl (q := 30) rfl ?_
  refine z_iconst (v := 3) dL_kind_30 rfl (q := 31) rfl ?_
  refine z_icmp_ne (tgt := 39) dL_kind_31 (by decide) (q := 34) rfl (fun h31 => ?_) (fun h31 => absurd h31 (by decide))
  refine z_iload_n (i := 0) dL_kind_39 rfl rfl (q := 40) rfl ?_
  refine z_iconst (v := 4) dL_kind_40 rfl (q := 41) rfl ?_
  refine z_icmp_ne (tgt := 49) dL_kind_41 (by decide) (q := 44) rfl (fun h41 => ?_) (fun h41 => absurd h41 (by decide))
  refine z_bipush (v := 98) dL_kind_49 rfl (q := 51) rfl ?_
  exact z_zret dL_kind_51 rfl (by first | rfl | assumption | decide) ⟨zle rfl, zle rfl⟩ ⟨rfl, rfl⟩
set_option maxRecDepth 100000 in
set_option maxHeartbeats 4000000 in
theorem c_L_kind {w : zWorld} {k : Nat} (hk : k < 6) : ZM G mL_kind 0 0 0 [.int (nI k)] w (zEq (some (.int (kdc k))) w) := by
  rcases (show k = 0 ∨ k = 1 ∨ k = 2 ∨ k = 3 ∨ k = 4 ∨ k = 5 by omega) with rfl | rfl | rfl | rfl | rfl | rfl
  · exact c_L_kind_0
  · exact c_L_kind_1
  · exact c_L_kind_2
  · exact c_L_kind_3
  · exact c_L_kind_4
  · exact c_L_kind_5
set_option maxRecDepth 100000 in
set_option maxHeartbeats 4000000 in
theorem kdc_ok {k : Nat} (hk : k < 6) : (zkx (kdc k) ∨ zky (kdc k)) ∧ ((kdc k).toUInt32 % 65536).toInt32 = kdc k := by
  rcases (show k = 0 ∨ k = 1 ∨ k = 2 ∨ k = 3 ∨ k = 4 ∨ k = 5 by omega) with rfl | rfl | rfl | rfl | rfl | rfl <;> decide
set_option maxRecDepth 100000 in
set_option maxHeartbeats 4000000 in
theorem zch_c {t : Nat} (ht : t < 2) : ((zch t).toUInt32 % 65536).toInt32 = zch t := by
  rcases (show t = 0 ∨ t = 1 by omega) with rfl | rfl <;> decide
set_option maxRecDepth 100000 in
set_option maxHeartbeats 4000000 in
def okRes (L : List String) (r : zRes) : Prop := (∃ v, r = .inl (some (.int v))) ∨ ∃ E, E ∈ L ∧ r = .inr E
set_option maxRecDepth 100000 in
set_option maxHeartbeats 4000000 in
abbrev ALL : List String := [eIOOBE, eIAE, eISE, eUOE, eNSE]
set_option maxRecDepth 100000 in
set_option maxHeartbeats 4000000 in
abbrev ASK : List String := [eIOOBE, eIAE, eNSE]
/- what the law makes of an answer or a throw -/
set_option maxRecDepth 100000 in
set_option maxHeartbeats 4000000 in
def lans : zRes → Int32
  | .inl (some (.int v)) => v
  | .inr E => if E = eIOOBE then -2001 else if E = eIAE then -2002 else if E = eISE then -2003 else if E = eUOE then -2004 else -2005
  | _ => 0
set_option maxRecDepth 100000 in
set_option maxHeartbeats 4000000 in
def lP (P : zRes → zWorld → Prop) : zRes → zWorld → Prop := fun r w => ∃ r0, P r0 w ∧ r = .inl (some (.int (lans r0)))
set_option maxRecDepth 100000 in
set_option maxHeartbeats 4000000 in
theorem c_L_asked_0 {a b c : Int32} {b2 : Int32} (hb : (b.toUInt32 % 65536).toInt32 = b2) {P : zRes → zWorld → Prop} (h : ZM G mX8_startOf 4 1 6 [.ref 0, .int a, .int b2] (zw X Y O) P) (ho : ∀ r w2, P r w2 → okRes ASK r) : ZM G mL_asked 14 1 6 [.ref 0, .int 0, .int a, .int b, .int c] (zw X Y O) P := by
  refine ZM.go pL rfl rfl (zle rfl) (zl := [some (.ref 0), some (.int 0), some (.int a), some (.int b), some (.int c)]) rfl ?_
  refine z_iload_n (i := 1) dL_asked_0 rfl rfl (q := 1) rfl ?_
  refine z_tableIn (off := 95) (tgt := 96) dL_asked_1 (by decide) (by decide) rfl (by decide) ?_
  refine z_aload_n (i := 0) dL_asked_96 rfl rfl (q := 97) rfl ?_
  refine z_iload_n (i := 2) dL_asked_97 rfl rfl (q := 98) rfl ?_
  refine z_iload_n (i := 3) dL_asked_98 rfl rfl (q := 99) rfl ?_
  refine z_i2c dL_asked_99 (q := 100) rfl ?_
  refine Z.eqst (st2 := .int b2 :: [.int a, .ref 0]) (by rw [hb]) ?_
  refine z_callV (As := [_, _]) dL_asked_100 kL_69 h (wo_x _ _ _) rfl rfl (zle rfl) ⟨zle rfl, zle rfl⟩ ⟨zle rfl, zle rfl⟩ (q := 103) rfl (fun rv w2 hw2 => ?_) (fun E w2 hw2 => ?_)
  · rcases ho _ _ hw2 with ⟨v, h9⟩ | ⟨E, h8, h9⟩
    · cases h9
      exact z_iret dL_asked_103 rfl ⟨zle rfl, zle rfl⟩ hw2
    · cases h9
  · exact zx_out rfl ⟨zle rfl, zle rfl⟩ hw2
set_option maxRecDepth 100000 in
set_option maxHeartbeats 4000000 in
theorem c_L_asked_1 {a b c : Int32} {b2 : Int32} (hb : (b.toUInt32 % 65536).toInt32 = b2) {P : zRes → zWorld → Prop} (h : ZM G mX8_sizeOf 4 1 6 [.ref 0, .int a, .int b2] (zw X Y O) P) (ho : ∀ r w2, P r w2 → okRes ASK r) : ZM G mL_asked 14 1 6 [.ref 0, .int 1, .int a, .int b, .int c] (zw X Y O) P := by
  refine ZM.go pL rfl rfl (zle rfl) (zl := [some (.ref 0), some (.int 1), some (.int a), some (.int b), some (.int c)]) rfl ?_
  refine z_iload_n (i := 1) dL_asked_0 rfl rfl (q := 1) rfl ?_
  refine z_tableIn (off := 103) (tgt := 104) dL_asked_1 (by decide) (by decide) rfl (by decide) ?_
  refine z_aload_n (i := 0) dL_asked_104 rfl rfl (q := 105) rfl ?_
  refine z_iload_n (i := 2) dL_asked_105 rfl rfl (q := 106) rfl ?_
  refine z_iload_n (i := 3) dL_asked_106 rfl rfl (q := 107) rfl ?_
  refine z_i2c dL_asked_107 (q := 108) rfl ?_
  refine Z.eqst (st2 := .int b2 :: [.int a, .ref 0]) (by rw [hb]) ?_
  refine z_callV (As := [_, _]) dL_asked_108 kL_73 h (wo_x _ _ _) rfl rfl (zle rfl) ⟨zle rfl, zle rfl⟩ ⟨zle rfl, zle rfl⟩ (q := 111) rfl (fun rv w2 hw2 => ?_) (fun E w2 hw2 => ?_)
  · rcases ho _ _ hw2 with ⟨v, h9⟩ | ⟨E, h8, h9⟩
    · cases h9
      exact z_iret dL_asked_111 rfl ⟨zle rfl, zle rfl⟩ hw2
    · cases h9
  · exact zx_out rfl ⟨zle rfl, zle rfl⟩ hw2
set_option maxRecDepth 100000 in
set_option maxHeartbeats 4000000 in
theorem c_L_asked_2 {a b c : Int32} {P : zRes → zWorld → Prop} (h : ZM G mX8_moveReason 5 1 6 [.ref 0, .int a, .int b, .int c] (zw X Y O) P) (ho : ∀ r w2, P r w2 → okRes ASK r) : ZM G mL_asked 14 1 6 [.ref 0, .int 2, .int a, .int b, .int c] (zw X Y O) P := by
  refine ZM.go pL rfl rfl (zle rfl) (zl := [some (.ref 0), some (.int 2), some (.int a), some (.int b), some (.int c)]) rfl ?_
  refine z_iload_n (i := 1) dL_asked_0 rfl rfl (q := 1) rfl ?_
  refine z_tableIn (off := 111) (tgt := 112) dL_asked_1 (by decide) (by decide) rfl (by decide) ?_
  refine z_aload_n (i := 0) dL_asked_112 rfl rfl (q := 113) rfl ?_
  refine z_iload_n (i := 2) dL_asked_113 rfl rfl (q := 114) rfl ?_
  refine z_iload_n (i := 3) dL_asked_114 rfl rfl (q := 115) rfl ?_
  refine z_iload dL_asked_115 rfl (q := 117) rfl ?_
  refine z_callV (As := [_, _, _]) dL_asked_117 kL_76 h (wo_x _ _ _) rfl rfl (zle rfl) ⟨zle rfl, zle rfl⟩ ⟨zle rfl, zle rfl⟩ (q := 120) rfl (fun rv w2 hw2 => ?_) (fun E w2 hw2 => ?_)
  · rcases ho _ _ hw2 with ⟨v, h9⟩ | ⟨E, h8, h9⟩
    · cases h9
      exact z_iret dL_asked_120 rfl ⟨zle rfl, zle rfl⟩ hw2
    · cases h9
  · exact zx_out rfl ⟨zle rfl, zle rfl⟩ hw2
set_option maxRecDepth 100000 in
set_option maxHeartbeats 4000000 in
theorem c_L_asked_7 {a b c : Int32} {a2 : Int32} (hb : (a.toUInt32 % 65536).toInt32 = a2) {P : zRes → zWorld → Prop} (h : ZM G mX8_strength 3 1 6 [.ref 0, .int a2] (zw X Y O) P) (ho : ∀ r w2, P r w2 → okRes ASK r) : ZM G mL_asked 14 1 6 [.ref 0, .int 7, .int a, .int b, .int c] (zw X Y O) P := by
  refine ZM.go pL rfl rfl (zle rfl) (zl := [some (.ref 0), some (.int 7), some (.int a), some (.int b), some (.int c)]) rfl ?_
  refine z_iload_n (i := 1) dL_asked_0 rfl rfl (q := 1) rfl ?_
  refine z_tableIn (off := 150) (tgt := 151) dL_asked_1 (by decide) (by decide) rfl (by decide) ?_
  refine z_aload_n (i := 0) dL_asked_151 rfl rfl (q := 152) rfl ?_
  refine z_iload_n (i := 2) dL_asked_152 rfl rfl (q := 153) rfl ?_
  refine z_i2c dL_asked_153 (q := 154) rfl ?_
  refine Z.eqst (st2 := .int a2 :: [.ref 0]) (by rw [hb]) ?_
  refine z_callV (As := [_]) dL_asked_154 kL_94 h (wo_x _ _ _) rfl rfl (zle rfl) ⟨zle rfl, zle rfl⟩ ⟨zle rfl, zle rfl⟩ (q := 157) rfl (fun rv w2 hw2 => ?_) (fun E w2 hw2 => ?_)
  · rcases ho _ _ hw2 with ⟨v, h9⟩ | ⟨E, h8, h9⟩
    · cases h9
      exact z_iret dL_asked_157 rfl ⟨zle rfl, zle rfl⟩ hw2
    · cases h9
  · exact zx_out rfl ⟨zle rfl, zle rfl⟩ hw2
set_option maxRecDepth 100000 in
set_option maxHeartbeats 4000000 in
theorem c_L_asked_9 {a b c : Int32} {a2 : Int32} (hb : (a.toUInt32 % 65536).toInt32 = a2) {P : zRes → zWorld → Prop} (h : ZM G mX8_bestStrength 13 1 6 [.ref 0, .int a2] (zw X Y O) P) (ho : ∀ r w2, P r w2 → okRes ASK r) : ZM G mL_asked 14 1 6 [.ref 0, .int 9, .int a, .int b, .int c] (zw X Y O) P := by
  refine ZM.go pL rfl rfl (zle rfl) (zl := [some (.ref 0), some (.int 9), some (.int a), some (.int b), some (.int c)]) rfl ?_
  refine z_iload_n (i := 1) dL_asked_0 rfl rfl (q := 1) rfl ?_
  refine z_tableIn (off := 165) (tgt := 166) dL_asked_1 (by decide) (by decide) rfl (by decide) ?_
  refine z_aload_n (i := 0) dL_asked_166 rfl rfl (q := 167) rfl ?_
  refine z_iload_n (i := 2) dL_asked_167 rfl rfl (q := 168) rfl ?_
  refine z_i2c dL_asked_168 (q := 169) rfl ?_
  refine Z.eqst (st2 := .int a2 :: [.ref 0]) (by rw [hb]) ?_
  refine z_callV (As := [_]) dL_asked_169 kL_100 h (wo_x _ _ _) rfl rfl (zle rfl) ⟨zle rfl, zle rfl⟩ ⟨zle rfl, zle rfl⟩ (q := 172) rfl (fun rv w2 hw2 => ?_) (fun E w2 hw2 => ?_)
  · rcases ho _ _ hw2 with ⟨v, h9⟩ | ⟨E, h8, h9⟩
    · cases h9
      exact z_iret dL_asked_172 rfl ⟨zle rfl, zle rfl⟩ hw2
    · cases h9
  · exact zx_out rfl ⟨zle rfl, zle rfl⟩ hw2
set_option maxRecDepth 100000 in
set_option maxHeartbeats 4000000 in
theorem c_L_asked_10 {a b c : Int32} {a2 : Int32} (hb : (a.toUInt32 % 65536).toInt32 = a2) {P : zRes → zWorld → Prop} (h : ZM G mX8_bestByAll 13 1 6 [.ref 0, .int a2] (zw X Y O) P) (ho : ∀ r w2, P r w2 → okRes ASK r) : ZM G mL_asked 14 1 6 [.ref 0, .int 10, .int a, .int b, .int c] (zw X Y O) P := by
  refine ZM.go pL rfl rfl (zle rfl) (zl := [some (.ref 0), some (.int 10), some (.int a), some (.int b), some (.int c)]) rfl ?_
  refine z_iload_n (i := 1) dL_asked_0 rfl rfl (q := 1) rfl ?_
  refine z_tableIn (off := 172) (tgt := 173) dL_asked_1 (by decide) (by decide) rfl (by decide) ?_
  refine z_aload_n (i := 0) dL_asked_173 rfl rfl (q := 174) rfl ?_
  refine z_iload_n (i := 2) dL_asked_174 rfl rfl (q := 175) rfl ?_
  refine z_i2c dL_asked_175 (q := 176) rfl ?_
  refine Z.eqst (st2 := .int a2 :: [.ref 0]) (by rw [hb]) ?_
  refine z_callV (As := [_]) dL_asked_176 kL_103 h (wo_x _ _ _) rfl rfl (zle rfl) ⟨zle rfl, zle rfl⟩ ⟨zle rfl, zle rfl⟩ (q := 179) rfl (fun rv w2 hw2 => ?_) (fun E w2 hw2 => ?_)
  · rcases ho _ _ hw2 with ⟨v, h9⟩ | ⟨E, h8, h9⟩
    · cases h9
      exact z_iret dL_asked_179 rfl ⟨zle rfl, zle rfl⟩ hw2
    · cases h9
  · exact zx_out rfl ⟨zle rfl, zle rfl⟩ hw2
set_option maxRecDepth 100000 in
set_option maxHeartbeats 4000000 in
theorem c_L_asked_11 {a b c : Int32} {a2 : Int32} (hb : (a.toUInt32 % 65536).toInt32 = a2) {P : zRes → zWorld → Prop} (h : ZM G mX8_tidyCost 13 1 6 [.ref 0, .int a2] (zw X Y O) P) (ho : ∀ r w2, P r w2 → okRes ASK r) : ZM G mL_asked 14 1 6 [.ref 0, .int 11, .int a, .int b, .int c] (zw X Y O) P := by
  refine ZM.go pL rfl rfl (zle rfl) (zl := [some (.ref 0), some (.int 11), some (.int a), some (.int b), some (.int c)]) rfl ?_
  refine z_iload_n (i := 1) dL_asked_0 rfl rfl (q := 1) rfl ?_
  refine z_tableIn (off := 179) (tgt := 180) dL_asked_1 (by decide) (by decide) rfl (by decide) ?_
  refine z_aload_n (i := 0) dL_asked_180 rfl rfl (q := 181) rfl ?_
  refine z_iload_n (i := 2) dL_asked_181 rfl rfl (q := 182) rfl ?_
  refine z_i2c dL_asked_182 (q := 183) rfl ?_
  refine Z.eqst (st2 := .int a2 :: [.ref 0]) (by rw [hb]) ?_
  refine z_callV (As := [_]) dL_asked_183 kL_106 h (wo_x _ _ _) rfl rfl (zle rfl) ⟨zle rfl, zle rfl⟩ ⟨zle rfl, zle rfl⟩ (q := 186) rfl (fun rv w2 hw2 => ?_) (fun E w2 hw2 => ?_)
  · rcases ho _ _ hw2 with ⟨v, h9⟩ | ⟨E, h8, h9⟩
    · cases h9
      exact z_iret dL_asked_186 rfl ⟨zle rfl, zle rfl⟩ hw2
    · cases h9
  · exact zx_out rfl ⟨zle rfl, zle rfl⟩ hw2
set_option maxRecDepth 100000 in
set_option maxHeartbeats 4000000 in
theorem c_L_asked_12 {a b c : Int32} {b2 : Int32} (hb : (b.toUInt32 % 65536).toInt32 = b2) {P : zRes → zWorld → Prop} (h : ZM G mX8_tidyStart 13 1 6 [.ref 0, .int a, .int b2] (zw X Y O) P) (ho : ∀ r w2, P r w2 → okRes ASK r) : ZM G mL_asked 14 1 6 [.ref 0, .int 12, .int a, .int b, .int c] (zw X Y O) P := by
  refine ZM.go pL rfl rfl (zle rfl) (zl := [some (.ref 0), some (.int 12), some (.int a), some (.int b), some (.int c)]) rfl ?_
  refine z_iload_n (i := 1) dL_asked_0 rfl rfl (q := 1) rfl ?_
  refine z_tableIn (off := 186) (tgt := 187) dL_asked_1 (by decide) (by decide) rfl (by decide) ?_
  refine z_aload_n (i := 0) dL_asked_187 rfl rfl (q := 188) rfl ?_
  refine z_iload_n (i := 2) dL_asked_188 rfl rfl (q := 189) rfl ?_
  refine z_iload_n (i := 3) dL_asked_189 rfl rfl (q := 190) rfl ?_
  refine z_i2c dL_asked_190 (q := 191) rfl ?_
  refine Z.eqst (st2 := .int b2 :: [.int a, .ref 0]) (by rw [hb]) ?_
  refine z_callV (As := [_, _]) dL_asked_191 kL_109 h (wo_x _ _ _) rfl rfl (zle rfl) ⟨zle rfl, zle rfl⟩ ⟨zle rfl, zle rfl⟩ (q := 194) rfl (fun rv w2 hw2 => ?_) (fun E w2 hw2 => ?_)
  · rcases ho _ _ hw2 with ⟨v, h9⟩ | ⟨E, h8, h9⟩
    · cases h9
      exact z_iret dL_asked_194 rfl ⟨zle rfl, zle rfl⟩ hw2
    · cases h9
  · exact zx_out rfl ⟨zle rfl, zle rfl⟩ hw2
set_option maxRecDepth 100000 in
set_option maxHeartbeats 4000000 in
theorem c_L_asked_13 {a b c : Int32} {a2 : Int32} (hb : (a.toUInt32 % 65536).toInt32 = a2) {P : zRes → zWorld → Prop} (h : ZM G mX8_evenCost 6 1 6 [.ref 0, .int a2] (zw X Y O) P) (ho : ∀ r w2, P r w2 → okRes ASK r) : ZM G mL_asked 14 1 6 [.ref 0, .int 13, .int a, .int b, .int c] (zw X Y O) P := by
  refine ZM.go pL rfl rfl (zle rfl) (zl := [some (.ref 0), some (.int 13), some (.int a), some (.int b), some (.int c)]) rfl ?_
  refine z_iload_n (i := 1) dL_asked_0 rfl rfl (q := 1) rfl ?_
  refine z_tableIn (off := 194) (tgt := 195) dL_asked_1 (by decide) (by decide) rfl (by decide) ?_
  refine z_aload_n (i := 0) dL_asked_195 rfl rfl (q := 196) rfl ?_
  refine z_iload_n (i := 2) dL_asked_196 rfl rfl (q := 197) rfl ?_
  refine z_i2c dL_asked_197 (q := 198) rfl ?_
  refine Z.eqst (st2 := .int a2 :: [.ref 0]) (by rw [hb]) ?_
  refine z_callV (As := [_]) dL_asked_198 kL_112 h (wo_x _ _ _) rfl rfl (zle rfl) ⟨zle rfl, zle rfl⟩ ⟨zle rfl, zle rfl⟩ (q := 201) rfl (fun rv w2 hw2 => ?_) (fun E w2 hw2 => ?_)
  · rcases ho _ _ hw2 with ⟨v, h9⟩ | ⟨E, h8, h9⟩
    · cases h9
      exact z_iret dL_asked_201 rfl ⟨zle rfl, zle rfl⟩ hw2
    · cases h9
  · exact zx_out rfl ⟨zle rfl, zle rfl⟩ hw2
set_option maxRecDepth 100000 in
set_option maxHeartbeats 4000000 in
theorem c_L_asked_14 {a b c : Int32} {a2 : Int32} (hb : (a.toUInt32 % 65536).toInt32 = a2) {P : zRes → zWorld → Prop} (h : ZM G mX8_evenByAll 6 1 6 [.ref 0, .int a2] (zw X Y O) P) (ho : ∀ r w2, P r w2 → okRes ASK r) : ZM G mL_asked 14 1 6 [.ref 0, .int 14, .int a, .int b, .int c] (zw X Y O) P := by
  refine ZM.go pL rfl rfl (zle rfl) (zl := [some (.ref 0), some (.int 14), some (.int a), some (.int b), some (.int c)]) rfl ?_
  refine z_iload_n (i := 1) dL_asked_0 rfl rfl (q := 1) rfl ?_
  refine z_tableIn (off := 201) (tgt := 202) dL_asked_1 (by decide) (by decide) rfl (by decide) ?_
  refine z_aload_n (i := 0) dL_asked_202 rfl rfl (q := 203) rfl ?_
  refine z_iload_n (i := 2) dL_asked_203 rfl rfl (q := 204) rfl ?_
  refine z_i2c dL_asked_204 (q := 205) rfl ?_
  refine Z.eqst (st2 := .int a2 :: [.ref 0]) (by rw [hb]) ?_
  refine z_callV (As := [_]) dL_asked_205 kL_115 h (wo_x _ _ _) rfl rfl (zle rfl) ⟨zle rfl, zle rfl⟩ ⟨zle rfl, zle rfl⟩ (q := 208) rfl (fun rv w2 hw2 => ?_) (fun E w2 hw2 => ?_)
  · rcases ho _ _ hw2 with ⟨v, h9⟩ | ⟨E, h8, h9⟩
    · cases h9
      exact z_iret dL_asked_208 rfl ⟨zle rfl, zle rfl⟩ hw2
    · cases h9
  · exact zx_out rfl ⟨zle rfl, zle rfl⟩ hw2
set_option maxRecDepth 100000 in
set_option maxHeartbeats 4000000 in
theorem c_L_asked_18 {a b c : Int32} {P : zRes → zWorld → Prop} (h : ZM G mX8_groups 5 1 6 [.ref 0, .int a] (zw X Y O) P) (ho : ∀ r w2, P r w2 → okRes ASK r) : ZM G mL_asked 14 1 6 [.ref 0, .int 18, .int a, .int b, .int c] (zw X Y O) P := by
  refine ZM.go pL rfl rfl (zle rfl) (zl := [some (.ref 0), some (.int 18), some (.int a), some (.int b), some (.int c)]) rfl ?_
  refine z_iload_n (i := 1) dL_asked_0 rfl rfl (q := 1) rfl ?_
  refine z_tableIn (off := 230) (tgt := 231) dL_asked_1 (by decide) (by decide) rfl (by decide) ?_
  refine z_aload_n (i := 0) dL_asked_231 rfl rfl (q := 232) rfl ?_
  refine z_iload_n (i := 2) dL_asked_232 rfl rfl (q := 233) rfl ?_
  refine z_callV (As := [_]) dL_asked_233 kL_128 h (wo_x _ _ _) rfl rfl (zle rfl) ⟨zle rfl, zle rfl⟩ ⟨zle rfl, zle rfl⟩ (q := 236) rfl (fun rv w2 hw2 => ?_) (fun E w2 hw2 => ?_)
  · rcases ho _ _ hw2 with ⟨v, h9⟩ | ⟨E, h8, h9⟩
    · cases h9
      exact z_iret dL_asked_236 rfl ⟨zle rfl, zle rfl⟩ hw2
    · cases h9
  · exact zx_out rfl ⟨zle rfl, zle rfl⟩ hw2
set_option maxRecDepth 100000 in
set_option maxHeartbeats 4000000 in
theorem c_L_asked_19 {a b c : Int32} {P : zRes → zWorld → Prop} (h : ZM G mX8_groupsByLinks 4 1 6 [.ref 0, .int a] (zw X Y O) P) (ho : ∀ r w2, P r w2 → okRes ASK r) : ZM G mL_asked 14 1 6 [.ref 0, .int 19, .int a, .int b, .int c] (zw X Y O) P := by
  refine ZM.go pL rfl rfl (zle rfl) (zl := [some (.ref 0), some (.int 19), some (.int a), some (.int b), some (.int c)]) rfl ?_
  refine z_iload_n (i := 1) dL_asked_0 rfl rfl (q := 1) rfl ?_
  refine z_tableIn (off := 236) (tgt := 237) dL_asked_1 (by decide) (by decide) rfl (by decide) ?_
  refine z_aload_n (i := 0) dL_asked_237 rfl rfl (q := 238) rfl ?_
  refine z_iload_n (i := 2) dL_asked_238 rfl rfl (q := 239) rfl ?_
  refine z_callV (As := [_]) dL_asked_239 kL_131 h (wo_x _ _ _) rfl rfl (zle rfl) ⟨zle rfl, zle rfl⟩ ⟨zle rfl, zle rfl⟩ (q := 242) rfl (fun rv w2 hw2 => ?_) (fun E w2 hw2 => ?_)
  · rcases ho _ _ hw2 with ⟨v, h9⟩ | ⟨E, h8, h9⟩
    · cases h9
      exact z_iret dL_asked_242 rfl ⟨zle rfl, zle rfl⟩ hw2
    · cases h9
  · exact zx_out rfl ⟨zle rfl, zle rfl⟩ hw2
set_option maxRecDepth 100000 in
set_option maxHeartbeats 4000000 in
theorem c_L_plain_0 {a b c d : Int32} {P : zRes → zWorld → Prop} (h : ZM G mX8_addShape 4 1 6 [.ref 0, .int a, .int b, .int c, .int d] (zw X Y O) P) (ho : ∀ r w2, P r w2 → okRes ALL r) : ZM G mL_plain 14 1 6 [.ref 0, .int 0, .int a, .int b, .int c, .int d] (zw X Y O) P := by
  refine ZM.go pL rfl rfl (zle rfl) (zl := [some (.ref 0), some (.int 0), some (.int a), some (.int b), some (.int c), some (.int d)]) rfl ?_
  refine z_iload_n (i := 1) dL_plain_0 rfl rfl (q := 1) rfl ?_
  refine z_tableIn (off := 47) (tgt := 48) dL_plain_1 (by decide) (by decide) rfl (by decide) ?_
  refine z_aload_n (i := 0) dL_plain_48 rfl rfl (q := 49) rfl ?_
  refine z_iload_n (i := 2) dL_plain_49 rfl rfl (q := 50) rfl ?_
  refine z_iload_n (i := 3) dL_plain_50 rfl rfl (q := 51) rfl ?_
  refine z_iload dL_plain_51 rfl (q := 53) rfl ?_
  refine z_iload dL_plain_53 rfl (q := 55) rfl ?_
  refine z_callV (As := [_, _, _, _]) dL_plain_55 kL_15 h (wo_x _ _ _) rfl rfl (zle rfl) ⟨zle rfl, zle rfl⟩ ⟨zle rfl, zle rfl⟩ (q := 58) rfl (fun rv w2 hw2 => ?_) (fun E w2 hw2 => ?_)
  · rcases ho _ _ hw2 with ⟨v, h9⟩ | ⟨E, h8, h9⟩
    · cases h9
      exact z_iret dL_plain_58 rfl ⟨zle rfl, zle rfl⟩ hw2
    · cases h9
  · exact zx_out rfl ⟨zle rfl, zle rfl⟩ hw2
set_option maxRecDepth 100000 in
set_option maxHeartbeats 4000000 in
theorem c_L_plain_2 {a b c d : Int32} {P : zRes → zWorld → Prop} (h : ZM G mX8_moveTo 5 1 6 [.ref 0, .int a, .int b, .int c] (zw X Y O) P) (ho : ∀ r w2, P r w2 → okRes ALL r) : ZM G mL_plain 14 1 6 [.ref 0, .int 2, .int a, .int b, .int c, .int d] (zw X Y O) P := by
  refine ZM.go pL rfl rfl (zle rfl) (zl := [some (.ref 0), some (.int 2), some (.int a), some (.int b), some (.int c), some (.int d)]) rfl ?_
  refine z_iload_n (i := 1) dL_plain_0 rfl rfl (q := 1) rfl ?_
  refine z_tableIn (off := 77) (tgt := 78) dL_plain_1 (by decide) (by decide) rfl (by decide) ?_
  refine z_aload_n (i := 0) dL_plain_78 rfl rfl (q := 79) rfl ?_
  refine z_iload_n (i := 2) dL_plain_79 rfl rfl (q := 80) rfl ?_
  refine z_iload_n (i := 3) dL_plain_80 rfl rfl (q := 81) rfl ?_
  refine z_iload dL_plain_81 rfl (q := 83) rfl ?_
  refine z_callV (As := [_, _, _]) dL_plain_83 kL_29 h (wo_x _ _ _) rfl rfl (zle rfl) ⟨zle rfl, zle rfl⟩ ⟨zle rfl, zle rfl⟩ (q := 86) rfl (fun rv w2 hw2 => ?_) (fun E w2 hw2 => ?_)
  · rcases ho _ _ hw2 with ⟨v, h9⟩ | ⟨E, h8, h9⟩
    · cases h9
      exact z_iret dL_plain_86 rfl ⟨zle rfl, zle rfl⟩ hw2
    · cases h9
  · exact zx_out rfl ⟨zle rfl, zle rfl⟩ hw2
set_option maxRecDepth 100000 in
set_option maxHeartbeats 4000000 in
theorem c_L_plain_5 {a b c d : Int32} {a2 : Int32} (hb : (a.toUInt32 % 65536).toInt32 = a2) {P : zRes → zWorld → Prop} (h : ZM G mX8_addWish 4 1 6 [.ref 0, .int a2, .int b, .int c, .int d] (zw X Y O) P) (ho : ∀ r w2, P r w2 → okRes ALL r) : ZM G mL_plain 14 1 6 [.ref 0, .int 5, .int a, .int b, .int c, .int d] (zw X Y O) P := by
  refine ZM.go pL rfl rfl (zle rfl) (zl := [some (.ref 0), some (.int 5), some (.int a), some (.int b), some (.int c), some (.int d)]) rfl ?_
  refine z_iload_n (i := 1) dL_plain_0 rfl rfl (q := 1) rfl ?_
  refine z_tableIn (off := 99) (tgt := 100) dL_plain_1 (by decide) (by decide) rfl (by decide) ?_
  refine z_aload_n (i := 0) dL_plain_100 rfl rfl (q := 101) rfl ?_
  refine z_iload_n (i := 2) dL_plain_101 rfl rfl (q := 102) rfl ?_
  refine z_i2c dL_plain_102 (q := 103) rfl ?_
  refine Z.eqst (st2 := .int a2 :: [.ref 0]) (by rw [hb]) ?_
  refine z_iload_n (i := 3) dL_plain_103 rfl rfl (q := 104) rfl ?_
  refine z_iload dL_plain_104 rfl (q := 106) rfl ?_
  refine z_iload dL_plain_106 rfl (q := 108) rfl ?_
  refine z_callV (As := [_, _, _, _]) dL_plain_108 kL_41 h (wo_x _ _ _) rfl rfl (zle rfl) ⟨zle rfl, zle rfl⟩ ⟨zle rfl, zle rfl⟩ (q := 111) rfl (fun rv w2 hw2 => ?_) (fun E w2 hw2 => ?_)
  · rcases ho _ _ hw2 with ⟨v, h9⟩ | ⟨E, h8, h9⟩
    · cases h9
      exact z_iret dL_plain_111 rfl ⟨zle rfl, zle rfl⟩ hw2
    · cases h9
  · exact zx_out rfl ⟨zle rfl, zle rfl⟩ hw2
set_option maxRecDepth 100000 in
set_option maxHeartbeats 4000000 in
theorem c_L_plain_7 {a b c d : Int32} {a2 : Int32} (hb : (a.toUInt32 % 65536).toInt32 = a2) {P : zRes → zWorld → Prop} (h : ZM G mX8_tidy 13 1 6 [.ref 0, .int a2] (zw X Y O) P) (ho : ∀ r w2, P r w2 → okRes ALL r) : ZM G mL_plain 14 1 6 [.ref 0, .int 7, .int a, .int b, .int c, .int d] (zw X Y O) P := by
  refine ZM.go pL rfl rfl (zle rfl) (zl := [some (.ref 0), some (.int 7), some (.int a), some (.int b), some (.int c), some (.int d)]) rfl ?_
  refine z_iload_n (i := 1) dL_plain_0 rfl rfl (q := 1) rfl ?_
  refine z_tableIn (off := 117) (tgt := 118) dL_plain_1 (by decide) (by decide) rfl (by decide) ?_
  refine z_aload_n (i := 0) dL_plain_118 rfl rfl (q := 119) rfl ?_
  refine z_iload_n (i := 2) dL_plain_119 rfl rfl (q := 120) rfl ?_
  refine z_i2c dL_plain_120 (q := 121) rfl ?_
  refine Z.eqst (st2 := .int a2 :: [.ref 0]) (by rw [hb]) ?_
  refine z_callV (As := [_]) dL_plain_121 kL_48 h (wo_x _ _ _) rfl rfl (zle rfl) ⟨zle rfl, zle rfl⟩ ⟨zle rfl, zle rfl⟩ (q := 124) rfl (fun rv w2 hw2 => ?_) (fun E w2 hw2 => ?_)
  · rcases ho _ _ hw2 with ⟨v, h9⟩ | ⟨E, h8, h9⟩
    · cases h9
      exact z_iret dL_plain_124 rfl ⟨zle rfl, zle rfl⟩ hw2
    · cases h9
  · exact zx_out rfl ⟨zle rfl, zle rfl⟩ hw2
set_option maxRecDepth 100000 in
set_option maxHeartbeats 4000000 in
theorem c_L_plain_8 {a b c d : Int32} {a2 : Int32} (hb : (a.toUInt32 % 65536).toInt32 = a2) {P : zRes → zWorld → Prop} (h : ZM G mX8_spread 6 1 6 [.ref 0, .int a2] (zw X Y O) P) (ho : ∀ r w2, P r w2 → okRes ALL r) : ZM G mL_plain 14 1 6 [.ref 0, .int 8, .int a, .int b, .int c, .int d] (zw X Y O) P := by
  refine ZM.go pL rfl rfl (zle rfl) (zl := [some (.ref 0), some (.int 8), some (.int a), some (.int b), some (.int c), some (.int d)]) rfl ?_
  refine z_iload_n (i := 1) dL_plain_0 rfl rfl (q := 1) rfl ?_
  refine z_tableOut (tgt := 125) dL_plain_1 (by decide) (by decide) ?_
  refine z_aload_n (i := 0) dL_plain_125 rfl rfl (q := 126) rfl ?_
  refine z_iload_n (i := 2) dL_plain_126 rfl rfl (q := 127) rfl ?_
  refine z_i2c dL_plain_127 (q := 128) rfl ?_
  refine Z.eqst (st2 := .int a2 :: [.ref 0]) (by rw [hb]) ?_
  refine z_callV (As := [_]) dL_plain_128 kL_52 h (wo_x _ _ _) rfl rfl (zle rfl) ⟨zle rfl, zle rfl⟩ ⟨zle rfl, zle rfl⟩ (q := 131) rfl (fun rv w2 hw2 => ?_) (fun E w2 hw2 => ?_)
  · rcases ho _ _ hw2 with ⟨v, h9⟩ | ⟨E, h8, h9⟩
    · cases h9
      exact z_iret dL_plain_131 rfl ⟨zle rfl, zle rfl⟩ hw2
    · cases h9
  · exact zx_out rfl ⟨zle rfl, zle rfl⟩ hw2
set_option maxRecDepth 100000 in
set_option maxHeartbeats 4000000 in
def okResB (L : List String) (r : zRes) : Prop := (∃ (p : Prop) (_ : Decidable p), r = .inl (some (.int (zb p)))) ∨ ∃ E, E ∈ L ∧ r = .inr E
set_option maxRecDepth 100000 in
set_option maxHeartbeats 4000000 in
theorem c_L_plain_1 {a c d : Int32} {P : zRes → zWorld → Prop} (h : ZM G mX8_setLocked 4 1 6 [.ref 0, .int a, .int 1] (zw X Y O) P) (ho : ∀ r w2, P r w2 → okResB ALL r) : ZM G mL_plain 14 1 6 [.ref 0, .int 1, .int a, .int 1, .int c, .int d] (zw X Y O) P := by
  refine ZM.go pL rfl rfl (zle rfl) (zl := [some (.ref 0), some (.int 1), some (.int a), some (.int 1), some (.int c), some (.int d)]) rfl ?_
  refine z_iload_n (i := 1) dL_plain_0 rfl rfl (q := 1) rfl ?_
  refine z_tableIn (off := 58) (tgt := 59) dL_plain_1 (by decide) (by decide) rfl (by decide) ?_
  refine z_aload_n (i := 0) dL_plain_59 rfl rfl (q := 60) rfl ?_
  refine z_iload_n (i := 2) dL_plain_60 rfl rfl (q := 61) rfl ?_
  refine z_iload_n (i := 3) dL_plain_61 rfl rfl (q := 62) rfl ?_
  refine z_iconst (v := 1) dL_plain_62 rfl (q := 63) rfl ?_
  refine z_icmp_ne (tgt := 70) dL_plain_63 (by decide) (q := 66) rfl (fun h63 => absurd h63 (by decide)) (fun h63 => ?_)
  refine z_iconst (v := 1) dL_plain_66 rfl (q := 67) rfl ?_
  refine z_goto (tgt := 71) dL_plain_67 (by decide) ?_
  refine z_callV (As := [_, _]) dL_plain_71 kL_21 h (wo_x _ _ _) rfl rfl (zle rfl) ⟨zle rfl, zle rfl⟩ ⟨zle rfl, zle rfl⟩ (q := 74) rfl (fun rv w2 hw2 => ?_) (fun E w2 hw2 => ?_)
  · rcases ho _ _ hw2 with ⟨p, hd9, h9⟩ | ⟨E, h8, h9⟩
    · cases h9
      refine z_callSF (As := [_]) dL_plain_74 kL_25 (c_L_told (p := p)) rfl (zle rfl) ⟨zle rfl, zle rfl⟩ ⟨zle rfl, zle rfl⟩ (q := 77) rfl ?_
      exact z_iret dL_plain_77 rfl ⟨zle rfl, zle rfl⟩ hw2
    · cases h9
  · exact zx_out rfl ⟨zle rfl, zle rfl⟩ hw2
set_option maxRecDepth 100000 in
set_option maxHeartbeats 4000000 in
theorem wcl_59 : Cond.classLink RL 59 "java/lang/IndexOutOfBoundsException" ∈ zt := zt_at 694 rfl rfl
set_option maxRecDepth 100000 in
set_option maxHeartbeats 4000000 in
theorem wca_59 : Cond.castable "java/lang/IndexOutOfBoundsException" "java/lang/IndexOutOfBoundsException" ∈ zbad ∨ Cond.castable "java/lang/IndexOutOfBoundsException" "java/lang/IndexOutOfBoundsException" ∈ zt := by first | exact Or.inr (zt_at 779 rfl rfl) | exact Or.inl (zbad_at 779 rfl rfl)
set_option maxRecDepth 100000 in
set_option maxHeartbeats 4000000 in
theorem wcl_61 : Cond.classLink RL 61 "java/lang/IllegalArgumentException" ∈ zt := zt_at 718 rfl rfl
set_option maxRecDepth 100000 in
set_option maxHeartbeats 4000000 in
theorem wca_61 : Cond.castable "java/lang/IllegalArgumentException" "java/lang/IllegalArgumentException" ∈ zbad ∨ Cond.castable "java/lang/IllegalArgumentException" "java/lang/IllegalArgumentException" ∈ zt := by first | exact Or.inr (zt_at 346 rfl rfl) | exact Or.inl (zbad_at 346 rfl rfl)
set_option maxRecDepth 100000 in
set_option maxHeartbeats 4000000 in
theorem wcl_63 : Cond.classLink RL 63 "java/lang/IllegalStateException" ∈ zt := zt_at 719 rfl rfl
set_option maxRecDepth 100000 in
set_option maxHeartbeats 4000000 in
theorem wca_63 : Cond.castable "java/lang/IllegalStateException" "java/lang/IllegalStateException" ∈ zbad ∨ Cond.castable "java/lang/IllegalStateException" "java/lang/IllegalStateException" ∈ zt := by first | exact Or.inr (zt_at 733 rfl rfl) | exact Or.inl (zbad_at 733 rfl rfl)
set_option maxRecDepth 100000 in
set_option maxHeartbeats 4000000 in
theorem wcl_65 : Cond.classLink RL 65 "java/lang/UnsupportedOperationException" ∈ zt := zt_at 720 rfl rfl
set_option maxRecDepth 100000 in
set_option maxHeartbeats 4000000 in
theorem wca_65 : Cond.castable "java/lang/UnsupportedOperationException" "java/lang/UnsupportedOperationException" ∈ zbad ∨ Cond.castable "java/lang/UnsupportedOperationException" "java/lang/UnsupportedOperationException" ∈ zt := by first | exact Or.inr (zt_at 749 rfl rfl) | exact Or.inl (zbad_at 749 rfl rfl)
set_option maxRecDepth 100000 in
set_option maxHeartbeats 4000000 in
theorem wcl_67 : Cond.classLink RL 67 "java/util/NoSuchElementException" ∈ zt := zt_at 721 rfl rfl
set_option maxRecDepth 100000 in
set_option maxHeartbeats 4000000 in
theorem wca_67 : Cond.castable "java/util/NoSuchElementException" "java/util/NoSuchElementException" ∈ zbad ∨ Cond.castable "java/util/NoSuchElementException" "java/util/NoSuchElementException" ∈ zt := by first | exact Or.inr (zt_at 847 rfl rfl) | exact Or.inl (zbad_at 847 rfl rfl)
set_option maxRecDepth 100000 in
set_option maxHeartbeats 4000000 in
theorem c_L_ask {i a b c : Int32} {P : zRes → zWorld → Prop} (h : ZM G mL_asked 14 1 6 [.ref 0, .int i, .int a, .int b, .int c] (zw X Y O) P) (ho : ∀ r w2, P r w2 → okRes ASK r) : ZM G mL_ask 15 1 6 [.ref 0, .int i, .int a, .int b, .int c] (zw X Y O) (lP P) := by
  refine ZM.goH pL rfl rfl (zle rfl) (zl := [some (.ref 0), some (.int i), some (.int a), some (.int b), some (.int c), none]) rfl ?_
  refine z_aload_n (i := 0) dL_ask_0 rfl rfl (q := 1) rfl ?_
  refine z_iload_n (i := 1) dL_ask_1 rfl rfl (q := 2) rfl ?_
  refine z_iload_n (i := 2) dL_ask_2 rfl rfl (q := 3) rfl ?_
  refine z_iload_n (i := 3) dL_ask_3 rfl rfl (q := 4) rfl ?_
  refine z_iload dL_ask_4 rfl (q := 6) rfl ?_
  refine z_callS (As := [_, _, _, _, _]) dL_ask_6 kL_137 h rfl (zle rfl) ⟨zle rfl, zle rfl⟩ ⟨zle rfl, zle rfl⟩ (q := 9) rfl (fun rv w2 hw2 => ?_) (fun E w2 hw2 => ?_)
  · rcases ho _ _ hw2 with ⟨v, h9⟩ | ⟨E, _, h9⟩
    · cases h9
      exact z_iret dL_ask_9 rfl ⟨zle rfl, zle rfl⟩ ⟨_, hw2, rfl⟩
    · cases h9
  · rcases ho _ _ hw2 with ⟨v, h9⟩ | ⟨E2, hm, h9⟩
    · cases h9
    · cases h9
      simp only [List.mem_cons, List.mem_nil_iff, or_false, List.not_mem_nil] at hm
      rcases hm with rfl | rfl | rfl
      · exact zx_catchS (name := "java/lang/IndexOutOfBoundsException") (pre := []) (x := ⟨0, 9, 10, 59⟩) (suf := [⟨0, 9, 16, 61⟩, ⟨0, 9, 22, 67⟩]) (v := -2001) (i := 5) (p2 := 12) (p3 := 15) rfl (fun z hz => by cases hz) (by decide) (by decide) wcl_59 wca_59 (by decide) dL_ask_10 rfl dL_ask_12 rfl dL_ask_15 rfl rfl ⟨zle rfl, zle rfl⟩ ⟨_, hw2, rfl⟩
      · exact zx_catchS (name := "java/lang/IllegalArgumentException") (pre := [⟨0, 9, 10, 59⟩]) (x := ⟨0, 9, 16, 61⟩) (suf := [⟨0, 9, 22, 67⟩]) (v := -2002) (i := 5) (p2 := 18) (p3 := 21) rfl (fun z hz => by
        simp only [List.mem_cons, List.mem_nil_iff, or_false, List.not_mem_nil] at hz
        rcases hz with rfl
        · exact Or.inr ⟨by decide, _, wcl_59, by decide⟩) (by decide) (by decide) wcl_61 wca_61 (by decide) dL_ask_16 rfl dL_ask_18 rfl dL_ask_21 rfl rfl ⟨zle rfl, zle rfl⟩ ⟨_, hw2, rfl⟩
      · exact zx_catchS (name := "java/util/NoSuchElementException") (pre := [⟨0, 9, 10, 59⟩, ⟨0, 9, 16, 61⟩]) (x := ⟨0, 9, 22, 67⟩) (suf := []) (v := -2005) (i := 5) (p2 := 24) (p3 := 27) rfl (fun z hz => by
        simp only [List.mem_cons, List.mem_nil_iff, or_false, List.not_mem_nil] at hz
        rcases hz with rfl | rfl
        · exact Or.inr ⟨by decide, _, wcl_59, by decide⟩
        · exact Or.inr ⟨by decide, _, wcl_61, by decide⟩) (by decide) (by decide) wcl_67 wca_67 (by decide) dL_ask_22 rfl dL_ask_24 rfl dL_ask_27 rfl rfl ⟨zle rfl, zle rfl⟩ ⟨_, hw2, rfl⟩
set_option maxRecDepth 100000 in
set_option maxHeartbeats 4000000 in
theorem c_L_deed {i a b c d : Int32} {P : zRes → zWorld → Prop} (h : ZM G mL_plain 14 1 6 [.ref 0, .int i, .int a, .int b, .int c, .int d] (zw X Y O) P) (ho : ∀ r w2, P r w2 → okRes ALL r) : ZM G mL_deed 15 1 6 [.ref 0, .int i, .int a, .int b, .int c, .int d] (zw X Y O) (lP P) := by
  refine ZM.goH pL rfl rfl (zle rfl) (zl := [some (.ref 0), some (.int i), some (.int a), some (.int b), some (.int c), some (.int d), none]) rfl ?_
  refine z_aload_n (i := 0) dL_deed_0 rfl rfl (q := 1) rfl ?_
  refine z_iload_n (i := 1) dL_deed_1 rfl rfl (q := 2) rfl ?_
  refine z_iload_n (i := 2) dL_deed_2 rfl rfl (q := 3) rfl ?_
  refine z_iload_n (i := 3) dL_deed_3 rfl rfl (q := 4) rfl ?_
  refine z_iload dL_deed_4 rfl (q := 6) rfl ?_
  refine z_iload dL_deed_6 rfl (q := 8) rfl ?_
  refine z_callS (As := [_, _, _, _, _, _]) dL_deed_8 kL_55 h rfl (zle rfl) ⟨zle rfl, zle rfl⟩ ⟨zle rfl, zle rfl⟩ (q := 11) rfl (fun rv w2 hw2 => ?_) (fun E w2 hw2 => ?_)
  · rcases ho _ _ hw2 with ⟨v, h9⟩ | ⟨E, _, h9⟩
    · cases h9
      exact z_iret dL_deed_11 rfl ⟨zle rfl, zle rfl⟩ ⟨_, hw2, rfl⟩
    · cases h9
  · rcases ho _ _ hw2 with ⟨v, h9⟩ | ⟨E2, hm, h9⟩
    · cases h9
    · cases h9
      simp only [List.mem_cons, List.mem_nil_iff, or_false, List.not_mem_nil] at hm
      rcases hm with rfl | rfl | rfl | rfl | rfl
      · exact zx_catchS (name := "java/lang/IndexOutOfBoundsException") (pre := []) (x := ⟨0, 11, 12, 59⟩) (suf := [⟨0, 11, 18, 61⟩, ⟨0, 11, 24, 63⟩, ⟨0, 11, 30, 65⟩, ⟨0, 11, 36, 67⟩]) (v := -2001) (i := 6) (p2 := 14) (p3 := 17) rfl (fun z hz => by cases hz) (by decide) (by decide) wcl_59 wca_59 (by decide) dL_deed_12 rfl dL_deed_14 rfl dL_deed_17 rfl rfl ⟨zle rfl, zle rfl⟩ ⟨_, hw2, rfl⟩
      · exact zx_catchS (name := "java/lang/IllegalArgumentException") (pre := [⟨0, 11, 12, 59⟩]) (x := ⟨0, 11, 18, 61⟩) (suf := [⟨0, 11, 24, 63⟩, ⟨0, 11, 30, 65⟩, ⟨0, 11, 36, 67⟩]) (v := -2002) (i := 6) (p2 := 20) (p3 := 23) rfl (fun z hz => by
        simp only [List.mem_cons, List.mem_nil_iff, or_false, List.not_mem_nil] at hz
        rcases hz with rfl
        · exact Or.inr ⟨by decide, _, wcl_59, by decide⟩) (by decide) (by decide) wcl_61 wca_61 (by decide) dL_deed_18 rfl dL_deed_20 rfl dL_deed_23 rfl rfl ⟨zle rfl, zle rfl⟩ ⟨_, hw2, rfl⟩
      · exact zx_catchS (name := "java/lang/IllegalStateException") (pre := [⟨0, 11, 12, 59⟩, ⟨0, 11, 18, 61⟩]) (x := ⟨0, 11, 24, 63⟩) (suf := [⟨0, 11, 30, 65⟩, ⟨0, 11, 36, 67⟩]) (v := -2003) (i := 6) (p2 := 26) (p3 := 29) rfl (fun z hz => by
        simp only [List.mem_cons, List.mem_nil_iff, or_false, List.not_mem_nil] at hz
        rcases hz with rfl | rfl
        · exact Or.inr ⟨by decide, _, wcl_59, by decide⟩
        · exact Or.inr ⟨by decide, _, wcl_61, by decide⟩) (by decide) (by decide) wcl_63 wca_63 (by decide) dL_deed_24 rfl dL_deed_26 rfl dL_deed_29 rfl rfl ⟨zle rfl, zle rfl⟩ ⟨_, hw2, rfl⟩
      · exact zx_catchS (name := "java/lang/UnsupportedOperationException") (pre := [⟨0, 11, 12, 59⟩, ⟨0, 11, 18, 61⟩, ⟨0, 11, 24, 63⟩]) (x := ⟨0, 11, 30, 65⟩) (suf := [⟨0, 11, 36, 67⟩]) (v := -2004) (i := 6) (p2 := 32) (p3 := 35) rfl (fun z hz => by
        simp only [List.mem_cons, List.mem_nil_iff, or_false, List.not_mem_nil] at hz
        rcases hz with rfl | rfl | rfl
        · exact Or.inr ⟨by decide, _, wcl_59, by decide⟩
        · exact Or.inr ⟨by decide, _, wcl_61, by decide⟩
        · exact Or.inr ⟨by decide, _, wcl_63, by decide⟩) (by decide) (by decide) wcl_65 wca_65 (by decide) dL_deed_30 rfl dL_deed_32 rfl dL_deed_35 rfl rfl ⟨zle rfl, zle rfl⟩ ⟨_, hw2, rfl⟩
      · exact zx_catchS (name := "java/util/NoSuchElementException") (pre := [⟨0, 11, 12, 59⟩, ⟨0, 11, 18, 61⟩, ⟨0, 11, 24, 63⟩, ⟨0, 11, 30, 65⟩]) (x := ⟨0, 11, 36, 67⟩) (suf := []) (v := -2005) (i := 6) (p2 := 38) (p3 := 41) rfl (fun z hz => by
        simp only [List.mem_cons, List.mem_nil_iff, or_false, List.not_mem_nil] at hz
        rcases hz with rfl | rfl | rfl | rfl
        · exact Or.inr ⟨by decide, _, wcl_59, by decide⟩
        · exact Or.inr ⟨by decide, _, wcl_61, by decide⟩
        · exact Or.inr ⟨by decide, _, wcl_63, by decide⟩
        · exact Or.inr ⟨by decide, _, wcl_65, by decide⟩) (by decide) (by decide) wcl_67 wca_67 (by decide) dL_deed_36 rfl dL_deed_38 rfl dL_deed_41 rfl rfl ⟨zle rfl, zle rfl⟩ ⟨_, hw2, rfl⟩
end
