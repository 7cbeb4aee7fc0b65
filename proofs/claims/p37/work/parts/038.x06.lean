section
variable {G : zG} {X : zX} {Y : zY} {O : zO}
set_option maxRecDepth 100000 in
set_option maxHeartbeats 4000000 in
theorem c_X8_setText {l : Int32} {n k : Nat} (hn : X.1 0 = nI n) (h4 : n ≤ 4) (hk : k < n) (hw : 1 ≤ X.2.1 1 k / 2) : ZM G mX8_setText 4 1 6 [.ref 0, .int (nI k), .int l] (zw X Y O) (zR (A_setText X k l).1 (zw (A_setText X k l).2 Y O)) := by
  refine ZM.go pX8 rfl rfl (zle rfl) (zl := [some (.ref 0), some (.int (nI k)), some (.int l)]) rfl ?_
  refine z_aload_n (i := 0) dX8_setText_0 rfl rfl (q := 1) rfl ?_
  refine z_iload_n (i := 1) dX8_setText_1 rfl rfl (q := 2) rfl ?_
  refine z_callVF (As := [_]) dX8_setText_2 kX8_106 (c_X8_requireShape hn h4 hk) (wo_x _ _ _) rfl rfl (zle rfl) ⟨zle rfl, zle rfl⟩ ⟨zle rfl, zle rfl⟩ (q := 5) rfl ?_
  refine z_iload_n (i := 2) dX8_setText_5 rfl rfl (q := 6) rfl ?_
  refine z_if_lt (tgt := 16) dX8_setText_6 (by decide) (q := 9) rfl (fun h6 => ?_) (fun h6 => ?_)
  · exact z_throw dX8_setText_16 dX8_setText_19 dX8_setText_20 dX8_setText_22 dX8_setText_25 xX8_69_145 rfl ⟨zle rfl, zle rfl, zle rfl, zle rfl⟩ (by constructor <;> simp_all [A_setText, zon, zlim, -Int32.not_le, -Int32.not_lt])
  · refine z_iload_n (i := 2) dX8_setText_9 rfl rfl (q := 10) rfl ?_
    refine z_sipush (v := 400) dX8_setText_10 rfl (q := 13) rfl ?_
    refine z_icmp_le (tgt := 26) dX8_setText_13 (by decide) (q := 16) rfl (fun h13 => ?_) (fun h13 => ?_)
    · refine z_aload_n (i := 0) dX8_setText_26 rfl rfl (q := 27) rfl ?_
      refine z_get dX8_setText_27 fX8_28 (wo_x _ _ _) rfl (q := 30) rfl ?_
      refine z_iload_n (i := 1) dX8_setText_30 rfl rfl (q := 31) rfl ?_
      refine z_iload_n (i := 2) dX8_setText_31 rfl rfl (q := 32) rfl ?_
      refine z_callVF (As := [_, _]) dX8_setText_32 kX8_113 (c_X4_set  (wr_5 _ _ _) (by omega) (by decide)) (wr_5 _ _ _).1 rfl rfl (zle rfl) ⟨zle rfl, zle rfl⟩ ⟨zle rfl, zle rfl⟩ (q := 35) rfl ?_
      refine Z.eqw (wp_5 _ _ _ _ _) ?_
      refine z_aload_n (i := 0) dX8_setText_35 rfl rfl (q := 36) rfl ?_
      refine z_iload_n (i := 1) dX8_setText_36 rfl rfl (q := 37) rfl ?_
      refine z_callVF (As := [_]) dX8_setText_37 kX8_147 (c_X8_neededHeight (k := k) (by omega) (by simpa [xrow, va_up] using hw)) (wo_x _ _ _) rfl rfl (zle rfl) ⟨zle rfl, zle rfl⟩ ⟨zle rfl, zle rfl⟩ (q := 40) rfl ?_
      exact z_iret dX8_setText_40 rfl ⟨zle rfl, zle rfl⟩ (by constructor <;> simp_all [A_setText, xrow, va_up, upd, -Int32.not_le, -Int32.not_lt])
    · exact z_throw dX8_setText_16 dX8_setText_19 dX8_setText_20 dX8_setText_22 dX8_setText_25 xX8_69_145 rfl ⟨zle rfl, zle rfl, zle rfl, zle rfl⟩ (by constructor <;> simp_all [A_setText, zon, zlim, -Int32.not_le, -Int32.not_lt])
set_option maxRecDepth 100000 in
set_option maxHeartbeats 4000000 in
theorem c_X8_setText_out {n : Nat} {s : Int32} (hn : X.1 0 = nI n) (h : s < 0 ∨ nI n ≤ s) {l : Int32} : ZM G mX8_setText 4 1 6 [.ref 0, .int s, .int l] (zw X Y O) (zTh eIOOBE (zw X Y O)) := by
  refine ZM.go pX8 rfl rfl (zle rfl) (zl := [some (.ref 0), some (.int s), some (.int l)]) rfl ?_
  refine z_aload_n (i := 0) dX8_setText_0 rfl rfl (q := 1) rfl ?_
  refine z_iload_n (i := 1) dX8_setText_1 rfl rfl (q := 2) rfl ?_
  exact z_callVT (As := [_]) dX8_setText_2 kX8_106 (c_X8_requireShape_out hn h) (wo_x _ _ _) rfl rfl rfl (zle rfl) ⟨zle rfl, zle rfl⟩ ⟨zle rfl, zle rfl⟩ ⟨rfl, rfl⟩
set_option maxRecDepth 100000 in
set_option maxHeartbeats 4000000 in
theorem c_X8_fits {n k : Nat} (hn : X.1 0 = nI n) (h4 : n ≤ 4) (hk : k < n) (hw : 1 ≤ X.2.1 1 k / 2) : ZM G mX8_fits 4 1 6 [.ref 0, .int (nI k)] (zw X Y O) (zEq (some (.int (zb (zneed (X.2.1 1 k) (X.2.1 5 k) ≤ X.2.1 3 k)))) (zw X Y O)) := by
  refine ZM.go pX8 rfl rfl (zle rfl) (zl := [some (.ref 0), some (.int (nI k))]) rfl ?_
  refine z_aload_n (i := 0) dX8_fits_0 rfl rfl (q := 1) rfl ?_
  refine z_iload_n (i := 1) dX8_fits_1 rfl rfl (q := 2) rfl ?_
  refine z_callVF (As := [_]) dX8_fits_2 kX8_106 (c_X8_requireShape hn h4 hk) (wo_x _ _ _) rfl rfl (zle rfl) ⟨zle rfl, zle rfl⟩ ⟨zle rfl, zle rfl⟩ (q := 5) rfl ?_
  refine z_aload_n (i := 0) dX8_fits_5 rfl rfl (q := 6) rfl ?_
  refine z_iload_n (i := 1) dX8_fits_6 rfl rfl (q := 7) rfl ?_
  refine z_callVF (As := [_]) dX8_fits_7 kX8_150 (c_X8_textFits (by omega) hw) (wo_x _ _ _) rfl rfl (zle rfl) ⟨zle rfl, zle rfl⟩ ⟨zle rfl, zle rfl⟩ (q := 10) rfl ?_
  exact z_zret dX8_fits_10 rfl zb_n ⟨zle rfl, zle rfl⟩ ⟨rfl, rfl⟩
set_option maxRecDepth 100000 in
set_option maxHeartbeats 4000000 in
theorem c_X8_fits_out {n : Nat} {s : Int32} (hn : X.1 0 = nI n) (h : s < 0 ∨ nI n ≤ s) : ZM G mX8_fits 4 1 6 [.ref 0, .int s] (zw X Y O) (zTh eIOOBE (zw X Y O)) := by
  refine ZM.go pX8 rfl rfl (zle rfl) (zl := [some (.ref 0), some (.int s)]) rfl ?_
  refine z_aload_n (i := 0) dX8_fits_0 rfl rfl (q := 1) rfl ?_
  refine z_iload_n (i := 1) dX8_fits_1 rfl rfl (q := 2) rfl ?_
  exact z_callVT (As := [_]) dX8_fits_2 kX8_106 (c_X8_requireShape_out hn h) (wo_x _ _ _) rfl rfl rfl (zle rfl) ⟨zle rfl, zle rfl⟩ ⟨zle rfl, zle rfl⟩ ⟨rfl, rfl⟩
set_option maxRecDepth 100000 in
set_option maxHeartbeats 4000000 in
theorem c_X8_grow {n k : Nat} (hn : X.1 0 = nI n) (h4 : n ≤ 4) (hk : k < n) (hw : 1 ≤ X.2.1 1 k / 2) : ZM G mX8_grow 6 1 6 [.ref 0, .int (nI k)] (zw X Y O) (zR (A_grow X n k).1 (zw (A_grow X n k).2 Y O)) := by
  refine ZM.go pX8 rfl rfl (zle rfl) (zl := [some (.ref 0), some (.int (nI k)), none, none]) rfl ?_
  refine z_aload_n (i := 0) dX8_grow_0 rfl rfl (q := 1) rfl ?_
  refine z_iload_n (i := 1) dX8_grow_1 rfl rfl (q := 2) rfl ?_
  refine z_callVF (As := [_]) dX8_grow_2 kX8_106 (c_X8_requireShape hn h4 hk) (wo_x _ _ _) rfl rfl (zle rfl) ⟨zle rfl, zle rfl⟩ ⟨zle rfl, zle rfl⟩ (q := 5) rfl ?_
  refine z_aload_n (i := 0) dX8_grow_5 rfl rfl (q := 6) rfl ?_
  refine z_iload_n (i := 1) dX8_grow_6 rfl rfl (q := 7) rfl ?_
  refine z_callVF (As := [_]) dX8_grow_7 kX8_153 (c_X8_growHindrance hn h4 hk hw) (wo_x _ _ _) rfl rfl (zle rfl) ⟨zle rfl, zle rfl⟩ ⟨zle rfl, zle rfl⟩ (q := 10) rfl ?_
  refine z_istore_n (i := 2) dX8_grow_10 rfl (zle rfl) rfl (q := 11) rfl ?_
  refine z_iload_n (i := 2) dX8_grow_11 rfl rfl (q := 12) rfl ?_
  refine z_bipush (v := 102) dX8_grow_12 rfl (q := 14) rfl ?_
  refine z_icmp_ne (tgt := 27) dX8_grow_14 (by decide) (q := 17) rfl (fun h14 => ?_) (fun h14 => ?_)
  · refine z_iload_n (i := 2) dX8_grow_27 rfl rfl (q := 28) rfl ?_
    refine z_bipush (v := 108) dX8_grow_28 rfl (q := 30) rfl ?_
    refine z_icmp_ne (tgt := 43) dX8_grow_30 (by decide) (q := 33) rfl (fun h30 => ?_) (fun h30 => ?_)
    · refine z_iload_n (i := 2) dX8_grow_43 rfl rfl (q := 44) rfl ?_
      refine z_bipush (v := 110) dX8_grow_44 rfl (q := 46) rfl ?_
      refine z_icmp_eq (tgt := 59) dX8_grow_46 (by decide) (q := 49) rfl (fun h46 => ?_) (fun h46 => ?_)
      · refine z_aload_n (i := 0) dX8_grow_59 rfl rfl (q := 60) rfl ?_
        refine z_iload_n (i := 1) dX8_grow_60 rfl rfl (q := 61) rfl ?_
        refine z_callVF (As := [_]) dX8_grow_61 kX8_147 (c_X8_neededHeight (k := k) (by omega) hw) (wo_x _ _ _) rfl rfl (zle rfl) ⟨zle rfl, zle rfl⟩ ⟨zle rfl, zle rfl⟩ (q := 64) rfl ?_
        refine z_istore_n (i := 3) dX8_grow_64 rfl (zle rfl) rfl (q := 65) rfl ?_
        refine z_aload_n (i := 0) dX8_grow_65 rfl rfl (q := 66) rfl ?_
        refine z_get dX8_grow_66 fX8_18 (wo_x _ _ _) rfl (q := 69) rfl ?_
        refine z_iload_n (i := 1) dX8_grow_69 rfl rfl (q := 70) rfl ?_
        refine z_iload_n (i := 3) dX8_grow_70 rfl rfl (q := 71) rfl ?_
        refine z_callVF (As := [_, _]) dX8_grow_71 kX8_164 (c_X0_setSize (t := 1) (by decide) (by omega)) (wo_down _ _ _) rfl rfl (zle rfl) ⟨zle rfl, zle rfl⟩ ⟨zle rfl, zle rfl⟩ (q := 74) rfl ?_
        refine z_iload_n (i := 3) dX8_grow_74 rfl rfl (q := 75) rfl ?_
        exact z_iret dX8_grow_75 rfl ⟨zle rfl, zle rfl⟩ (by constructor <;> simp_all [A_grow, -Int32.not_le, -Int32.not_lt])
      · exact z_throw dX8_grow_49 dX8_grow_52 dX8_grow_53 dX8_grow_55 dX8_grow_58 xX8_95_162 rfl ⟨zle rfl, zle rfl, zle rfl, zle rfl⟩ (by constructor <;> simp_all [A_grow, zon, zlim, -Int32.not_le, -Int32.not_lt])
    · exact z_throw dX8_grow_33 dX8_grow_36 dX8_grow_37 dX8_grow_39 dX8_grow_42 xX8_86_131 rfl ⟨zle rfl, zle rfl, zle rfl, zle rfl⟩ (by constructor <;> simp_all [A_grow, zon, zlim, -Int32.not_le, -Int32.not_lt])
  · exact z_throwN dX8_grow_17 dX8_grow_20 dX8_grow_21 dX8_grow_23 dX8_grow_26 xX8_157_159 rfl ⟨zle rfl, zle rfl, zle rfl, zle rfl⟩ (by constructor <;> simp_all [A_grow, zon, zlim, -Int32.not_le, -Int32.not_lt])
set_option maxRecDepth 100000 in
set_option maxHeartbeats 4000000 in
theorem c_X8_grow_out {n : Nat} {s : Int32} (hn : X.1 0 = nI n) (h : s < 0 ∨ nI n ≤ s) : ZM G mX8_grow 6 1 6 [.ref 0, .int s] (zw X Y O) (zTh eIOOBE (zw X Y O)) := by
  refine ZM.go pX8 rfl rfl (zle rfl) (zl := [some (.ref 0), some (.int s), none, none]) rfl ?_
  refine z_aload_n (i := 0) dX8_grow_0 rfl rfl (q := 1) rfl ?_
  refine z_iload_n (i := 1) dX8_grow_1 rfl rfl (q := 2) rfl ?_
  exact z_callVT (As := [_]) dX8_grow_2 kX8_106 (c_X8_requireShape_out hn h) (wo_x _ _ _) rfl rfl rfl (zle rfl) ⟨zle rfl, zle rfl⟩ ⟨zle rfl, zle rfl⟩ ⟨rfl, rfl⟩
set_option maxRecDepth 100000 in
set_option maxHeartbeats 4000000 in
theorem c_X8_growReason {n k : Nat} (hn : X.1 0 = nI n) (h4 : n ≤ 4) (hk : k < n) (hw : 1 ≤ X.2.1 1 k / 2) : ZM G mX8_growReason 6 1 6 [.ref 0, .int (nI k)] (zw X Y O) (zEq (some (.int (grh X n k))) (zw X Y O)) := by
  refine ZM.go pX8 rfl rfl (zle rfl) (zl := [some (.ref 0), some (.int (nI k))]) rfl ?_
  refine z_aload_n (i := 0) dX8_growReason_0 rfl rfl (q := 1) rfl ?_
  refine z_iload_n (i := 1) dX8_growReason_1 rfl rfl (q := 2) rfl ?_
  refine z_callVF (As := [_]) dX8_growReason_2 kX8_106 (c_X8_requireShape hn h4 hk) (wo_x _ _ _) rfl rfl (zle rfl) ⟨zle rfl, zle rfl⟩ ⟨zle rfl, zle rfl⟩ (q := 5) rfl ?_
  refine z_aload_n (i := 0) dX8_growReason_5 rfl rfl (q := 6) rfl ?_
  refine z_iload_n (i := 1) dX8_growReason_6 rfl rfl (q := 7) rfl ?_
  refine z_callVF (As := [_]) dX8_growReason_7 kX8_153 (c_X8_growHindrance hn h4 hk hw) (wo_x _ _ _) rfl rfl (zle rfl) ⟨zle rfl, zle rfl⟩ ⟨zle rfl, zle rfl⟩ (q := 10) rfl ?_
  exact z_zret dX8_growReason_10 rfl (by unfold grh; repeat (first | rfl | split)) ⟨zle rfl, zle rfl⟩ ⟨rfl, rfl⟩
set_option maxRecDepth 100000 in
set_option maxHeartbeats 4000000 in
theorem c_X8_growReason_out {n : Nat} {s : Int32} (hn : X.1 0 = nI n) (h : s < 0 ∨ nI n ≤ s) : ZM G mX8_growReason 6 1 6 [.ref 0, .int s] (zw X Y O) (zTh eIOOBE (zw X Y O)) := by
  refine ZM.go pX8 rfl rfl (zle rfl) (zl := [some (.ref 0), some (.int s)]) rfl ?_
  refine z_aload_n (i := 0) dX8_growReason_0 rfl rfl (q := 1) rfl ?_
  refine z_iload_n (i := 1) dX8_growReason_1 rfl rfl (q := 2) rfl ?_
  exact z_callVT (As := [_]) dX8_growReason_2 kX8_106 (c_X8_requireShape_out hn h) (wo_x _ _ _) rfl rfl rfl (zle rfl) ⟨zle rfl, zle rfl⟩ ⟨zle rfl, zle rfl⟩ ⟨rfl, rfl⟩
set_option maxRecDepth 100000 in
set_option maxHeartbeats 4000000 in
theorem c_X8_inTheWay {n k : Nat} (hn : X.1 0 = nI n) (h4 : n ≤ 4) (hk : k < n) (hw : 1 ≤ X.2.1 1 k / 2) : ZM G mX8_inTheWay 5 1 6 [.ref 0, .int (nI k)] (zw X Y O) (zR (A_inTheWay X n k) (zw X Y O)) := by
  refine ZM.go pX8 rfl rfl (zle rfl) (zl := [some (.ref 0), some (.int (nI k)), none]) rfl ?_
  refine z_aload_n (i := 0) dX8_inTheWay_0 rfl rfl (q := 1) rfl ?_
  refine z_iload_n (i := 1) dX8_inTheWay_1 rfl rfl (q := 2) rfl ?_
  refine z_callVF (As := [_]) dX8_inTheWay_2 kX8_106 (c_X8_requireShape hn h4 hk) (wo_x _ _ _) rfl rfl (zle rfl) ⟨zle rfl, zle rfl⟩ ⟨zle rfl, zle rfl⟩ (q := 5) rfl ?_
  refine z_aload_n (i := 0) dX8_inTheWay_5 rfl rfl (q := 6) rfl ?_
  refine z_iload_n (i := 1) dX8_inTheWay_6 rfl rfl (q := 7) rfl ?_
  refine z_callVF (As := [_]) dX8_inTheWay_7 kX8_150 (c_X8_textFits (by omega) hw) (wo_x _ _ _) rfl rfl (zle rfl) ⟨zle rfl, zle rfl⟩ ⟨zle rfl, zle rfl⟩ (q := 10) rfl ?_
  refine z_if_ne (tgt := 21) dX8_inTheWay_10 (by decide) (q := 13) rfl (fun h10 => ?_) (fun h10 => ?_)
  · replace h10 := zb_1.mp h10
    exact z_throwN dX8_inTheWay_21 dX8_inTheWay_24 dX8_inTheWay_25 dX8_inTheWay_27 dX8_inTheWay_30 xX8_157_170 rfl ⟨zle rfl, zle rfl, zle rfl, zle rfl⟩ (by constructor <;> simp_all [A_inTheWay, zon, zlim, -Int32.not_le, -Int32.not_lt])
  · replace h10 := zb_0.mp h10
    refine z_aload_n (i := 0) dX8_inTheWay_13 rfl rfl (q := 14) rfl ?_
    refine z_iload_n (i := 1) dX8_inTheWay_14 rfl rfl (q := 15) rfl ?_
    refine z_callVF (As := [_]) dX8_inTheWay_15 kX8_167 (c_X8_grownLiesOnSlide (by omega) hw) (wo_x _ _ _) rfl rfl (zle rfl) ⟨zle rfl, zle rfl⟩ ⟨zle rfl, zle rfl⟩ (q := 18) rfl ?_
    refine z_if_ne (tgt := 31) dX8_inTheWay_18 (by decide) (q := 21) rfl (fun h18 => ?_) (fun h18 => ?_)
    · replace h18 := zb_1.mp h18
      refine z_aload_n (i := 0) dX8_inTheWay_31 rfl rfl (q := 32) rfl ?_
      refine z_iload_n (i := 1) dX8_inTheWay_32 rfl rfl (q := 33) rfl ?_
      refine z_callVF (As := [_]) dX8_inTheWay_33 kX8_172 (c_X8_firstOverlappedIfGrown hn h4 hk hw) (wo_x _ _ _) rfl rfl (zle rfl) ⟨zle rfl, zle rfl⟩ ⟨zle rfl, zle rfl⟩ (q := 36) rfl ?_
      refine z_istore_n (i := 2) dX8_inTheWay_36 rfl (zle rfl) rfl (q := 37) rfl ?_
      refine z_iload_n (i := 2) dX8_inTheWay_37 rfl rfl (q := 38) rfl ?_
      refine z_iconst (v := (-1)) dX8_inTheWay_38 rfl (q := 39) rfl ?_
      refine z_icmp_ne (tgt := 52) dX8_inTheWay_39 (by decide) (q := 42) rfl (fun h39 => ?_) (fun h39 => ?_)
      · refine z_iload_n (i := 2) dX8_inTheWay_52 rfl rfl (q := 53) rfl ?_
        exact z_iret dX8_inTheWay_53 rfl ⟨zle rfl, zle rfl⟩ (by constructor <;> simp_all [A_inTheWay, zon, zlim, -Int32.not_le, -Int32.not_lt])
      · exact z_throwN dX8_inTheWay_42 dX8_inTheWay_45 dX8_inTheWay_46 dX8_inTheWay_48 dX8_inTheWay_51 xX8_157_175 rfl ⟨zle rfl, zle rfl, zle rfl, zle rfl⟩ (by constructor <;> simp_all [A_inTheWay, zon, zlim, -Int32.not_le, -Int32.not_lt])
    · replace h18 := zb_0.mp h18
      exact z_throwN dX8_inTheWay_21 dX8_inTheWay_24 dX8_inTheWay_25 dX8_inTheWay_27 dX8_inTheWay_30 xX8_157_170 rfl ⟨zle rfl, zle rfl, zle rfl, zle rfl⟩ (by constructor <;> simp_all [A_inTheWay, zon, zlim, -Int32.not_le, -Int32.not_lt])
set_option maxRecDepth 100000 in
set_option maxHeartbeats 4000000 in
theorem c_X8_inTheWay_out {n : Nat} {s : Int32} (hn : X.1 0 = nI n) (h : s < 0 ∨ nI n ≤ s) : ZM G mX8_inTheWay 5 1 6 [.ref 0, .int s] (zw X Y O) (zTh eIOOBE (zw X Y O)) := by
  refine ZM.go pX8 rfl rfl (zle rfl) (zl := [some (.ref 0), some (.int s), none]) rfl ?_
  refine z_aload_n (i := 0) dX8_inTheWay_0 rfl rfl (q := 1) rfl ?_
  refine z_iload_n (i := 1) dX8_inTheWay_1 rfl rfl (q := 2) rfl ?_
  exact z_callVT (As := [_]) dX8_inTheWay_2 kX8_106 (c_X8_requireShape_out hn h) (wo_x _ _ _) rfl rfl rfl (zle rfl) ⟨zle rfl, zle rfl⟩ ⟨zle rfl, zle rfl⟩ ⟨rfl, rfl⟩
set_option maxRecDepth 100000 in
set_option maxHeartbeats 4000000 in
theorem c_X8_addWish {kd f : Int32} {n nw a b : Nat} (hn : X.1 0 = nI n) (h4 : n ≤ 4) (ha : a < n) (hb : b < n) (h6 : X.1 6 = nI nw) (h7 : X.1 7 = nI nw) (h8 : X.1 8 = nI nw) (h9 : X.1 9 = nI nw) (h10 : X.1 10 = nI nw) (hw : nw ≤ 8) : ZM G mX8_addWish 4 1 6 [.ref 0, .int kd, .int (nI a), .int (nI b), .int f] (zw X Y O) (zR (A_addWish X nw kd (nI a) (nI b) f).1 (zw (A_addWish X nw kd (nI a) (nI b) f).2 Y O)) := by
  refine ZM.go pX8 rfl rfl (zle rfl) (zl := [some (.ref 0), some (.int kd), some (.int (nI a)), some (.int (nI b)), some (.int f)]) rfl ?_
  refine z_aload_n (i := 0) dX8_addWish_0 rfl rfl (q := 1) rfl ?_
  refine z_iload_n (i := 2) dX8_addWish_1 rfl rfl (q := 2) rfl ?_
  refine z_callVF (As := [_]) dX8_addWish_2 kX8_106 (c_X8_requireShape hn h4 ha) (wo_x _ _ _) rfl rfl (zle rfl) ⟨zle rfl, zle rfl⟩ ⟨zle rfl, zle rfl⟩ (q := 5) rfl ?_
  refine z_aload_n (i := 0) dX8_addWish_5 rfl rfl (q := 6) rfl ?_
  refine z_iload_n (i := 3) dX8_addWish_6 rfl rfl (q := 7) rfl ?_
  refine z_callVF (As := [_]) dX8_addWish_7 kX8_106 (c_X8_requireShape hn h4 hb) (wo_x _ _ _) rfl rfl (zle rfl) ⟨zle rfl, zle rfl⟩ ⟨zle rfl, zle rfl⟩ (q := 10) rfl ?_
  refine z_iload_n (i := 1) dX8_addWish_10 rfl rfl (q := 11) rfl ?_
  refine z_callSF (As := [_]) dX8_addWish_11 kX8_177 (c_X7_isKind (X := X) (Y := Y) (O := O)) rfl (zle rfl) ⟨zle rfl, zle rfl⟩ ⟨zle rfl, zle rfl⟩ (q := 14) rfl ?_
  refine z_if_eq (tgt := 35) dX8_addWish_14 (by decide) (q := 17) rfl (fun h14 => ?_) (fun h14 => ?_)
  · replace h14 := zb_0.mp h14
    exact z_throw dX8_addWish_35 dX8_addWish_38 dX8_addWish_39 dX8_addWish_41 dX8_addWish_44 xX8_69_180 rfl ⟨zle rfl, zle rfl, zle rfl, zle rfl⟩ (by constructor <;> simp_all [A_addWish, zon, zlim, -Int32.not_le, -Int32.not_lt])
  · replace h14 := zb_1.mp h14
    refine z_iload_n (i := 2) dX8_addWish_17 rfl rfl (q := 18) rfl ?_
    refine z_iload_n (i := 3) dX8_addWish_18 rfl rfl (q := 19) rfl ?_
    refine z_icmp_eq (tgt := 35) dX8_addWish_19 (by decide) (q := 22) rfl (fun h19 => ?_) (fun h19 => ?_)
    · exact z_throw dX8_addWish_35 dX8_addWish_38 dX8_addWish_39 dX8_addWish_41 dX8_addWish_44 xX8_69_180 rfl ⟨zle rfl, zle rfl, zle rfl, zle rfl⟩ (by constructor <;> simp_all [A_addWish, zon, zlim, -Int32.not_le, -Int32.not_lt])
    · refine z_iload dX8_addWish_22 rfl (q := 24) rfl ?_
      refine z_iconst (v := 1) dX8_addWish_24 rfl (q := 25) rfl ?_
      refine z_icmp_lt (tgt := 35) dX8_addWish_25 (by decide) (q := 28) rfl (fun h25 => ?_) (fun h25 => ?_)
      · exact z_throw dX8_addWish_35 dX8_addWish_38 dX8_addWish_39 dX8_addWish_41 dX8_addWish_44 xX8_69_180 rfl ⟨zle rfl, zle rfl, zle rfl, zle rfl⟩ (by constructor <;> simp_all [A_addWish, zon, zlim, -Int32.not_le, -Int32.not_lt])
      · refine z_iload dX8_addWish_28 rfl (q := 30) rfl ?_
        refine z_bipush (v := 9) dX8_addWish_30 rfl (q := 32) rfl ?_
        refine z_icmp_le (tgt := 45) dX8_addWish_32 (by decide) (q := 35) rfl (fun h32 => ?_) (fun h32 => ?_)
        · refine z_aload_n (i := 0) dX8_addWish_45 rfl rfl (q := 46) rfl ?_
          refine z_get dX8_addWish_46 fX8_34 (wo_x _ _ _) rfl (q := 49) rfl ?_
          refine z_callVF (As := []) dX8_addWish_49 kX8_182 (c_X7_addedCount ) (wo_wishes _ _ _) rfl rfl (zle rfl) ⟨zle rfl, zle rfl⟩ ⟨zle rfl, zle rfl⟩ (q := 52) rfl ?_
          refine z_bipush (v := 8) dX8_addWish_52 rfl (q := 54) rfl ?_
          rw [h6]
          refine z_icmp_lt (tgt := 67) dX8_addWish_54 (by decide) (q := 57) rfl (fun h54 => ?_) (fun h54 => ?_)
          · have hlt : nw < 8 := (nI_ltI (by omega) (by decide)).mp (show nI nw < nI 8 from h54)
            refine z_aload_n (i := 0) dX8_addWish_67 rfl rfl (q := 68) rfl ?_
            refine z_get dX8_addWish_68 fX8_34 (wo_x _ _ _) rfl (q := 71) rfl ?_
            refine z_iload_n (i := 1) dX8_addWish_71 rfl rfl (q := 72) rfl ?_
            refine z_iload_n (i := 2) dX8_addWish_72 rfl rfl (q := 73) rfl ?_
            refine z_iload_n (i := 3) dX8_addWish_73 rfl rfl (q := 74) rfl ?_
            refine z_iload dX8_addWish_74 rfl (q := 76) rfl ?_
            refine z_callVF (As := [_, _, _, _]) dX8_addWish_76 kX8_187 (c_X7_append hlt h6 h7 h8 h9 h10) (wo_wishes _ _ _) rfl rfl (zle rfl) ⟨zle rfl, zle rfl⟩ ⟨zle rfl, zle rfl⟩ (q := 79) rfl ?_
            refine z_aload_n (i := 0) dX8_addWish_79 rfl rfl (q := 80) rfl ?_
            refine z_get dX8_addWish_80 fX8_34 (wo_x _ _ _) rfl (q := 83) rfl ?_
            refine z_callVF (As := []) dX8_addWish_83 kX8_182 (c_X7_addedCount ) (wo_wishes _ _ _) rfl rfl (zle rfl) ⟨zle rfl, zle rfl⟩ ⟨zle rfl, zle rfl⟩ (q := 86) rfl ?_
            refine z_iconst (v := 1) dX8_addWish_86 rfl (q := 87) rfl ?_
            refine z_isub dX8_addWish_87 (q := 88) rfl ?_
            exact z_iret dX8_addWish_88 rfl ⟨zle rfl, zle rfl⟩ (by constructor <;> simp_all [A_addWish, xwish, xrow, va_up, nI_pred, -Int32.not_le, -Int32.not_lt])
          · exact z_throw dX8_addWish_57 dX8_addWish_60 dX8_addWish_61 dX8_addWish_63 dX8_addWish_66 xX8_86_185 rfl ⟨zle rfl, zle rfl, zle rfl, zle rfl⟩ (by constructor <;> simp_all [A_addWish, zon, zlim, -Int32.not_le, -Int32.not_lt])
        · exact z_throw dX8_addWish_35 dX8_addWish_38 dX8_addWish_39 dX8_addWish_41 dX8_addWish_44 xX8_69_180 rfl ⟨zle rfl, zle rfl, zle rfl, zle rfl⟩ (by constructor <;> simp_all [A_addWish, zon, zlim, -Int32.not_le, -Int32.not_lt])
set_option maxRecDepth 100000 in
set_option maxHeartbeats 4000000 in
theorem c_X8_addWish_out {n : Nat} {s : Int32} (hn : X.1 0 = nI n) (h : s < 0 ∨ nI n ≤ s) {kd s2 f : Int32} : ZM G mX8_addWish 4 1 6 [.ref 0, .int kd, .int s, .int s2, .int f] (zw X Y O) (zTh eIOOBE (zw X Y O)) := by
  refine ZM.go pX8 rfl rfl (zle rfl) (zl := [some (.ref 0), some (.int kd), some (.int s), some (.int s2), some (.int f)]) rfl ?_
  refine z_aload_n (i := 0) dX8_addWish_0 rfl rfl (q := 1) rfl ?_
  refine z_iload_n (i := 2) dX8_addWish_1 rfl rfl (q := 2) rfl ?_
  exact z_callVT (As := [_]) dX8_addWish_2 kX8_106 (c_X8_requireShape_out hn h) (wo_x _ _ _) rfl rfl rfl (zle rfl) ⟨zle rfl, zle rfl⟩ ⟨zle rfl, zle rfl⟩ ⟨rfl, rfl⟩
set_option maxRecDepth 100000 in
set_option maxHeartbeats 4000000 in
theorem c_X8_addWish_out2 {n k : Nat} {kd s f : Int32} (hn : X.1 0 = nI n) (h4 : n ≤ 4) (hk : k < n) (h : s < 0 ∨ nI n ≤ s) : ZM G mX8_addWish 4 1 6 [.ref 0, .int kd, .int (nI k), .int s, .int f] (zw X Y O) (zTh eIOOBE (zw X Y O)) := by
  refine ZM.go pX8 rfl rfl (zle rfl) (zl := [some (.ref 0), some (.int kd), some (.int (nI k)), some (.int s), some (.int f)]) rfl ?_
  refine z_aload_n (i := 0) dX8_addWish_0 rfl rfl (q := 1) rfl ?_
  refine z_iload_n (i := 2) dX8_addWish_1 rfl rfl (q := 2) rfl ?_
  refine z_callVF (As := [_]) dX8_addWish_2 kX8_106 (c_X8_requireShape hn h4 hk) (wo_x _ _ _) rfl rfl (zle rfl) ⟨zle rfl, zle rfl⟩ ⟨zle rfl, zle rfl⟩ (q := 5) rfl ?_
  refine z_aload_n (i := 0) dX8_addWish_5 rfl rfl (q := 6) rfl ?_
  refine z_iload_n (i := 3) dX8_addWish_6 rfl rfl (q := 7) rfl ?_
  exact z_callVT (As := [_]) dX8_addWish_7 kX8_106 (c_X8_requireShape_out hn h) (wo_x _ _ _) rfl rfl rfl (zle rfl) ⟨zle rfl, zle rfl⟩ ⟨zle rfl, zle rfl⟩ ⟨rfl, rfl⟩
set_option maxRecDepth 100000 in
set_option maxHeartbeats 4000000 in
theorem c_X8_dropWish {nw k : Nat} (h6 : X.1 6 = nI nw) (hk : k < nw) (hw : nw ≤ 8) (h : X.2.1 10 k = 0) : ZM G mX8_dropWish 3 1 6 [.ref 0, .int (nI k)] (zw X Y O) (zR (.inl (some (.int (rcnt (fun j => upd (X.2.1 10) k 1 j = 0) 0 nw 0)))) (zw (xrow X 10 (upd (X.2.1 10) k 1) (X.1 10)) Y O)) := by
  refine ZM.go pX8 rfl rfl (zle rfl) (zl := [some (.ref 0), some (.int (nI k))]) rfl ?_
  refine z_aload_n (i := 0) dX8_dropWish_0 rfl rfl (q := 1) rfl ?_
  refine z_iload_n (i := 1) dX8_dropWish_1 rfl rfl (q := 2) rfl ?_
  refine z_callVF (As := [_]) dX8_dropWish_2 kX8_190 (c_X8_requireWish h6 hk hw h) (wo_x _ _ _) rfl rfl (zle rfl) ⟨zle rfl, zle rfl⟩ ⟨zle rfl, zle rfl⟩ (q := 5) rfl ?_
  refine z_aload_n (i := 0) dX8_dropWish_5 rfl rfl (q := 6) rfl ?_
  refine z_get dX8_dropWish_6 fX8_34 (wo_x _ _ _) rfl (q := 9) rfl ?_
  refine z_iload_n (i := 1) dX8_dropWish_9 rfl rfl (q := 10) rfl ?_
  refine z_callVF (As := [_]) dX8_dropWish_10 kX8_193 (c_X7_remove (by omega)) (wo_wishes _ _ _) rfl rfl (zle rfl) ⟨zle rfl, zle rfl⟩ ⟨zle rfl, zle rfl⟩ (q := 13) rfl ?_
  refine z_aload_n (i := 0) dX8_dropWish_13 rfl rfl (q := 14) rfl ?_
  refine z_get dX8_dropWish_14 fX8_34 (wo_x _ _ _) rfl (q := 17) rfl ?_
  refine z_callVF (As := []) dX8_dropWish_17 kX8_196 (c_X7_presentCount (by simpa [xrow, va_up] using h6) hw) (wo_wishes _ _ _) rfl rfl (zle rfl) ⟨zle rfl, zle rfl⟩ ⟨zle rfl, zle rfl⟩ (q := 20) rfl ?_
  exact z_iret dX8_dropWish_20 rfl ⟨zle rfl, zle rfl⟩ ⟨rfl, rfl⟩
set_option maxRecDepth 100000 in
set_option maxHeartbeats 4000000 in
theorem c_X8_dropWish_dr {nw k : Nat} (h6 : X.1 6 = nI nw) (hk : k < nw) (hw : nw ≤ 8) (h : ¬ X.2.1 10 k = 0) : ZM G mX8_dropWish 3 1 6 [.ref 0, .int (nI k)] (zw X Y O) (zTh eNSE (zw X Y O)) := by
  refine ZM.go pX8 rfl rfl (zle rfl) (zl := [some (.ref 0), some (.int (nI k))]) rfl ?_
  refine z_aload_n (i := 0) dX8_dropWish_0 rfl rfl (q := 1) rfl ?_
  refine z_iload_n (i := 1) dX8_dropWish_1 rfl rfl (q := 2) rfl ?_
  exact z_callVT (As := [_]) dX8_dropWish_2 kX8_190 (c_X8_requireWish_dr h6 hk hw h) (wo_x _ _ _) rfl rfl rfl (zle rfl) ⟨zle rfl, zle rfl⟩ ⟨zle rfl, zle rfl⟩ ⟨rfl, rfl⟩
set_option maxRecDepth 100000 in
set_option maxHeartbeats 4000000 in
theorem c_X8_isMet_dr {nw k : Nat} (h6 : X.1 6 = nI nw) (hk : k < nw) (hw : nw ≤ 8) (h : ¬ X.2.1 10 k = 0) : ZM G mX8_isMet 3 1 6 [.ref 0, .int (nI k)] (zw X Y O) (zTh eNSE (zw X Y O)) := by
  refine ZM.go pX8 rfl rfl (zle rfl) (zl := [some (.ref 0), some (.int (nI k))]) rfl ?_
  refine z_aload_n (i := 0) dX8_isMet_0 rfl rfl (q := 1) rfl ?_
  refine z_iload_n (i := 1) dX8_isMet_1 rfl rfl (q := 2) rfl ?_
  exact z_callVT (As := [_]) dX8_isMet_2 kX8_190 (c_X8_requireWish_dr h6 hk hw h) (wo_x _ _ _) rfl rfl rfl (zle rfl) ⟨zle rfl, zle rfl⟩ ⟨zle rfl, zle rfl⟩ ⟨rfl, rfl⟩
set_option maxRecDepth 100000 in
set_option maxHeartbeats 4000000 in
theorem c_X8_dropWish_out {nw : Nat} {s : Int32} (h6 : X.1 6 = nI nw) (h : s < 0 ∨ nI nw ≤ s) : ZM G mX8_dropWish 3 1 6 [.ref 0, .int (s)] (zw X Y O) (zTh eNSE (zw X Y O)) := by
  refine ZM.go pX8 rfl rfl (zle rfl) (zl := [some (.ref 0), some (.int (s))]) rfl ?_
  refine z_aload_n (i := 0) dX8_dropWish_0 rfl rfl (q := 1) rfl ?_
  refine z_iload_n (i := 1) dX8_dropWish_1 rfl rfl (q := 2) rfl ?_
  exact z_callVT (As := [_]) dX8_dropWish_2 kX8_190 (c_X8_requireWish_out h6 h) (wo_x _ _ _) rfl rfl rfl (zle rfl) ⟨zle rfl, zle rfl⟩ ⟨zle rfl, zle rfl⟩ ⟨rfl, rfl⟩
set_option maxRecDepth 100000 in
set_option maxHeartbeats 4000000 in
theorem c_X8_isMet_out {nw : Nat} {s : Int32} (h6 : X.1 6 = nI nw) (h : s < 0 ∨ nI nw ≤ s) : ZM G mX8_isMet 3 1 6 [.ref 0, .int (s)] (zw X Y O) (zTh eNSE (zw X Y O)) := by
  refine ZM.go pX8 rfl rfl (zle rfl) (zl := [some (.ref 0), some (.int (s))]) rfl ?_
  refine z_aload_n (i := 0) dX8_isMet_0 rfl rfl (q := 1) rfl ?_
  refine z_iload_n (i := 1) dX8_isMet_1 rfl rfl (q := 2) rfl ?_
  exact z_callVT (As := [_]) dX8_isMet_2 kX8_190 (c_X8_requireWish_out h6 h) (wo_x _ _ _) rfl rfl rfl (zle rfl) ⟨zle rfl, zle rfl⟩ ⟨zle rfl, zle rfl⟩ ⟨rfl, rfl⟩
set_option maxRecDepth 100000 in
set_option maxHeartbeats 4000000 in
def wmet (X : zX) (t k : Nat) (a b : Nat) : Prop := 2 * X.2.1 (2 * t) a + zedge (X.2.1 6 k) * X.2.1 (2 * t + 1) a = 2 * X.2.1 (2 * t) b + zedge (X.2.1 6 k) * X.2.1 (2 * t + 1) b
set_option maxRecDepth 100000 in
set_option maxHeartbeats 4000000 in
theorem zaxis_if {t : Nat} {p : Prop} [Decidable p] (h : p ↔ t = 0) (ht : t < 2) : (if p then (120 : Int32) else 121) = zch t := by
  by_cases h1 : p
  · rw [if_pos h1, h.mp h1]; rfl
  · rw [if_neg h1, show t = 1 by have h2 := mt h.mpr h1; omega]; rfl
set_option maxRecDepth 100000 in
set_option maxHeartbeats 4000000 in
theorem c_X8_isMet_0 {a b : Nat} {nw k : Nat} (h6 : X.1 6 = nI nw) (hk : k < nw) (hw : nw ≤ 8) (h : X.2.1 10 k = 0) (ha : a < 4) (hb : b < 4) (h7 : X.2.1 7 k = nI a) (h8 : X.2.1 8 k = nI b) (hx : zkx (X.2.1 6 k)) : ZM G mX8_isMet 3 1 6 [.ref 0, .int (nI k)] (zw X Y O) (zEq (some (.int (zb (2 * X.2.1 (2 * 0) a + zedge (X.2.1 6 k) * X.2.1 (2 * 0 + 1) a = 2 * X.2.1 (2 * 0) b + zedge (X.2.1 6 k) * X.2.1 (2 * 0 + 1) b)))) (zw X Y O)) := by
  refine ZM.go pX8 rfl rfl (zle rfl) (zl := [some (.ref 0), some (.int (nI k))]) rfl ?_
  refine z_aload_n (i := 0) dX8_isMet_0 rfl rfl (q := 1) rfl ?_
  refine z_iload_n (i := 1) dX8_isMet_1 rfl rfl (q := 2) rfl ?_
  refine z_callVF (As := [_]) dX8_isMet_2 kX8_190 (c_X8_requireWish h6 hk hw h) (wo_x _ _ _) rfl rfl (zle rfl) ⟨zle rfl, zle rfl⟩ ⟨zle rfl, zle rfl⟩ (q := 5) rfl ?_
  refine z_aload_n (i := 0) dX8_isMet_5 rfl rfl (q := 6) rfl ?_
  refine z_get dX8_isMet_6 fX8_34 (wo_x _ _ _) rfl (q := 9) rfl ?_
  refine z_aload_n (i := 0) dX8_isMet_9 rfl rfl (q := 10) rfl ?_
  refine z_get dX8_isMet_10 fX8_34 (wo_x _ _ _) rfl (q := 13) rfl ?_
  refine z_iload_n (i := 1) dX8_isMet_13 rfl rfl (q := 14) rfl ?_
  refine z_callVF (As := [_]) dX8_isMet_14 kX8_199 (c_X7_axisAt (by omega)) (wo_wishes _ _ _) rfl rfl (zle rfl) ⟨zle rfl, zle rfl⟩ ⟨zle rfl, zle rfl⟩ (q := 17) rfl ?_
  rw [if_pos hx]
  refine z_bipush (v := 120) dX8_isMet_17 rfl (q := 19) rfl ?_
  refine z_icmp_ne (tgt := 29) dX8_isMet_19 (by decide) (q := 22) rfl (fun h19 => absurd h19 (by decide)) (fun h19 => ?_)
  refine z_aload_n (i := 0) dX8_isMet_22 rfl rfl (q := 23) rfl ?_
  refine z_get dX8_isMet_23 fX8_14 (wo_x _ _ _) rfl (q := 26) rfl ?_
  refine z_goto (tgt := 33) dX8_isMet_26 (by decide) ?_
  refine z_iload_n (i := 1) dX8_isMet_33 rfl rfl (q := 34) rfl ?_
  refine z_callVF (As := [_, _]) dX8_isMet_34 kX8_202 (c_X7_holdsIn (t := 0) (by decide) (by omega) ha hb h7 h8) (wo_wishes _ _ _) rfl rfl (zle rfl) ⟨zle rfl, zle rfl⟩ ⟨zle rfl, zle rfl⟩ (q := 37) rfl ?_
  exact z_zret dX8_isMet_37 rfl zb_n ⟨zle rfl, zle rfl⟩ ⟨rfl, rfl⟩
set_option maxRecDepth 100000 in
set_option maxHeartbeats 4000000 in
theorem c_X8_isMet_1 {a b : Nat} {nw k : Nat} (h6 : X.1 6 = nI nw) (hk : k < nw) (hw : nw ≤ 8) (h : X.2.1 10 k = 0) (ha : a < 4) (hb : b < 4) (h7 : X.2.1 7 k = nI a) (h8 : X.2.1 8 k = nI b) (hx : ¬ zkx (X.2.1 6 k)) : ZM G mX8_isMet 3 1 6 [.ref 0, .int (nI k)] (zw X Y O) (zEq (some (.int (zb (2 * X.2.1 (2 * 1) a + zedge (X.2.1 6 k) * X.2.1 (2 * 1 + 1) a = 2 * X.2.1 (2 * 1) b + zedge (X.2.1 6 k) * X.2.1 (2 * 1 + 1) b)))) (zw X Y O)) := by
  refine ZM.go pX8 rfl rfl (zle rfl) (zl := [some (.ref 0), some (.int (nI k))]) rfl ?_
  refine z_aload_n (i := 0) dX8_isMet_0 rfl rfl (q := 1) rfl ?_
  refine z_iload_n (i := 1) dX8_isMet_1 rfl rfl (q := 2) rfl ?_
  refine z_callVF (As := [_]) dX8_isMet_2 kX8_190 (c_X8_requireWish h6 hk hw h) (wo_x _ _ _) rfl rfl (zle rfl) ⟨zle rfl, zle rfl⟩ ⟨zle rfl, zle rfl⟩ (q := 5) rfl ?_
  refine z_aload_n (i := 0) dX8_isMet_5 rfl rfl (q := 6) rfl ?_
  refine z_get dX8_isMet_6 fX8_34 (wo_x _ _ _) rfl (q := 9) rfl ?_
  refine z_aload_n (i := 0) dX8_isMet_9 rfl rfl (q := 10) rfl ?_
  refine z_get dX8_isMet_10 fX8_34 (wo_x _ _ _) rfl (q := 13) rfl ?_
  refine z_iload_n (i := 1) dX8_isMet_13 rfl rfl (q := 14) rfl ?_
  refine z_callVF (As := [_]) dX8_isMet_14 kX8_199 (c_X7_axisAt (by omega)) (wo_wishes _ _ _) rfl rfl (zle rfl) ⟨zle rfl, zle rfl⟩ ⟨zle rfl, zle rfl⟩ (q := 17) rfl ?_
  rw [if_neg hx]
  refine z_bipush (v := 120) dX8_isMet_17 rfl (q := 19) rfl ?_
  refine z_icmp_ne (tgt := 29) dX8_isMet_19 (by decide) (q := 22) rfl (fun h19 => ?_) (fun h19 => absurd h19 (by decide))
  refine z_aload_n (i := 0) dX8_isMet_29 rfl rfl (q := 30) rfl ?_
  refine z_get dX8_isMet_30 fX8_18 (wo_x _ _ _) rfl (q := 33) rfl ?_
  refine z_iload_n (i := 1) dX8_isMet_33 rfl rfl (q := 34) rfl ?_
  refine z_callVF (As := [_, _]) dX8_isMet_34 kX8_202 (c_X7_holdsIn (t := 1) (by decide) (by omega) ha hb h7 h8) (wo_wishes _ _ _) rfl rfl (zle rfl) ⟨zle rfl, zle rfl⟩ ⟨zle rfl, zle rfl⟩ (q := 37) rfl ?_
  exact z_zret dX8_isMet_37 rfl zb_n ⟨zle rfl, zle rfl⟩ ⟨rfl, rfl⟩
end
