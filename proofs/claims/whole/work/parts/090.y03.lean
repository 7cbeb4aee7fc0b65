section
variable {G : zG} {X X1 : zX} {Y : zY} {O : zO}
set_option maxRecDepth 100000 in
set_option maxHeartbeats 4000000 in
theorem ixs {x : Int32} {n : Nat} (h : x = nI n) : 2 * x = nI (2 * n) := by rw [h, ix1]
set_option maxRecDepth 100000 in
set_option maxHeartbeats 4000000 in
theorem ixs1 {x : Int32} {n : Nat} (h : x = nI n) : 2 * x + 1 = nI (2 * n + 1) := by rw [h, ix21]
set_option maxRecDepth 100000 in
set_option maxHeartbeats 4000000 in
abbrev yadd (Y : zY) (n : Nat) (l t w h : Int32) : zY := yint (yarr (yarr (yint Y 0 0) 0 (upd (upd (Y.1 0) (2 * n) l) (2 * n + 1) t)) 1 (upd (upd (Y.1 1) (2 * n) w) (2 * n + 1) h)) 1 (nI (n + 1))
set_option maxRecDepth 100000 in
set_option maxHeartbeats 4000000 in
def B_addShape (X : zX) (Y : zY) (n : Nat) (l t w h : Int32) : Int32 × zY :=
  if ¬ (¬ w < 2 ∧ ¬ 200 < w) then (0, yth Y 1)
  else if ¬ (¬ h < 1 ∧ ¬ 120 < h) then (0, yth Y 1)
  else if ¬ zon 200 l w then (0, yth Y 1)
  else if ¬ zon 120 t h then (0, yth Y 1)
  else if nI n = 4 then (0, yth Y 2)
  else if ¬ rfirst (pover X (-1) l t w h) 0 n = -1 then (0, yth Y 3)
  else (nI n, yadd Y n l t w h)
set_option maxRecDepth 100000 in
set_option maxHeartbeats 4000000 in
theorem rel_add {n nw : Nat} (hR : rel X Y n nw) (hn : n < 4) (l t w h : Int32) : rel (xadd X n l t w h) (yadd Y n l t w h) (n + 1) nw := by
  obtain ⟨h1, h2, h3, h4, h5, h6, h7, h8, h9⟩ := hR
  refine ⟨rfl, h2, fun j hj => ?_, fun j hj hj4 => h4 j (by omega) hj4, h5, h6, h7, by omega, h9⟩
  show upd (upd (Y.1 0) (2 * n) l) (2 * n + 1) t (2 * j) = upd (X.2.1 0) n l j ∧ upd (upd (Y.1 0) (2 * n) l) (2 * n + 1) t (2 * j + 1) = upd (X.2.1 2) n t j ∧ upd (upd (Y.1 1) (2 * n) w) (2 * n + 1) h (2 * j) = upd (X.2.1 1) n w j ∧ upd (upd (Y.1 1) (2 * n) w) (2 * n + 1) h (2 * j + 1) = upd (X.2.1 3) n h j ∧ Y.1 2 j = upd (X.2.1 5) n 0 j ∧ Y.1 3 j = upd (X.2.1 4) n 0 j
  by_cases e : j = n
  · subst e
    have h := h4 j (Nat.le_refl _) hn
    rw [pk_un (by omega), pk_us, pk_us, pk_us, pk_us, pk_un (by omega), pk_us, pk_us, pk_us, pk_us, pk_us, pk_us]
    exact ⟨rfl, rfl, rfl, rfl, h.1, h.2⟩
  · have h := h3 j (by omega)
    rw [pk_un (by omega), pk_un (by omega), pk_un e, pk_un (by omega), pk_un (by omega), pk_un e, pk_un (by omega), pk_un (by omega), pk_un e, pk_un (by omega), pk_un (by omega), pk_un e, pk_un e, pk_un e]
    exact h
set_option maxRecDepth 100000 in
set_option maxHeartbeats 4000000 in
theorem c_X9_addShape {n nw : Nat} {l t w h : Int32} (hR : rel X Y n nw) : ZM G mX9_addShape 2 0 0 [.ref 77, .int l, .int t, .int w, .int h] (zw X1 Y O) (mR X1 O (B_addShape X Y n l t w h).1 (B_addShape X Y n l t w h).2) := by
  have h4 := rel_4 hR
  have hR0 : rel X (yint Y 0 0) n nw := rel_thr hR 0
  refine ZM.go pX9 rfl rfl (zle rfl) (zl := [some (.ref 77), some (.int l), some (.int t), some (.int w), some (.int h), none]) rfl ?_
  refine z_aload_n (i := 0) dX9_addShape_0 rfl rfl (q := 1) rfl ?_
  refine z_iconst (v := 0) dX9_addShape_1 rfl (q := 2) rfl ?_
  refine z_put dX9_addShape_2 fX9_60 (wm _ _ _) (zle rfl) (zfit_int _) (q := 5) rfl ?_
  refine Z.eqw (wmi_thrown _ _ _ _) ?_
  refine z_iload_n (i := 3) dX9_addShape_5 rfl rfl (q := 6) rfl ?_
  refine z_iconst (v := 2) dX9_addShape_6 rfl (q := 7) rfl ?_
  refine z_sipush (v := 200) dX9_addShape_7 rfl (q := 10) rfl ?_
  refine z_callSF (As := [_, _, _]) dX9_addShape_10 kX9_67 (c_X9_in ) rfl (zle rfl) ⟨zle rfl, zle rfl⟩ ⟨zle rfl, zle rfl⟩ (q := 13) rfl ?_
  refine z_if_eq (tgt := 50) dX9_addShape_13 (by decide) (q := 16) rfl (fun h13 => ?_) (fun h13 => ?_)
  · replace h13 := zb_0.mp h13
    refine z_iconst (v := 0) dX9_addShape_50 rfl (q := 51) rfl ?_
    refine z_istore dX9_addShape_51 (zle rfl) rfl (q := 53) rfl ?_
    refine z_aload_n (i := 0) dX9_addShape_53 rfl rfl (q := 54) rfl ?_
    refine z_iload dX9_addShape_54 rfl (q := 56) rfl ?_
    refine z_if_ne (tgt := 63) dX9_addShape_56 (by decide) (q := 59) rfl (fun h56 => absurd h56 (by decide)) (fun h56 => ?_)
    refine z_iconst (v := 1) dX9_addShape_59 rfl (q := 60) rfl ?_
    refine z_goto (tgt := 64) dX9_addShape_60 (by decide) ?_
    refine z_iconst (v := 1) dX9_addShape_64 rfl (q := 65) rfl ?_
    refine z_callVF (As := [_, _]) dX9_addShape_65 kX9_89 (c_X9_fails_t rfl (by decide)) (wm _ _ _) rfl rfl (zle rfl) ⟨zle rfl, zle rfl⟩ ⟨zle rfl, zle rfl⟩ (q := 68) rfl ?_
    refine z_if_ne (tgt := 119) dX9_addShape_68 (by decide) (q := 71) rfl (fun h68 => ?_) (fun h68 => absurd h68 (by decide))
    refine z_iconst (v := 0) dX9_addShape_119 rfl (q := 120) rfl ?_
    exact z_iret dX9_addShape_120 rfl ⟨zle rfl, zle rfl⟩ (by unfold B_addShape; rw [if_pos h13]; exact ⟨rfl, rfl⟩)
  · replace h13 := zb_1.mp h13
    refine z_iload dX9_addShape_16 rfl (q := 18) rfl ?_
    refine z_iconst (v := 1) dX9_addShape_18 rfl (q := 19) rfl ?_
    refine z_bipush (v := 120) dX9_addShape_19 rfl (q := 21) rfl ?_
    refine z_callSF (As := [_, _, _]) dX9_addShape_21 kX9_67 (c_X9_in ) rfl (zle rfl) ⟨zle rfl, zle rfl⟩ ⟨zle rfl, zle rfl⟩ (q := 24) rfl ?_
    refine z_if_eq (tgt := 50) dX9_addShape_24 (by decide) (q := 27) rfl (fun h24 => ?_) (fun h24 => ?_)
    · replace h24 := zb_0.mp h24
      refine z_iconst (v := 0) dX9_addShape_50 rfl (q := 51) rfl ?_
      refine z_istore dX9_addShape_51 (zle rfl) rfl (q := 53) rfl ?_
      refine z_aload_n (i := 0) dX9_addShape_53 rfl rfl (q := 54) rfl ?_
      refine z_iload dX9_addShape_54 rfl (q := 56) rfl ?_
      refine z_if_ne (tgt := 63) dX9_addShape_56 (by decide) (q := 59) rfl (fun h56 => absurd h56 (by decide)) (fun h56 => ?_)
      refine z_iconst (v := 1) dX9_addShape_59 rfl (q := 60) rfl ?_
      refine z_goto (tgt := 64) dX9_addShape_60 (by decide) ?_
      refine z_iconst (v := 1) dX9_addShape_64 rfl (q := 65) rfl ?_
      refine z_callVF (As := [_, _]) dX9_addShape_65 kX9_89 (c_X9_fails_t rfl (by decide)) (wm _ _ _) rfl rfl (zle rfl) ⟨zle rfl, zle rfl⟩ ⟨zle rfl, zle rfl⟩ (q := 68) rfl ?_
      refine z_if_ne (tgt := 119) dX9_addShape_68 (by decide) (q := 71) rfl (fun h68 => ?_) (fun h68 => absurd h68 (by decide))
      refine z_iconst (v := 0) dX9_addShape_119 rfl (q := 120) rfl ?_
      exact z_iret dX9_addShape_120 rfl ⟨zle rfl, zle rfl⟩ (by unfold B_addShape; rw [if_neg (fun h9 => h9 h13), if_pos h24]; exact ⟨rfl, rfl⟩)
    · replace h24 := zb_1.mp h24
      refine z_iconst (v := 0) dX9_addShape_27 rfl (q := 28) rfl ?_
      refine z_iload_n (i := 1) dX9_addShape_28 rfl rfl (q := 29) rfl ?_
      refine z_iload_n (i := 3) dX9_addShape_29 rfl rfl (q := 30) rfl ?_
      refine z_callSF (As := [_, _, _]) dX9_addShape_30 kX9_86 (c_X9_isOn0) rfl (zle rfl) ⟨zle rfl, zle rfl⟩ ⟨zle rfl, zle rfl⟩ (q := 33) rfl ?_
      refine z_if_eq (tgt := 50) dX9_addShape_33 (by decide) (q := 36) rfl (fun h33 => ?_) (fun h33 => ?_)
      · replace h33 := zb_0.mp h33
        refine z_iconst (v := 0) dX9_addShape_50 rfl (q := 51) rfl ?_
        refine z_istore dX9_addShape_51 (zle rfl) rfl (q := 53) rfl ?_
        refine z_aload_n (i := 0) dX9_addShape_53 rfl rfl (q := 54) rfl ?_
        refine z_iload dX9_addShape_54 rfl (q := 56) rfl ?_
        refine z_if_ne (tgt := 63) dX9_addShape_56 (by decide) (q := 59) rfl (fun h56 => absurd h56 (by decide)) (fun h56 => ?_)
        refine z_iconst (v := 1) dX9_addShape_59 rfl (q := 60) rfl ?_
        refine z_goto (tgt := 64) dX9_addShape_60 (by decide) ?_
        refine z_iconst (v := 1) dX9_addShape_64 rfl (q := 65) rfl ?_
        refine z_callVF (As := [_, _]) dX9_addShape_65 kX9_89 (c_X9_fails_t rfl (by decide)) (wm _ _ _) rfl rfl (zle rfl) ⟨zle rfl, zle rfl⟩ ⟨zle rfl, zle rfl⟩ (q := 68) rfl ?_
        refine z_if_ne (tgt := 119) dX9_addShape_68 (by decide) (q := 71) rfl (fun h68 => ?_) (fun h68 => absurd h68 (by decide))
        refine z_iconst (v := 0) dX9_addShape_119 rfl (q := 120) rfl ?_
        exact z_iret dX9_addShape_120 rfl ⟨zle rfl, zle rfl⟩ (by unfold B_addShape; rw [if_neg (fun h9 => h9 h13), if_neg (fun h9 => h9 h24), if_pos h33]; exact ⟨rfl, rfl⟩)
      · replace h33 := zb_1.mp h33
        refine z_iconst (v := 1) dX9_addShape_36 rfl (q := 37) rfl ?_
        refine z_iload_n (i := 2) dX9_addShape_37 rfl rfl (q := 38) rfl ?_
        refine z_iload dX9_addShape_38 rfl (q := 40) rfl ?_
        refine z_callSF (As := [_, _, _]) dX9_addShape_40 kX9_86 (c_X9_isOn1) rfl (zle rfl) ⟨zle rfl, zle rfl⟩ ⟨zle rfl, zle rfl⟩ (q := 43) rfl ?_
        refine z_if_eq (tgt := 50) dX9_addShape_43 (by decide) (q := 46) rfl (fun h43 => ?_) (fun h43 => ?_)
        · replace h43 := zb_0.mp h43
          refine z_iconst (v := 0) dX9_addShape_50 rfl (q := 51) rfl ?_
          refine z_istore dX9_addShape_51 (zle rfl) rfl (q := 53) rfl ?_
          refine z_aload_n (i := 0) dX9_addShape_53 rfl rfl (q := 54) rfl ?_
          refine z_iload dX9_addShape_54 rfl (q := 56) rfl ?_
          refine z_if_ne (tgt := 63) dX9_addShape_56 (by decide) (q := 59) rfl (fun h56 => absurd h56 (by decide)) (fun h56 => ?_)
          refine z_iconst (v := 1) dX9_addShape_59 rfl (q := 60) rfl ?_
          refine z_goto (tgt := 64) dX9_addShape_60 (by decide) ?_
          refine z_iconst (v := 1) dX9_addShape_64 rfl (q := 65) rfl ?_
          refine z_callVF (As := [_, _]) dX9_addShape_65 kX9_89 (c_X9_fails_t rfl (by decide)) (wm _ _ _) rfl rfl (zle rfl) ⟨zle rfl, zle rfl⟩ ⟨zle rfl, zle rfl⟩ (q := 68) rfl ?_
          refine z_if_ne (tgt := 119) dX9_addShape_68 (by decide) (q := 71) rfl (fun h68 => ?_) (fun h68 => absurd h68 (by decide))
          refine z_iconst (v := 0) dX9_addShape_119 rfl (q := 120) rfl ?_
          exact z_iret dX9_addShape_120 rfl ⟨zle rfl, zle rfl⟩ (by unfold B_addShape; rw [if_neg (fun h9 => h9 h13), if_neg (fun h9 => h9 h24), if_neg (fun h9 => h9 h33), if_pos h43]; exact ⟨rfl, rfl⟩)
        · replace h43 := zb_1.mp h43
          refine z_iconst (v := 1) dX9_addShape_46 rfl (q := 47) rfl ?_
          refine z_goto (tgt := 51) dX9_addShape_47 (by decide) ?_
          refine z_istore dX9_addShape_51 (zle rfl) rfl (q := 53) rfl ?_
          refine z_aload_n (i := 0) dX9_addShape_53 rfl rfl (q := 54) rfl ?_
          refine z_iload dX9_addShape_54 rfl (q := 56) rfl ?_
          refine z_if_ne (tgt := 63) dX9_addShape_56 (by decide) (q := 59) rfl (fun h56 => ?_) (fun h56 => absurd h56 (by decide))
          refine z_iconst (v := 0) dX9_addShape_63 rfl (q := 64) rfl ?_
          refine z_iconst (v := 1) dX9_addShape_64 rfl (q := 65) rfl ?_
          refine z_callVF (As := [_, _]) dX9_addShape_65 kX9_89 (c_X9_fails_f rfl) (wm _ _ _) rfl rfl (zle rfl) ⟨zle rfl, zle rfl⟩ ⟨zle rfl, zle rfl⟩ (q := 68) rfl ?_
          refine z_if_ne (tgt := 119) dX9_addShape_68 (by decide) (q := 71) rfl (fun h68 => absurd h68 (by decide)) (fun h68 => ?_)
          refine z_aload_n (i := 0) dX9_addShape_71 rfl rfl (q := 72) rfl ?_
          refine z_aload_n (i := 0) dX9_addShape_72 rfl rfl (q := 73) rfl ?_
          refine z_get dX9_addShape_73 fX9_64 (wm _ _ _) rfl (q := 76) rfl ?_
          rw [hR0.1]
          refine z_iconst (v := 4) dX9_addShape_76 rfl (q := 77) rfl ?_
          refine z_icmp_ne (tgt := 84) dX9_addShape_77 (by decide) (q := 80) rfl (fun h77 => ?_) (fun h77 => ?_)
          · refine z_iconst (v := 0) dX9_addShape_84 rfl (q := 85) rfl ?_
            refine z_iconst (v := 2) dX9_addShape_85 rfl (q := 86) rfl ?_
            refine z_callVF (As := [_, _]) dX9_addShape_86 kX9_89 (c_X9_fails_f rfl) (wm _ _ _) rfl rfl (zle rfl) ⟨zle rfl, zle rfl⟩ ⟨zle rfl, zle rfl⟩ (q := 89) rfl ?_
            refine z_if_ne (tgt := 119) dX9_addShape_89 (by decide) (q := 92) rfl (fun h89 => absurd h89 (by decide)) (fun h89 => ?_)
            refine z_aload_n (i := 0) dX9_addShape_92 rfl rfl (q := 93) rfl ?_
            refine z_aload_n (i := 0) dX9_addShape_93 rfl rfl (q := 94) rfl ?_
            refine z_iconst (v := (-1)) dX9_addShape_94 rfl (q := 95) rfl ?_
            refine z_iload_n (i := 1) dX9_addShape_95 rfl rfl (q := 96) rfl ?_
            refine z_iload_n (i := 2) dX9_addShape_96 rfl rfl (q := 97) rfl ?_
            refine z_iload_n (i := 3) dX9_addShape_97 rfl rfl (q := 98) rfl ?_
            refine z_iload dX9_addShape_98 rfl (q := 100) rfl ?_
            refine z_callVF (As := [_, _, _, _, _]) dX9_addShape_100 kX9_93 (c_X9_overlapped hR0) (wm _ _ _) rfl rfl (zle rfl) ⟨zle rfl, zle rfl⟩ ⟨zle rfl, zle rfl⟩ (q := 103) rfl ?_
            refine z_iconst (v := (-1)) dX9_addShape_103 rfl (q := 104) rfl ?_
            refine z_icmp_eq (tgt := 111) dX9_addShape_104 (by decide) (q := 107) rfl (fun h104 => ?_) (fun h104 => ?_)
            · refine z_iconst (v := 0) dX9_addShape_111 rfl (q := 112) rfl ?_
              refine z_iconst (v := 3) dX9_addShape_112 rfl (q := 113) rfl ?_
              refine z_callVF (As := [_, _]) dX9_addShape_113 kX9_89 (c_X9_fails_f rfl) (wm _ _ _) rfl rfl (zle rfl) ⟨zle rfl, zle rfl⟩ ⟨zle rfl, zle rfl⟩ (q := 116) rfl ?_
              refine z_if_eq (tgt := 121) dX9_addShape_116 (by decide) (q := 119) rfl (fun h116 => ?_) (fun h116 => absurd h116 (by decide))
              have hne : ¬ n = 4 := fun h9 => absurd (show nI n = 4 by rw [h9]; rfl) h77
              have hlt : n < 4 := by omega
              refine z_aload_n (i := 0) dX9_addShape_121 rfl rfl (q := 122) rfl ?_
              refine z_get dX9_addShape_122 fX9_7 (wm _ _ _) rfl (q := 125) rfl ?_
              refine z_iconst (v := 2) dX9_addShape_125 rfl (q := 126) rfl ?_
              refine z_aload_n (i := 0) dX9_addShape_126 rfl rfl (q := 127) rfl ?_
              refine z_get dX9_addShape_127 fX9_64 (wm _ _ _) rfl (q := 130) rfl ?_
              refine z_imul dX9_addShape_130 (q := 131) rfl ?_
              refine z_iload_n (i := 1) dX9_addShape_131 rfl rfl (q := 132) rfl ?_
              refine Z.eqst (st2 := [.int l, .int (nI (2 * n)), .ref 78]) (congrArg (fun x => [Value.int l, Value.int x, Value.ref 78]) (ixs hR.1)) ?_
              refine z_iast dX9_addShape_132 (wma_start _ _ _) (zin (k := 2 * n) (by omega) (by decide)) (q := 133) rfl ?_
              refine Z.eqw (wms_start _ _ _ _) ?_
              rw [nI_clamp (by omega)]
              refine z_aload_n (i := 0) dX9_addShape_133 rfl rfl (q := 134) rfl ?_
              refine z_get dX9_addShape_134 fX9_7 (wm _ _ _) rfl (q := 137) rfl ?_
              refine z_iconst (v := 2) dX9_addShape_137 rfl (q := 138) rfl ?_
              refine z_aload_n (i := 0) dX9_addShape_138 rfl rfl (q := 139) rfl ?_
              refine z_get dX9_addShape_139 fX9_64 (wm _ _ _) rfl (q := 142) rfl ?_
              refine z_imul dX9_addShape_142 (q := 143) rfl ?_
              refine z_iconst (v := 1) dX9_addShape_143 rfl (q := 144) rfl ?_
              refine z_iadd dX9_addShape_144 (q := 145) rfl ?_
              refine z_iload_n (i := 2) dX9_addShape_145 rfl rfl (q := 146) rfl ?_
              refine Z.eqst (st2 := [.int t, .int (nI (2 * n + 1)), .ref 78]) (congrArg (fun x => [Value.int t, Value.int x, Value.ref 78]) (ixs1 hR.1)) ?_
              refine z_iast dX9_addShape_146 (wma_start _ _ _) (zin (k := 2 * n + 1) (by omega) (by decide)) (q := 147) rfl ?_
              refine Z.eqw (wms_start _ _ _ _) ?_
              rw [nI_clamp (by omega)]
              rw [yarr_yarr, yarr_f]
              refine z_aload_n (i := 0) dX9_addShape_147 rfl rfl (q := 148) rfl ?_
              refine z_get dX9_addShape_148 fX9_13 (wm _ _ _) rfl (q := 151) rfl ?_
              refine z_iconst (v := 2) dX9_addShape_151 rfl (q := 152) rfl ?_
              refine z_aload_n (i := 0) dX9_addShape_152 rfl rfl (q := 153) rfl ?_
              refine z_get dX9_addShape_153 fX9_64 (wm _ _ _) rfl (q := 156) rfl ?_
              refine z_imul dX9_addShape_156 (q := 157) rfl ?_
              refine z_iload_n (i := 3) dX9_addShape_157 rfl rfl (q := 158) rfl ?_
              refine Z.eqst (st2 := [.int w, .int (nI (2 * n)), .ref 79]) (congrArg (fun x => [Value.int w, Value.int x, Value.ref 79]) (ixs hR.1)) ?_
              refine z_iast dX9_addShape_158 (wma_size _ _ _) (zin (k := 2 * n) (by omega) (by decide)) (q := 159) rfl ?_
              refine Z.eqw (wms_size _ _ _ _) ?_
              rw [nI_clamp (by omega)]
              refine z_aload_n (i := 0) dX9_addShape_159 rfl rfl (q := 160) rfl ?_
              refine z_get dX9_addShape_160 fX9_13 (wm _ _ _) rfl (q := 163) rfl ?_
              refine z_iconst (v := 2) dX9_addShape_163 rfl (q := 164) rfl ?_
              refine z_aload_n (i := 0) dX9_addShape_164 rfl rfl (q := 165) rfl ?_
              refine z_get dX9_addShape_165 fX9_64 (wm _ _ _) rfl (q := 168) rfl ?_
              refine z_imul dX9_addShape_168 (q := 169) rfl ?_
              refine z_iconst (v := 1) dX9_addShape_169 rfl (q := 170) rfl ?_
              refine z_iadd dX9_addShape_170 (q := 171) rfl ?_
              refine z_iload dX9_addShape_171 rfl (q := 173) rfl ?_
              refine Z.eqst (st2 := [.int h, .int (nI (2 * n + 1)), .ref 79]) (congrArg (fun x => [Value.int h, Value.int x, Value.ref 79]) (ixs1 hR.1)) ?_
              refine z_iast dX9_addShape_173 (wma_size _ _ _) (zin (k := 2 * n + 1) (by omega) (by decide)) (q := 174) rfl ?_
              refine Z.eqw (wms_size _ _ _ _) ?_
              rw [nI_clamp (by omega)]
              rw [yarr_yarr, yarr_f]
              refine z_aload_n (i := 0) dX9_addShape_174 rfl rfl (q := 175) rfl ?_
              refine z_dup dX9_addShape_175 rfl (q := 176) rfl ?_
              refine z_get dX9_addShape_176 fX9_64 (wm _ _ _) rfl (q := 179) rfl ?_
              refine z_iconst (v := 1) dX9_addShape_179 rfl (q := 180) rfl ?_
              refine z_iadd dX9_addShape_180 (q := 181) rfl ?_
              refine z_put dX9_addShape_181 fX9_64 (wm _ _ _) (zle rfl) (zfit_int _) (q := 184) rfl ?_
              refine Z.eqw (wmi_shapes _ _ _ _) ?_
              refine z_aload_n (i := 0) dX9_addShape_184 rfl rfl (q := 185) rfl ?_
              refine z_get dX9_addShape_185 fX9_64 (wm _ _ _) rfl (q := 188) rfl ?_
              refine z_iconst (v := 1) dX9_addShape_188 rfl (q := 189) rfl ?_
              refine z_isub dX9_addShape_189 (q := 190) rfl ?_
              exact z_iret dX9_addShape_190 rfl ⟨zle rfl, zle rfl⟩ (by have e : B_addShape X Y n l t w h = (nI n, yadd Y n l t w h) := (by unfold B_addShape; rw [if_neg (fun h9 => h9 h13), if_neg (fun h9 => h9 h24), if_neg (fun h9 => h9 h33), if_neg (fun h9 => h9 h43), if_neg h77, if_neg (fun h9 => h9 h104)]); rw [e]; refine ⟨?_, ?_⟩; exact congrArg (fun x : Int32 => (Sum.inl (some (Value.int x)) : zRes)) (show Y.2.1 1 + 1 - 1 = nI n by rw [hR.1, nI_1, nI_pred]); exact congrArg (fun x => zw X1 (yint (yarr (yarr (yint Y 0 0) 0 (upd (upd (Y.1 0) (2 * n) l) (2 * n + 1) t)) 1 (upd (upd (Y.1 1) (2 * n) w) (2 * n + 1) h)) 1 x) O) (show Y.2.1 1 + 1 = nI (n + 1) by rw [hR.1, nI_1]))
            · refine z_iconst (v := 1) dX9_addShape_107 rfl (q := 108) rfl ?_
              refine z_goto (tgt := 112) dX9_addShape_108 (by decide) ?_
              refine z_iconst (v := 3) dX9_addShape_112 rfl (q := 113) rfl ?_
              refine z_callVF (As := [_, _]) dX9_addShape_113 kX9_89 (c_X9_fails_t rfl (by decide)) (wm _ _ _) rfl rfl (zle rfl) ⟨zle rfl, zle rfl⟩ ⟨zle rfl, zle rfl⟩ (q := 116) rfl ?_
              refine z_if_eq (tgt := 121) dX9_addShape_116 (by decide) (q := 119) rfl (fun h116 => absurd h116 (by decide)) (fun h116 => ?_)
              refine z_iconst (v := 0) dX9_addShape_119 rfl (q := 120) rfl ?_
              exact z_iret dX9_addShape_120 rfl ⟨zle rfl, zle rfl⟩ (by unfold B_addShape; rw [if_neg (fun h9 => h9 h13), if_neg (fun h9 => h9 h24), if_neg (fun h9 => h9 h33), if_neg (fun h9 => h9 h43), if_neg h77, if_pos h104]; exact ⟨rfl, rfl⟩)
          · refine z_iconst (v := 1) dX9_addShape_80 rfl (q := 81) rfl ?_
            refine z_goto (tgt := 85) dX9_addShape_81 (by decide) ?_
            refine z_iconst (v := 2) dX9_addShape_85 rfl (q := 86) rfl ?_
            refine z_callVF (As := [_, _]) dX9_addShape_86 kX9_89 (c_X9_fails_t rfl (by decide)) (wm _ _ _) rfl rfl (zle rfl) ⟨zle rfl, zle rfl⟩ ⟨zle rfl, zle rfl⟩ (q := 89) rfl ?_
            refine z_if_ne (tgt := 119) dX9_addShape_89 (by decide) (q := 92) rfl (fun h89 => ?_) (fun h89 => absurd h89 (by decide))
            refine z_iconst (v := 0) dX9_addShape_119 rfl (q := 120) rfl ?_
            exact z_iret dX9_addShape_120 rfl ⟨zle rfl, zle rfl⟩ (by unfold B_addShape; rw [if_neg (fun h9 => h9 h13), if_neg (fun h9 => h9 h24), if_neg (fun h9 => h9 h33), if_neg (fun h9 => h9 h43), if_pos h77]; exact ⟨rfl, rfl⟩)
set_option maxRecDepth 100000 in
set_option maxHeartbeats 4000000 in
def akd (c : Int32) : Int32 := if zkx c then 0 else if zky c then 1 else -1
set_option maxRecDepth 100000 in
set_option maxHeartbeats 4000000 in
theorem akd_no {c : Int32} : akd c = -1 ↔ ¬ (zkx c ∨ zky c) := by
  unfold akd
  by_cases h1 : zkx c
  · rw [if_pos h1]; exact ⟨fun h => absurd h (by decide), fun h => absurd (Or.inl h1) h⟩
  · rw [if_neg h1]
    by_cases h2 : zky c
    · rw [if_pos h2]; exact ⟨fun h => absurd h (by decide), fun h => absurd (Or.inr h2) h⟩
    · rw [if_neg h2]; exact ⟨fun _ h => h.elim h1 h2, fun _ => rfl⟩
set_option maxRecDepth 100000 in
set_option maxHeartbeats 4000000 in
theorem c_X9_axisOfKind {c : Int32} : ZM G mX9_axisOfKind 0 0 0 [.int c] (zw X1 Y O) (zEq (some (.int (akd c))) (zw X1 Y O)) := by
  refine ZM.go pX9 rfl rfl (zle rfl) (zl := [some (.int c)]) rfl ?_
  refine z_iload_n (i := 0) dX9_axisOfKind_0 rfl rfl (q := 1) rfl ?_
  refine z_bipush (v := 108) dX9_axisOfKind_1 rfl (q := 3) rfl ?_
  refine z_icmp_eq (tgt := 18) dX9_axisOfKind_3 (by decide) (q := 6) rfl (fun h3 => ?_) (fun h3 => ?_)
  · refine z_iconst (v := 0) dX9_axisOfKind_18 rfl (q := 19) rfl ?_
    refine z_goto (tgt := 45) dX9_axisOfKind_19 (by decide) ?_
    exact z_iret dX9_axisOfKind_45 rfl ⟨zle rfl, zle rfl⟩ ⟨by first | (rw [h3]; rfl) | (rw [h9]; rfl) | (rw [h15]; rfl) | (rw [h25]; rfl) | (rw [h31]; rfl) | (rw [h37]; rfl) | (unfold akd; rw [if_neg (fun h0 => h0.elim h3 (fun h0 => h0.elim h9 h15)), if_neg (fun h0 => h0.elim h25 (fun h0 => h0.elim h31 h37))]), rfl⟩
  · refine z_iload_n (i := 0) dX9_axisOfKind_6 rfl rfl (q := 7) rfl ?_
    refine z_bipush (v := 99) dX9_axisOfKind_7 rfl (q := 9) rfl ?_
    refine z_icmp_eq (tgt := 18) dX9_axisOfKind_9 (by decide) (q := 12) rfl (fun h9 => ?_) (fun h9 => ?_)
    · refine z_iconst (v := 0) dX9_axisOfKind_18 rfl (q := 19) rfl ?_
      refine z_goto (tgt := 45) dX9_axisOfKind_19 (by decide) ?_
      exact z_iret dX9_axisOfKind_45 rfl ⟨zle rfl, zle rfl⟩ ⟨by first | (rw [h3]; rfl) | (rw [h9]; rfl) | (rw [h15]; rfl) | (rw [h25]; rfl) | (rw [h31]; rfl) | (rw [h37]; rfl) | (unfold akd; rw [if_neg (fun h0 => h0.elim h3 (fun h0 => h0.elim h9 h15)), if_neg (fun h0 => h0.elim h25 (fun h0 => h0.elim h31 h37))]), rfl⟩
    · refine z_iload_n (i := 0) dX9_axisOfKind_12 rfl rfl (q := 13) rfl ?_
      refine z_bipush (v := 114) dX9_axisOfKind_13 rfl (q := 15) rfl ?_
      refine z_icmp_ne (tgt := 22) dX9_axisOfKind_15 (by decide) (q := 18) rfl (fun h15 => ?_) (fun h15 => ?_)
      · refine z_iload_n (i := 0) dX9_axisOfKind_22 rfl rfl (q := 23) rfl ?_
        refine z_bipush (v := 116) dX9_axisOfKind_23 rfl (q := 25) rfl ?_
        refine z_icmp_eq (tgt := 40) dX9_axisOfKind_25 (by decide) (q := 28) rfl (fun h25 => ?_) (fun h25 => ?_)
        · refine z_iconst (v := 1) dX9_axisOfKind_40 rfl (q := 41) rfl ?_
          refine z_goto (tgt := 45) dX9_axisOfKind_41 (by decide) ?_
          exact z_iret dX9_axisOfKind_45 rfl ⟨zle rfl, zle rfl⟩ ⟨by first | (rw [h3]; rfl) | (rw [h9]; rfl) | (rw [h15]; rfl) | (rw [h25]; rfl) | (rw [h31]; rfl) | (rw [h37]; rfl) | (unfold akd; rw [if_neg (fun h0 => h0.elim h3 (fun h0 => h0.elim h9 h15)), if_neg (fun h0 => h0.elim h25 (fun h0 => h0.elim h31 h37))]), rfl⟩
        · refine z_iload_n (i := 0) dX9_axisOfKind_28 rfl rfl (q := 29) rfl ?_
          refine z_bipush (v := 109) dX9_axisOfKind_29 rfl (q := 31) rfl ?_
          refine z_icmp_eq (tgt := 40) dX9_axisOfKind_31 (by decide) (q := 34) rfl (fun h31 => ?_) (fun h31 => ?_)
          · refine z_iconst (v := 1) dX9_axisOfKind_40 rfl (q := 41) rfl ?_
            refine z_goto (tgt := 45) dX9_axisOfKind_41 (by decide) ?_
            exact z_iret dX9_axisOfKind_45 rfl ⟨zle rfl, zle rfl⟩ ⟨by first | (rw [h3]; rfl) | (rw [h9]; rfl) | (rw [h15]; rfl) | (rw [h25]; rfl) | (rw [h31]; rfl) | (rw [h37]; rfl) | (unfold akd; rw [if_neg (fun h0 => h0.elim h3 (fun h0 => h0.elim h9 h15)), if_neg (fun h0 => h0.elim h25 (fun h0 => h0.elim h31 h37))]), rfl⟩
          · refine z_iload_n (i := 0) dX9_axisOfKind_34 rfl rfl (q := 35) rfl ?_
            refine z_bipush (v := 98) dX9_axisOfKind_35 rfl (q := 37) rfl ?_
            refine z_icmp_ne (tgt := 44) dX9_axisOfKind_37 (by decide) (q := 40) rfl (fun h37 => ?_) (fun h37 => ?_)
            · refine z_iconst (v := (-1)) dX9_axisOfKind_44 rfl (q := 45) rfl ?_
              exact z_iret dX9_axisOfKind_45 rfl ⟨zle rfl, zle rfl⟩ ⟨by first | (rw [h3]; rfl) | (rw [h9]; rfl) | (rw [h15]; rfl) | (rw [h25]; rfl) | (rw [h31]; rfl) | (rw [h37]; rfl) | (unfold akd; rw [if_neg (fun h0 => h0.elim h3 (fun h0 => h0.elim h9 h15)), if_neg (fun h0 => h0.elim h25 (fun h0 => h0.elim h31 h37))]), rfl⟩
            · refine z_iconst (v := 1) dX9_axisOfKind_40 rfl (q := 41) rfl ?_
              refine z_goto (tgt := 45) dX9_axisOfKind_41 (by decide) ?_
              exact z_iret dX9_axisOfKind_45 rfl ⟨zle rfl, zle rfl⟩ ⟨by first | (rw [h3]; rfl) | (rw [h9]; rfl) | (rw [h15]; rfl) | (rw [h25]; rfl) | (rw [h31]; rfl) | (rw [h37]; rfl) | (unfold akd; rw [if_neg (fun h0 => h0.elim h3 (fun h0 => h0.elim h9 h15)), if_neg (fun h0 => h0.elim h25 (fun h0 => h0.elim h31 h37))]), rfl⟩
      · refine z_iconst (v := 0) dX9_axisOfKind_18 rfl (q := 19) rfl ?_
        refine z_goto (tgt := 45) dX9_axisOfKind_19 (by decide) ?_
        exact z_iret dX9_axisOfKind_45 rfl ⟨zle rfl, zle rfl⟩ ⟨by first | (rw [h3]; rfl) | (rw [h9]; rfl) | (rw [h15]; rfl) | (rw [h25]; rfl) | (rw [h31]; rfl) | (rw [h37]; rfl) | (unfold akd; rw [if_neg (fun h0 => h0.elim h3 (fun h0 => h0.elim h9 h15)), if_neg (fun h0 => h0.elim h25 (fun h0 => h0.elim h31 h37))]), rfl⟩
set_option maxRecDepth 100000 in
set_option maxHeartbeats 4000000 in
theorem c_X9_noWish_out {n nw : Nat} {s : Int32} (hR : rel X Y n nw) (h : s < 0 ∨ nI nw ≤ s) : ZM G mX9_noWish 1 0 0 [.ref 77, .int s] (zw X1 Y O) (zEq (some (.int 1)) (zw X1 Y O)) := by
  have h8 := rel_8 hR
  refine ZM.go pX9 rfl rfl (zle rfl) (zl := [some (.ref 77), some (.int s)]) rfl ?_
  refine z_iload_n (i := 1) dX9_noWish_0 rfl rfl (q := 1) rfl ?_
  refine z_iconst (v := 0) dX9_noWish_1 rfl (q := 2) rfl ?_
  refine z_aload_n (i := 0) dX9_noWish_2 rfl rfl (q := 3) rfl ?_
  refine z_get dX9_noWish_3 fX9_132 (wm _ _ _) rfl (q := 6) rfl ?_
  refine z_iconst (v := 1) dX9_noWish_6 rfl (q := 7) rfl ?_
  refine z_isub dX9_noWish_7 (q := 8) rfl ?_
  rw [hR.2.1]
  refine z_callSF (As := [_, _, _]) dX9_noWish_8 kX9_67 (c_X9_in ) rfl (zle rfl) ⟨zle rfl, zle rfl⟩ ⟨zle rfl, zle rfl⟩ (q := 11) rfl ?_
  refine z_if_eq (tgt := 23) dX9_noWish_11 (by decide) (q := 14) rfl (fun h11 => ?_) (fun h11 => absurd (zb_1.mp h11) (nosh_out h8 h))
  refine z_iconst (v := 1) dX9_noWish_23 rfl (q := 24) rfl ?_
  refine z_goto (tgt := 28) dX9_noWish_24 (by decide) ?_
  exact z_zret dX9_noWish_28 rfl (by first | rfl | assumption | decide) ⟨zle rfl, zle rfl⟩ ⟨rfl, rfl⟩
set_option maxRecDepth 100000 in
set_option maxHeartbeats 4000000 in
theorem c_X9_noWish_in {n nw k : Nat} (hR : rel X Y n nw) (hk : k < nw) (h : X.2.1 10 k = 0) : ZM G mX9_noWish 1 0 0 [.ref 77, .int (nI k)] (zw X1 Y O) (zEq (some (.int 0)) (zw X1 Y O)) := by
  have h8 := rel_8 hR
  refine ZM.go pX9 rfl rfl (zle rfl) (zl := [some (.ref 77), some (.int (nI k))]) rfl ?_
  refine z_iload_n (i := 1) dX9_noWish_0 rfl rfl (q := 1) rfl ?_
  refine z_iconst (v := 0) dX9_noWish_1 rfl (q := 2) rfl ?_
  refine z_aload_n (i := 0) dX9_noWish_2 rfl rfl (q := 3) rfl ?_
  refine z_get dX9_noWish_3 fX9_132 (wm _ _ _) rfl (q := 6) rfl ?_
  refine z_iconst (v := 1) dX9_noWish_6 rfl (q := 7) rfl ?_
  refine z_isub dX9_noWish_7 (q := 8) rfl ?_
  rw [hR.2.1]
  refine z_callSF (As := [_, _, _]) dX9_noWish_8 kX9_67 (c_X9_in ) rfl (zle rfl) ⟨zle rfl, zle rfl⟩ ⟨zle rfl, zle rfl⟩ (q := 11) rfl ?_
  refine z_if_eq (tgt := 23) dX9_noWish_11 (by decide) (q := 14) rfl (fun h11 => absurd (nosh_in h8 hk) (zb_0.mp h11)) (fun h11 => ?_)
  refine z_aload_n (i := 0) dX9_noWish_14 rfl rfl (q := 15) rfl ?_
  refine z_get dX9_noWish_15 fX9_36 (wm _ _ _) rfl (q := 18) rfl ?_
  refine z_iload_n (i := 1) dX9_noWish_18 rfl rfl (q := 19) rfl ?_
  refine z_zald dX9_noWish_19 (wma_isDropped _ _ _) (zin (by omega) (by decide)) (q := 20) rfl ?_
  rw [nI_clamp (by omega), (hR.2.2.2.2.1 k hk).2.2.2.2]
  refine z_if_eq (tgt := 27) dX9_noWish_20 (by decide) (q := 23) rfl (fun h20 => ?_) (fun h20 => absurd h h20)
  refine z_iconst (v := 0) dX9_noWish_27 rfl (q := 28) rfl ?_
  exact z_zret dX9_noWish_28 rfl (by first | rfl | assumption | decide) ⟨zle rfl, zle rfl⟩ ⟨rfl, rfl⟩
set_option maxRecDepth 100000 in
set_option maxHeartbeats 4000000 in
theorem c_X9_noWish_dr {n nw k : Nat} (hR : rel X Y n nw) (hk : k < nw) (h : ¬ X.2.1 10 k = 0) : ZM G mX9_noWish 1 0 0 [.ref 77, .int (nI k)] (zw X1 Y O) (zEq (some (.int 1)) (zw X1 Y O)) := by
  have h8 := rel_8 hR
  refine ZM.go pX9 rfl rfl (zle rfl) (zl := [some (.ref 77), some (.int (nI k))]) rfl ?_
  refine z_iload_n (i := 1) dX9_noWish_0 rfl rfl (q := 1) rfl ?_
  refine z_iconst (v := 0) dX9_noWish_1 rfl (q := 2) rfl ?_
  refine z_aload_n (i := 0) dX9_noWish_2 rfl rfl (q := 3) rfl ?_
  refine z_get dX9_noWish_3 fX9_132 (wm _ _ _) rfl (q := 6) rfl ?_
  refine z_iconst (v := 1) dX9_noWish_6 rfl (q := 7) rfl ?_
  refine z_isub dX9_noWish_7 (q := 8) rfl ?_
  rw [hR.2.1]
  refine z_callSF (As := [_, _, _]) dX9_noWish_8 kX9_67 (c_X9_in ) rfl (zle rfl) ⟨zle rfl, zle rfl⟩ ⟨zle rfl, zle rfl⟩ (q := 11) rfl ?_
  refine z_if_eq (tgt := 23) dX9_noWish_11 (by decide) (q := 14) rfl (fun h11 => absurd (nosh_in h8 hk) (zb_0.mp h11)) (fun h11 => ?_)
  refine z_aload_n (i := 0) dX9_noWish_14 rfl rfl (q := 15) rfl ?_
  refine z_get dX9_noWish_15 fX9_36 (wm _ _ _) rfl (q := 18) rfl ?_
  refine z_iload_n (i := 1) dX9_noWish_18 rfl rfl (q := 19) rfl ?_
  refine z_zald dX9_noWish_19 (wma_isDropped _ _ _) (zin (by omega) (by decide)) (q := 20) rfl ?_
  rw [nI_clamp (by omega), (hR.2.2.2.2.1 k hk).2.2.2.2]
  refine z_if_eq (tgt := 27) dX9_noWish_20 (by decide) (q := 23) rfl (fun h20 => absurd h20 h) (fun h20 => ?_)
  refine z_iconst (v := 1) dX9_noWish_23 rfl (q := 24) rfl ?_
  refine z_goto (tgt := 28) dX9_noWish_24 (by decide) ?_
  exact z_zret dX9_noWish_28 rfl (by first | rfl | assumption | decide) ⟨zle rfl, zle rfl⟩ ⟨rfl, rfl⟩
set_option maxRecDepth 100000 in
set_option maxHeartbeats 4000000 in
abbrev ywish (Y : zY) (nw : Nat) (kd a b f : Int32) : zY := yint (yarr (yarr (yarr (yarr (yint Y 0 0) 4 (upd (Y.1 4) nw kd)) 5 (upd (Y.1 5) nw a)) 6 (upd (Y.1 6) nw b)) 7 (upd (Y.1 7) nw f)) 2 (nI (nw + 1))
set_option maxRecDepth 100000 in
set_option maxHeartbeats 4000000 in
def B_addWish (Y : zY) (nw : Nat) (kd a b f : Int32) : Int32 × zY :=
  if akd kd = -1 then (0, yth Y 2) else if a = b then (0, yth Y 2) else if ¬ (¬ f < 1 ∧ ¬ 9 < f) then (0, yth Y 2) else if nI nw = 8 then (0, yth Y 3)
  else (nI nw, ywish Y nw kd a b f)
set_option maxRecDepth 100000 in
set_option maxHeartbeats 4000000 in
theorem rel_wish {n nw : Nat} (hR : rel X Y n nw) (hn : nw < 8) (kd a b f : Int32) : rel (xwish X nw kd a b f) (ywish Y nw kd a b f) n (nw + 1) := by
  obtain ⟨h1, h2, h3, h4, h5, h6, h7, h8, h9⟩ := hR
  refine ⟨h1, rfl, h3, h4, fun j hj => ?_, fun j hj hj4 => h6 j (by omega) hj4, h7, h8, by omega⟩
  show upd (Y.1 4) nw kd j = upd (X.2.1 6) nw kd j ∧ upd (Y.1 5) nw a j = upd (X.2.1 7) nw a j ∧ upd (Y.1 6) nw b j = upd (X.2.1 8) nw b j ∧ upd (Y.1 7) nw f j = upd (X.2.1 9) nw f j ∧ Y.1 8 j = upd (X.2.1 10) nw 0 j
  by_cases e : j = nw
  · subst e
    rw [pk_us, pk_us, pk_us, pk_us, pk_us, pk_us, pk_us, pk_us, pk_us]
    exact ⟨rfl, rfl, rfl, rfl, h6 j (Nat.le_refl _) hn⟩
  · have h := h5 j (by omega)
    rw [pk_un e, pk_un e, pk_un e, pk_un e, pk_un e, pk_un e, pk_un e, pk_un e, pk_un e]
    exact h
set_option maxRecDepth 100000 in
set_option maxHeartbeats 4000000 in
theorem kd_nar {c : Int32} (h : zkx c ∨ zky c) : vp_nar .char c = c := by
  rcases h with (h | h | h) | (h | h | h) <;> rw [h] <;> decide
set_option maxRecDepth 100000 in
set_option maxHeartbeats 4000000 in
theorem c_X9_addWish {n nw a b : Nat} {kd f : Int32} (hR : rel X Y n nw) (ha : a < n) (hb : b < n) : ZM G mX9_addWish 2 0 0 [.ref 77, .int kd, .int (nI a), .int (nI b), .int f] (zw X1 Y O) (mR X1 O (B_addWish Y nw kd (nI a) (nI b) f).1 (B_addWish Y nw kd (nI a) (nI b) f).2) := by
  have h4 := rel_4 hR
  have hR0 : rel X (yint Y 0 0) n nw := rel_thr hR 0
  have h8 := rel_8 hR
  refine ZM.go pX9 rfl rfl (zle rfl) (zl := [some (.ref 77), some (.int kd), some (.int (nI a)), some (.int (nI b)), some (.int f)]) rfl ?_
  refine z_aload_n (i := 0) dX9_addWish_0 rfl rfl (q := 1) rfl ?_
  refine z_iconst (v := 0) dX9_addWish_1 rfl (q := 2) rfl ?_
  refine z_put dX9_addWish_2 fX9_60 (wm _ _ _) (zle rfl) (zfit_int _) (q := 5) rfl ?_
  refine Z.eqw (wmi_thrown _ _ _ _) ?_
  refine z_aload_n (i := 0) dX9_addWish_5 rfl rfl (q := 6) rfl ?_
  refine z_aload_n (i := 0) dX9_addWish_6 rfl rfl (q := 7) rfl ?_
  refine z_iload_n (i := 2) dX9_addWish_7 rfl rfl (q := 8) rfl ?_
  refine z_callVF (As := [_]) dX9_addWish_8 kX9_97 (c_X9_noShape_in hR0 ha) (wm _ _ _) rfl rfl (zle rfl) ⟨zle rfl, zle rfl⟩ ⟨zle rfl, zle rfl⟩ (q := 11) rfl ?_
  refine z_if_ne (tgt := 22) dX9_addWish_11 (by decide) (q := 14) rfl (fun h11 => absurd h11 (by decide)) (fun h11 => ?_)
  refine z_aload_n (i := 0) dX9_addWish_14 rfl rfl (q := 15) rfl ?_
  refine z_iload_n (i := 3) dX9_addWish_15 rfl rfl (q := 16) rfl ?_
  refine z_callVF (As := [_]) dX9_addWish_16 kX9_97 (c_X9_noShape_in hR0 hb) (wm _ _ _) rfl rfl (zle rfl) ⟨zle rfl, zle rfl⟩ ⟨zle rfl, zle rfl⟩ (q := 19) rfl ?_
  refine z_if_eq (tgt := 26) dX9_addWish_19 (by decide) (q := 22) rfl (fun h19 => ?_) (fun h19 => absurd h19 (by decide))
  refine z_iconst (v := 0) dX9_addWish_26 rfl (q := 27) rfl ?_
  refine z_iconst (v := 1) dX9_addWish_27 rfl (q := 28) rfl ?_
  refine z_callVF (As := [_, _]) dX9_addWish_28 kX9_89 (c_X9_fails_f rfl) (wm _ _ _) rfl rfl (zle rfl) ⟨zle rfl, zle rfl⟩ ⟨zle rfl, zle rfl⟩ (q := 31) rfl ?_
  refine z_if_ne (tgt := 93) dX9_addWish_31 (by decide) (q := 34) rfl (fun h31 => absurd h31 (by decide)) (fun h31 => ?_)
  refine z_aload_n (i := 0) dX9_addWish_34 rfl rfl (q := 35) rfl ?_
  refine z_iload_n (i := 1) dX9_addWish_35 rfl rfl (q := 36) rfl ?_
  refine z_callSF (As := [_]) dX9_addWish_36 kX9_129 (c_X9_axisOfKind ) rfl (zle rfl) ⟨zle rfl, zle rfl⟩ ⟨zle rfl, zle rfl⟩ (q := 39) rfl ?_
  refine z_iconst (v := (-1)) dX9_addWish_39 rfl (q := 40) rfl ?_
  refine z_icmp_eq (tgt := 59) dX9_addWish_40 (by decide) (q := 43) rfl (fun h40 => ?_) (fun h40 => ?_)
  · refine z_iconst (v := 1) dX9_addWish_59 rfl (q := 60) rfl ?_
    refine z_goto (tgt := 64) dX9_addWish_60 (by decide) ?_
    refine z_iconst (v := 2) dX9_addWish_64 rfl (q := 65) rfl ?_
    refine z_callVF (As := [_, _]) dX9_addWish_65 kX9_89 (c_X9_fails_t rfl (by decide)) (wm _ _ _) rfl rfl (zle rfl) ⟨zle rfl, zle rfl⟩ ⟨zle rfl, zle rfl⟩ (q := 68) rfl ?_
    refine z_if_ne (tgt := 93) dX9_addWish_68 (by decide) (q := 71) rfl (fun h68 => ?_) (fun h68 => absurd h68 (by decide))
    refine z_iconst (v := 0) dX9_addWish_93 rfl (q := 94) rfl ?_
    exact z_iret dX9_addWish_94 rfl ⟨zle rfl, zle rfl⟩ (by unfold B_addWish; rw [if_pos h40]; exact ⟨rfl, rfl⟩)
  · refine z_iload_n (i := 2) dX9_addWish_43 rfl rfl (q := 44) rfl ?_
    refine z_iload_n (i := 3) dX9_addWish_44 rfl rfl (q := 45) rfl ?_
    refine z_icmp_eq (tgt := 59) dX9_addWish_45 (by decide) (q := 48) rfl (fun h45 => ?_) (fun h45 => ?_)
    · refine z_iconst (v := 1) dX9_addWish_59 rfl (q := 60) rfl ?_
      refine z_goto (tgt := 64) dX9_addWish_60 (by decide) ?_
      refine z_iconst (v := 2) dX9_addWish_64 rfl (q := 65) rfl ?_
      refine z_callVF (As := [_, _]) dX9_addWish_65 kX9_89 (c_X9_fails_t rfl (by decide)) (wm _ _ _) rfl rfl (zle rfl) ⟨zle rfl, zle rfl⟩ ⟨zle rfl, zle rfl⟩ (q := 68) rfl ?_
      refine z_if_ne (tgt := 93) dX9_addWish_68 (by decide) (q := 71) rfl (fun h68 => ?_) (fun h68 => absurd h68 (by decide))
      refine z_iconst (v := 0) dX9_addWish_93 rfl (q := 94) rfl ?_
      exact z_iret dX9_addWish_94 rfl ⟨zle rfl, zle rfl⟩ (by unfold B_addWish; rw [if_neg h40, if_pos h45]; exact ⟨rfl, rfl⟩)
    · refine z_iload dX9_addWish_48 rfl (q := 50) rfl ?_
      refine z_iconst (v := 1) dX9_addWish_50 rfl (q := 51) rfl ?_
      refine z_bipush (v := 9) dX9_addWish_51 rfl (q := 53) rfl ?_
      refine z_callSF (As := [_, _, _]) dX9_addWish_53 kX9_67 (c_X9_in ) rfl (zle rfl) ⟨zle rfl, zle rfl⟩ ⟨zle rfl, zle rfl⟩ (q := 56) rfl ?_
      refine z_if_ne (tgt := 63) dX9_addWish_56 (by decide) (q := 59) rfl (fun h56 => ?_) (fun h56 => ?_)
      · replace h56 := zb_1.mp h56
        refine z_iconst (v := 0) dX9_addWish_63 rfl (q := 64) rfl ?_
        refine z_iconst (v := 2) dX9_addWish_64 rfl (q := 65) rfl ?_
        refine z_callVF (As := [_, _]) dX9_addWish_65 kX9_89 (c_X9_fails_f rfl) (wm _ _ _) rfl rfl (zle rfl) ⟨zle rfl, zle rfl⟩ ⟨zle rfl, zle rfl⟩ (q := 68) rfl ?_
        refine z_if_ne (tgt := 93) dX9_addWish_68 (by decide) (q := 71) rfl (fun h68 => absurd h68 (by decide)) (fun h68 => ?_)
        refine z_aload_n (i := 0) dX9_addWish_71 rfl rfl (q := 72) rfl ?_
        refine z_aload_n (i := 0) dX9_addWish_72 rfl rfl (q := 73) rfl ?_
        refine z_get dX9_addWish_73 fX9_132 (wm _ _ _) rfl (q := 76) rfl ?_
        rw [hR0.2.1]
        refine z_bipush (v := 8) dX9_addWish_76 rfl (q := 78) rfl ?_
        refine z_icmp_ne (tgt := 85) dX9_addWish_78 (by decide) (q := 81) rfl (fun h78 => ?_) (fun h78 => ?_)
        · refine z_iconst (v := 0) dX9_addWish_85 rfl (q := 86) rfl ?_
          refine z_iconst (v := 3) dX9_addWish_86 rfl (q := 87) rfl ?_
          refine z_callVF (As := [_, _]) dX9_addWish_87 kX9_89 (c_X9_fails_f rfl) (wm _ _ _) rfl rfl (zle rfl) ⟨zle rfl, zle rfl⟩ ⟨zle rfl, zle rfl⟩ (q := 90) rfl ?_
          refine z_if_eq (tgt := 95) dX9_addWish_90 (by decide) (q := 93) rfl (fun h90 => ?_) (fun h90 => absurd h90 (by decide))
          have hne : ¬ nw = 8 := fun h9 => absurd (show nI nw = 8 by rw [h9]; rfl) h78
          have hlt : nw < 8 := by omega
          have hkd : zkx kd ∨ zky kd := Classical.byContradiction fun h9 => h40 (akd_no.mpr h9)
          refine z_aload_n (i := 0) dX9_addWish_95 rfl rfl (q := 96) rfl ?_
          refine z_get dX9_addWish_96 fX9_23 (wm _ _ _) rfl (q := 99) rfl ?_
          refine z_aload_n (i := 0) dX9_addWish_99 rfl rfl (q := 100) rfl ?_
          refine z_get dX9_addWish_100 fX9_132 (wm _ _ _) rfl (q := 103) rfl ?_
          refine z_iload_n (i := 1) dX9_addWish_103 rfl rfl (q := 104) rfl ?_
          refine Z.eqst (st2 := [.int kd, .int (nI nw), .ref 82]) (congrArg (fun x => [Value.int kd, Value.int x, Value.ref 82]) hR.2.1) ?_
          refine z_cast dX9_addWish_104 (wma_kind _ _ _) (zin (k := nw) (by omega) (by decide)) (q := 105) rfl ?_
          refine Z.eqw (wms_kind _ _ _ _) ?_
          rw [nI_clamp (by omega)]
          rw [kd_nar hkd]
          refine z_aload_n (i := 0) dX9_addWish_105 rfl rfl (q := 106) rfl ?_
          refine z_get dX9_addWish_106 fX9_27 (wm _ _ _) rfl (q := 109) rfl ?_
          refine z_aload_n (i := 0) dX9_addWish_109 rfl rfl (q := 110) rfl ?_
          refine z_get dX9_addWish_110 fX9_132 (wm _ _ _) rfl (q := 113) rfl ?_
          refine z_iload_n (i := 2) dX9_addWish_113 rfl rfl (q := 114) rfl ?_
          refine Z.eqst (st2 := [.int (nI a), .int (nI nw), .ref 83]) (congrArg (fun x => [Value.int (nI a), Value.int x, Value.ref 83]) hR.2.1) ?_
          refine z_iast dX9_addWish_114 (wma_one _ _ _) (zin (k := nw) (by omega) (by decide)) (q := 115) rfl ?_
          refine Z.eqw (wms_one _ _ _ _) ?_
          rw [nI_clamp (by omega)]
          refine z_aload_n (i := 0) dX9_addWish_115 rfl rfl (q := 116) rfl ?_
          refine z_get dX9_addWish_116 fX9_30 (wm _ _ _) rfl (q := 119) rfl ?_
          refine z_aload_n (i := 0) dX9_addWish_119 rfl rfl (q := 120) rfl ?_
          refine z_get dX9_addWish_120 fX9_132 (wm _ _ _) rfl (q := 123) rfl ?_
          refine z_iload_n (i := 3) dX9_addWish_123 rfl rfl (q := 124) rfl ?_
          refine Z.eqst (st2 := [.int (nI b), .int (nI nw), .ref 84]) (congrArg (fun x => [Value.int (nI b), Value.int x, Value.ref 84]) hR.2.1) ?_
          refine z_iast dX9_addWish_124 (wma_two _ _ _) (zin (k := nw) (by omega) (by decide)) (q := 125) rfl ?_
          refine Z.eqw (wms_two _ _ _ _) ?_
          rw [nI_clamp (by omega)]
          refine z_aload_n (i := 0) dX9_addWish_125 rfl rfl (q := 126) rfl ?_
          refine z_get dX9_addWish_126 fX9_33 (wm _ _ _) rfl (q := 129) rfl ?_
          refine z_aload_n (i := 0) dX9_addWish_129 rfl rfl (q := 130) rfl ?_
          refine z_get dX9_addWish_130 fX9_132 (wm _ _ _) rfl (q := 133) rfl ?_
          refine z_iload dX9_addWish_133 rfl (q := 135) rfl ?_
          refine Z.eqst (st2 := [.int f, .int (nI nw), .ref 85]) (congrArg (fun x => [Value.int f, Value.int x, Value.ref 85]) hR.2.1) ?_
          refine z_iast dX9_addWish_135 (wma_force _ _ _) (zin (k := nw) (by omega) (by decide)) (q := 136) rfl ?_
          refine Z.eqw (wms_force _ _ _ _) ?_
          rw [nI_clamp (by omega)]
          refine z_aload_n (i := 0) dX9_addWish_136 rfl rfl (q := 137) rfl ?_
          refine z_dup dX9_addWish_137 rfl (q := 138) rfl ?_
          refine z_get dX9_addWish_138 fX9_132 (wm _ _ _) rfl (q := 141) rfl ?_
          refine z_iconst (v := 1) dX9_addWish_141 rfl (q := 142) rfl ?_
          refine z_iadd dX9_addWish_142 (q := 143) rfl ?_
          refine z_put dX9_addWish_143 fX9_132 (wm _ _ _) (zle rfl) (zfit_int _) (q := 146) rfl ?_
          refine Z.eqw (wmi_wishes _ _ _ _) ?_
          refine z_aload_n (i := 0) dX9_addWish_146 rfl rfl (q := 147) rfl ?_
          refine z_get dX9_addWish_147 fX9_132 (wm _ _ _) rfl (q := 150) rfl ?_
          refine z_iconst (v := 1) dX9_addWish_150 rfl (q := 151) rfl ?_
          refine z_isub dX9_addWish_151 (q := 152) rfl ?_
          exact z_iret dX9_addWish_152 rfl ⟨zle rfl, zle rfl⟩ (by have e : B_addWish Y nw kd (nI a) (nI b) f = (nI nw, ywish Y nw kd (nI a) (nI b) f) := (by unfold B_addWish; rw [if_neg h40, if_neg h45, if_neg (fun h9 => h9 h56), if_neg h78]); rw [e]; refine ⟨?_, ?_⟩; exact congrArg (fun x : Int32 => (Sum.inl (some (Value.int x)) : zRes)) (show Y.2.1 2 + 1 - 1 = nI nw by rw [hR.2.1, nI_1, nI_pred]); exact congrArg (fun x => zw X1 (yint (yarr (yarr (yarr (yarr (yint Y 0 0) 4 (upd (Y.1 4) nw kd)) 5 (upd (Y.1 5) nw (nI a))) 6 (upd (Y.1 6) nw (nI b))) 7 (upd (Y.1 7) nw f)) 2 x) O) (show Y.2.1 2 + 1 = nI (nw + 1) by rw [hR.2.1, nI_1]))
        · refine z_iconst (v := 1) dX9_addWish_81 rfl (q := 82) rfl ?_
          refine z_goto (tgt := 86) dX9_addWish_82 (by decide) ?_
          refine z_iconst (v := 3) dX9_addWish_86 rfl (q := 87) rfl ?_
          refine z_callVF (As := [_, _]) dX9_addWish_87 kX9_89 (c_X9_fails_t rfl (by decide)) (wm _ _ _) rfl rfl (zle rfl) ⟨zle rfl, zle rfl⟩ ⟨zle rfl, zle rfl⟩ (q := 90) rfl ?_
          refine z_if_eq (tgt := 95) dX9_addWish_90 (by decide) (q := 93) rfl (fun h90 => absurd h90 (by decide)) (fun h90 => ?_)
          refine z_iconst (v := 0) dX9_addWish_93 rfl (q := 94) rfl ?_
          exact z_iret dX9_addWish_94 rfl ⟨zle rfl, zle rfl⟩ (by unfold B_addWish; rw [if_neg h40, if_neg h45, if_neg (fun h9 => h9 h56), if_pos h78]; exact ⟨rfl, rfl⟩)
      · replace h56 := zb_0.mp h56
        refine z_iconst (v := 1) dX9_addWish_59 rfl (q := 60) rfl ?_
        refine z_goto (tgt := 64) dX9_addWish_60 (by decide) ?_
        refine z_iconst (v := 2) dX9_addWish_64 rfl (q := 65) rfl ?_
        refine z_callVF (As := [_, _]) dX9_addWish_65 kX9_89 (c_X9_fails_t rfl (by decide)) (wm _ _ _) rfl rfl (zle rfl) ⟨zle rfl, zle rfl⟩ ⟨zle rfl, zle rfl⟩ (q := 68) rfl ?_
        refine z_if_ne (tgt := 93) dX9_addWish_68 (by decide) (q := 71) rfl (fun h68 => ?_) (fun h68 => absurd h68 (by decide))
        refine z_iconst (v := 0) dX9_addWish_93 rfl (q := 94) rfl ?_
        exact z_iret dX9_addWish_94 rfl ⟨zle rfl, zle rfl⟩ (by unfold B_addWish; rw [if_neg h40, if_neg h45, if_pos h56]; exact ⟨rfl, rfl⟩)
set_option maxRecDepth 100000 in
set_option maxHeartbeats 4000000 in
theorem c_X9_addWish_out {n nw : Nat} {s : Int32} (hR : rel X Y n nw) (h : s < 0 ∨ nI n ≤ s) {kd s2 f : Int32} : ZM G mX9_addWish 2 0 0 [.ref 77, .int kd, .int s, .int s2, .int f] (zw X1 Y O) (mR X1 O (0) (yth Y 1)) := by
  have h4 := rel_4 hR
  have hR0 : rel X (yint Y 0 0) n nw := rel_thr hR 0
  refine ZM.go pX9 rfl rfl (zle rfl) (zl := [some (.ref 77), some (.int kd), some (.int s), some (.int s2), some (.int f)]) rfl ?_
  refine z_aload_n (i := 0) dX9_addWish_0 rfl rfl (q := 1) rfl ?_
  refine z_iconst (v := 0) dX9_addWish_1 rfl (q := 2) rfl ?_
  refine z_put dX9_addWish_2 fX9_60 (wm _ _ _) (zle rfl) (zfit_int _) (q := 5) rfl ?_
  refine Z.eqw (wmi_thrown _ _ _ _) ?_
  refine z_aload_n (i := 0) dX9_addWish_5 rfl rfl (q := 6) rfl ?_
  refine z_aload_n (i := 0) dX9_addWish_6 rfl rfl (q := 7) rfl ?_
  refine z_iload_n (i := 2) dX9_addWish_7 rfl rfl (q := 8) rfl ?_
  refine z_callVF (As := [_]) dX9_addWish_8 kX9_97 (c_X9_noShape_out hR0 h) (wm _ _ _) rfl rfl (zle rfl) ⟨zle rfl, zle rfl⟩ ⟨zle rfl, zle rfl⟩ (q := 11) rfl ?_
  refine z_if_ne (tgt := 22) dX9_addWish_11 (by decide) (q := 14) rfl (fun h11 => ?_) (fun h11 => absurd h11 (by decide))
  refine z_iconst (v := 1) dX9_addWish_22 rfl (q := 23) rfl ?_
  refine z_goto (tgt := 27) dX9_addWish_23 (by decide) ?_
  refine z_iconst (v := 1) dX9_addWish_27 rfl (q := 28) rfl ?_
  refine z_callVF (As := [_, _]) dX9_addWish_28 kX9_89 (c_X9_fails_t rfl (by decide)) (wm _ _ _) rfl rfl (zle rfl) ⟨zle rfl, zle rfl⟩ ⟨zle rfl, zle rfl⟩ (q := 31) rfl ?_
  refine z_if_ne (tgt := 93) dX9_addWish_31 (by decide) (q := 34) rfl (fun h31 => ?_) (fun h31 => absurd h31 (by decide))
  refine z_iconst (v := 0) dX9_addWish_93 rfl (q := 94) rfl ?_
  exact z_iret dX9_addWish_94 rfl ⟨zle rfl, zle rfl⟩ ⟨rfl, rfl⟩
set_option maxRecDepth 100000 in
set_option maxHeartbeats 4000000 in
theorem c_X9_addWish_out2 {n nw k : Nat} {s : Int32} (hR : rel X Y n nw) (hk : k < n) (h : s < 0 ∨ nI n ≤ s) {kd f : Int32} : ZM G mX9_addWish 2 0 0 [.ref 77, .int kd, .int (nI k), .int s, .int f] (zw X1 Y O) (mR X1 O (0) (yth Y 1)) := by
  have h4 := rel_4 hR
  have hR0 : rel X (yint Y 0 0) n nw := rel_thr hR 0
  refine ZM.go pX9 rfl rfl (zle rfl) (zl := [some (.ref 77), some (.int kd), some (.int (nI k)), some (.int s), some (.int f)]) rfl ?_
  refine z_aload_n (i := 0) dX9_addWish_0 rfl rfl (q := 1) rfl ?_
  refine z_iconst (v := 0) dX9_addWish_1 rfl (q := 2) rfl ?_
  refine z_put dX9_addWish_2 fX9_60 (wm _ _ _) (zle rfl) (zfit_int _) (q := 5) rfl ?_
  refine Z.eqw (wmi_thrown _ _ _ _) ?_
  refine z_aload_n (i := 0) dX9_addWish_5 rfl rfl (q := 6) rfl ?_
  refine z_aload_n (i := 0) dX9_addWish_6 rfl rfl (q := 7) rfl ?_
  refine z_iload_n (i := 2) dX9_addWish_7 rfl rfl (q := 8) rfl ?_
  refine z_callVF (As := [_]) dX9_addWish_8 kX9_97 (c_X9_noShape_in hR0 hk) (wm _ _ _) rfl rfl (zle rfl) ⟨zle rfl, zle rfl⟩ ⟨zle rfl, zle rfl⟩ (q := 11) rfl ?_
  refine z_if_ne (tgt := 22) dX9_addWish_11 (by decide) (q := 14) rfl (fun h11 => absurd h11 (by decide)) (fun h11 => ?_)
  refine z_aload_n (i := 0) dX9_addWish_14 rfl rfl (q := 15) rfl ?_
  refine z_iload_n (i := 3) dX9_addWish_15 rfl rfl (q := 16) rfl ?_
  refine z_callVF (As := [_]) dX9_addWish_16 kX9_97 (c_X9_noShape_out hR0 h) (wm _ _ _) rfl rfl (zle rfl) ⟨zle rfl, zle rfl⟩ ⟨zle rfl, zle rfl⟩ (q := 19) rfl ?_
  refine z_if_eq (tgt := 26) dX9_addWish_19 (by decide) (q := 22) rfl (fun h19 => absurd h19 (by decide)) (fun h19 => ?_)
  refine z_iconst (v := 1) dX9_addWish_22 rfl (q := 23) rfl ?_
  refine z_goto (tgt := 27) dX9_addWish_23 (by decide) ?_
  refine z_iconst (v := 1) dX9_addWish_27 rfl (q := 28) rfl ?_
  refine z_callVF (As := [_, _]) dX9_addWish_28 kX9_89 (c_X9_fails_t rfl (by decide)) (wm _ _ _) rfl rfl (zle rfl) ⟨zle rfl, zle rfl⟩ ⟨zle rfl, zle rfl⟩ (q := 31) rfl ?_
  refine z_if_ne (tgt := 93) dX9_addWish_31 (by decide) (q := 34) rfl (fun h31 => ?_) (fun h31 => absurd h31 (by decide))
  refine z_iconst (v := 0) dX9_addWish_93 rfl (q := 94) rfl ?_
  exact z_iret dX9_addWish_94 rfl ⟨zle rfl, zle rfl⟩ ⟨rfl, rfl⟩
set_option maxRecDepth 100000 in
set_option maxHeartbeats 4000000 in
theorem sub2 (b a z : Int32) : b - a - z = b - (a + z) := by
  apply Int32.toBitVec_inj.mp
  simp only [Int32.toBitVec_sub, Int32.toBitVec_add]
  rw [BitVec.sub_eq_add_neg, BitVec.sub_eq_add_neg, BitVec.sub_eq_add_neg, BitVec.add_assoc, BitVec.neg_add, BitVec.sub_eq_add_neg]
set_option maxRecDepth 100000 in
set_option maxHeartbeats 4000000 in
theorem c_X9_gapOf {n nw k j : Nat} (hR : rel X Y n nw) (hk : k < n) (hj : j < n) {t : Nat} (ht : t < 2) : ZM G mX9_gapOf 1 0 0 [.ref 77, .int (nI k), .int (nI j), .int (nI t)] (zw X1 Y O) (zEq (some (.int (zgap (X.2.1 (2 * t) k) (X.2.1 (2 * t + 1) k) (X.2.1 (2 * t) j) (X.2.1 (2 * t + 1) j)))) (zw X1 Y O)) := by
  have h4 := rel_4 hR
  refine ZM.go pX9 rfl rfl (zle rfl) (zl := [some (.ref 77), some (.int (nI k)), some (.int (nI j)), some (.int (nI t)), none, none]) rfl ?_
  refine z_aload_n (i := 0) dX9_gapOf_0 rfl rfl (q := 1) rfl ?_
  refine z_iload_n (i := 2) dX9_gapOf_1 rfl rfl (q := 2) rfl ?_
  refine z_iload_n (i := 3) dX9_gapOf_2 rfl rfl (q := 3) rfl ?_
  refine z_callVF (As := [_, _]) dX9_gapOf_3 kX9_75 (c_X9_at hR hj ht) (wm _ _ _) rfl rfl (zle rfl) ⟨zle rfl, zle rfl⟩ ⟨zle rfl, zle rfl⟩ (q := 6) rfl ?_
  refine z_aload_n (i := 0) dX9_gapOf_6 rfl rfl (q := 7) rfl ?_
  refine z_iload_n (i := 1) dX9_gapOf_7 rfl rfl (q := 8) rfl ?_
  refine z_iload_n (i := 3) dX9_gapOf_8 rfl rfl (q := 9) rfl ?_
  refine z_callVF (As := [_, _]) dX9_gapOf_9 kX9_75 (c_X9_at hR hk ht) (wm _ _ _) rfl rfl (zle rfl) ⟨zle rfl, zle rfl⟩ ⟨zle rfl, zle rfl⟩ (q := 12) rfl ?_
  refine z_isub dX9_gapOf_12 (q := 13) rfl ?_
  refine z_aload_n (i := 0) dX9_gapOf_13 rfl rfl (q := 14) rfl ?_
  refine z_iload_n (i := 1) dX9_gapOf_14 rfl rfl (q := 15) rfl ?_
  refine z_iload_n (i := 3) dX9_gapOf_15 rfl rfl (q := 16) rfl ?_
  refine z_callVF (As := [_, _]) dX9_gapOf_16 kX9_79 (c_X9_sizeAt hR hk ht) (wm _ _ _) rfl rfl (zle rfl) ⟨zle rfl, zle rfl⟩ ⟨zle rfl, zle rfl⟩ (q := 19) rfl ?_
  refine z_isub dX9_gapOf_19 (q := 20) rfl ?_
  refine z_istore dX9_gapOf_20 (zle rfl) rfl (q := 22) rfl ?_
  refine z_aload_n (i := 0) dX9_gapOf_22 rfl rfl (q := 23) rfl ?_
  refine z_iload_n (i := 1) dX9_gapOf_23 rfl rfl (q := 24) rfl ?_
  refine z_iload_n (i := 3) dX9_gapOf_24 rfl rfl (q := 25) rfl ?_
  refine z_callVF (As := [_, _]) dX9_gapOf_25 kX9_75 (c_X9_at hR hk ht) (wm _ _ _) rfl rfl (zle rfl) ⟨zle rfl, zle rfl⟩ ⟨zle rfl, zle rfl⟩ (q := 28) rfl ?_
  refine z_aload_n (i := 0) dX9_gapOf_28 rfl rfl (q := 29) rfl ?_
  refine z_iload_n (i := 2) dX9_gapOf_29 rfl rfl (q := 30) rfl ?_
  refine z_iload_n (i := 3) dX9_gapOf_30 rfl rfl (q := 31) rfl ?_
  refine z_callVF (As := [_, _]) dX9_gapOf_31 kX9_75 (c_X9_at hR hj ht) (wm _ _ _) rfl rfl (zle rfl) ⟨zle rfl, zle rfl⟩ ⟨zle rfl, zle rfl⟩ (q := 34) rfl ?_
  refine z_isub dX9_gapOf_34 (q := 35) rfl ?_
  refine z_aload_n (i := 0) dX9_gapOf_35 rfl rfl (q := 36) rfl ?_
  refine z_iload_n (i := 2) dX9_gapOf_36 rfl rfl (q := 37) rfl ?_
  refine z_iload_n (i := 3) dX9_gapOf_37 rfl rfl (q := 38) rfl ?_
  refine z_callVF (As := [_, _]) dX9_gapOf_38 kX9_79 (c_X9_sizeAt hR hj ht) (wm _ _ _) rfl rfl (zle rfl) ⟨zle rfl, zle rfl⟩ ⟨zle rfl, zle rfl⟩ (q := 41) rfl ?_
  refine z_isub dX9_gapOf_41 (q := 42) rfl ?_
  refine z_istore dX9_gapOf_42 (zle rfl) rfl (q := 44) rfl ?_
  refine z_iconst (v := 0) dX9_gapOf_44 rfl (q := 45) rfl ?_
  refine z_iload dX9_gapOf_45 rfl (q := 47) rfl ?_
  refine z_iload dX9_gapOf_47 rfl (q := 49) rfl ?_
  refine z_callSF (As := [_, _]) dX9_gapOf_49 kX9_217 (c_X9_most ) rfl (zle rfl) ⟨zle rfl, zle rfl⟩ ⟨zle rfl, zle rfl⟩ (q := 52) rfl ?_
  refine z_callSF (As := [_, _]) dX9_gapOf_52 kX9_217 (c_X9_most ) rfl (zle rfl) ⟨zle rfl, zle rfl⟩ ⟨zle rfl, zle rfl⟩ (q := 55) rfl ?_
  exact z_iret dX9_gapOf_55 rfl ⟨zle rfl, zle rfl⟩ ⟨by unfold zgap; rw [sub2, sub2], rfl⟩
set_option maxRecDepth 100000 in
set_option maxHeartbeats 4000000 in
theorem c_X9_distanceOf {n nw k j : Nat} (hR : rel X Y n nw) (hk : k < n) (hj : j < n) : ZM G mX9_distanceOf 2 0 0 [.ref 77, .int (nI k), .int (nI j)] (zw X1 Y O) (zEq (some (.int (zdist X k j))) (zw X1 Y O)) := by
  have h4 := rel_4 hR
  refine ZM.go pX9 rfl rfl (zle rfl) (zl := [some (.ref 77), some (.int (nI k)), some (.int (nI j))]) rfl ?_
  refine z_aload_n (i := 0) dX9_distanceOf_0 rfl rfl (q := 1) rfl ?_
  refine z_iload_n (i := 1) dX9_distanceOf_1 rfl rfl (q := 2) rfl ?_
  refine z_iload_n (i := 2) dX9_distanceOf_2 rfl rfl (q := 3) rfl ?_
  refine z_iconst (v := 0) dX9_distanceOf_3 rfl (q := 4) rfl ?_
  refine z_callVF (As := [_, _, _]) dX9_distanceOf_4 kX9_220 (c_X9_gapOf hR hk hj (t := 0) (by decide)) (wm _ _ _) rfl rfl (zle rfl) ⟨zle rfl, zle rfl⟩ ⟨zle rfl, zle rfl⟩ (q := 7) rfl ?_
  refine z_aload_n (i := 0) dX9_distanceOf_7 rfl rfl (q := 8) rfl ?_
  refine z_iload_n (i := 1) dX9_distanceOf_8 rfl rfl (q := 9) rfl ?_
  refine z_iload_n (i := 2) dX9_distanceOf_9 rfl rfl (q := 10) rfl ?_
  refine z_iconst (v := 1) dX9_distanceOf_10 rfl (q := 11) rfl ?_
  refine z_callVF (As := [_, _, _]) dX9_distanceOf_11 kX9_220 (c_X9_gapOf hR hk hj (t := 1) (by decide)) (wm _ _ _) rfl rfl (zle rfl) ⟨zle rfl, zle rfl⟩ ⟨zle rfl, zle rfl⟩ (q := 14) rfl ?_
  refine z_callSF (As := [_, _]) dX9_distanceOf_14 kX9_217 (c_X9_most ) rfl (zle rfl) ⟨zle rfl, zle rfl⟩ ⟨zle rfl, zle rfl⟩ (q := 17) rfl ?_
  exact z_iret dX9_distanceOf_17 rfl ⟨zle rfl, zle rfl⟩ ⟨rfl, rfl⟩
set_option maxRecDepth 100000 in
set_option maxHeartbeats 4000000 in
theorem c_X9_distance {n nw k j : Nat} (hR : rel X Y n nw) (hk : k < n) (hj : j < n) (hne : ¬ k = j) : ZM G mX9_distance 3 0 0 [.ref 77, .int (nI k), .int (nI j)] (zw X1 Y O) (mR X1 O (zdist X k j) (yint Y 0 0)) := by
  have h4 := rel_4 hR
  have hR0 : rel X (yint Y 0 0) n nw := rel_thr hR 0
  refine ZM.go pX9 rfl rfl (zle rfl) (zl := [some (.ref 77), some (.int (nI k)), some (.int (nI j))]) rfl ?_
  refine z_aload_n (i := 0) dX9_distance_0 rfl rfl (q := 1) rfl ?_
  refine z_iconst (v := 0) dX9_distance_1 rfl (q := 2) rfl ?_
  refine z_put dX9_distance_2 fX9_60 (wm _ _ _) (zle rfl) (zfit_int _) (q := 5) rfl ?_
  refine Z.eqw (wmi_thrown _ _ _ _) ?_
  refine z_aload_n (i := 0) dX9_distance_5 rfl rfl (q := 6) rfl ?_
  refine z_aload_n (i := 0) dX9_distance_6 rfl rfl (q := 7) rfl ?_
  refine z_iload_n (i := 1) dX9_distance_7 rfl rfl (q := 8) rfl ?_
  refine z_callVF (As := [_]) dX9_distance_8 kX9_97 (c_X9_noShape_in hR0 hk) (wm _ _ _) rfl rfl (zle rfl) ⟨zle rfl, zle rfl⟩ ⟨zle rfl, zle rfl⟩ (q := 11) rfl ?_
  refine z_if_ne (tgt := 22) dX9_distance_11 (by decide) (q := 14) rfl (fun h11 => absurd h11 (by decide)) (fun h11 => ?_)
  refine z_aload_n (i := 0) dX9_distance_14 rfl rfl (q := 15) rfl ?_
  refine z_iload_n (i := 2) dX9_distance_15 rfl rfl (q := 16) rfl ?_
  refine z_callVF (As := [_]) dX9_distance_16 kX9_97 (c_X9_noShape_in hR0 hj) (wm _ _ _) rfl rfl (zle rfl) ⟨zle rfl, zle rfl⟩ ⟨zle rfl, zle rfl⟩ (q := 19) rfl ?_
  refine z_if_eq (tgt := 26) dX9_distance_19 (by decide) (q := 22) rfl (fun h19 => ?_) (fun h19 => absurd h19 (by decide))
  refine z_iconst (v := 0) dX9_distance_26 rfl (q := 27) rfl ?_
  refine z_iconst (v := 1) dX9_distance_27 rfl (q := 28) rfl ?_
  refine z_callVF (As := [_, _]) dX9_distance_28 kX9_89 (c_X9_fails_f rfl) (wm _ _ _) rfl rfl (zle rfl) ⟨zle rfl, zle rfl⟩ ⟨zle rfl, zle rfl⟩ (q := 31) rfl ?_
  refine z_if_ne (tgt := 52) dX9_distance_31 (by decide) (q := 34) rfl (fun h31 => absurd h31 (by decide)) (fun h31 => ?_)
  refine z_aload_n (i := 0) dX9_distance_34 rfl rfl (q := 35) rfl ?_
  refine z_iload_n (i := 1) dX9_distance_35 rfl rfl (q := 36) rfl ?_
  refine z_iload_n (i := 2) dX9_distance_36 rfl rfl (q := 37) rfl ?_
  refine z_icmp_ne (tgt := 44) dX9_distance_37 (by decide) (q := 40) rfl (fun h37 => ?_) (fun h37 => absurd ((nI_eq (by omega) (by omega)).mp h37) hne)
  refine z_iconst (v := 0) dX9_distance_44 rfl (q := 45) rfl ?_
  refine z_iconst (v := 2) dX9_distance_45 rfl (q := 46) rfl ?_
  refine z_callVF (As := [_, _]) dX9_distance_46 kX9_89 (c_X9_fails_f rfl) (wm _ _ _) rfl rfl (zle rfl) ⟨zle rfl, zle rfl⟩ ⟨zle rfl, zle rfl⟩ (q := 49) rfl ?_
  refine z_if_eq (tgt := 56) dX9_distance_49 (by decide) (q := 52) rfl (fun h49 => ?_) (fun h49 => absurd h49 (by decide))
  refine z_aload_n (i := 0) dX9_distance_56 rfl rfl (q := 57) rfl ?_
  refine z_iload_n (i := 1) dX9_distance_57 rfl rfl (q := 58) rfl ?_
  refine z_iload_n (i := 2) dX9_distance_58 rfl rfl (q := 59) rfl ?_
  refine z_callVF (As := [_, _]) dX9_distance_59 kX9_223 (c_X9_distanceOf hR0 hk hj) (wm _ _ _) rfl rfl (zle rfl) ⟨zle rfl, zle rfl⟩ ⟨zle rfl, zle rfl⟩ (q := 62) rfl ?_
  exact z_iret dX9_distance_62 rfl ⟨zle rfl, zle rfl⟩ ⟨rfl, rfl⟩
set_option maxRecDepth 100000 in
set_option maxHeartbeats 4000000 in
theorem c_X9_distance_same {n nw k : Nat} (hR : rel X Y n nw) (hk : k < n) : ZM G mX9_distance 3 0 0 [.ref 77, .int (nI k), .int (nI k)] (zw X1 Y O) (mR X1 O (0) (yth Y 2)) := by
  have h4 := rel_4 hR
  have hR0 : rel X (yint Y 0 0) n nw := rel_thr hR 0
  refine ZM.go pX9 rfl rfl (zle rfl) (zl := [some (.ref 77), some (.int (nI k)), some (.int (nI k))]) rfl ?_
  refine z_aload_n (i := 0) dX9_distance_0 rfl rfl (q := 1) rfl ?_
  refine z_iconst (v := 0) dX9_distance_1 rfl (q := 2) rfl ?_
  refine z_put dX9_distance_2 fX9_60 (wm _ _ _) (zle rfl) (zfit_int _) (q := 5) rfl ?_
  refine Z.eqw (wmi_thrown _ _ _ _) ?_
  refine z_aload_n (i := 0) dX9_distance_5 rfl rfl (q := 6) rfl ?_
  refine z_aload_n (i := 0) dX9_distance_6 rfl rfl (q := 7) rfl ?_
  refine z_iload_n (i := 1) dX9_distance_7 rfl rfl (q := 8) rfl ?_
  refine z_callVF (As := [_]) dX9_distance_8 kX9_97 (c_X9_noShape_in hR0 hk) (wm _ _ _) rfl rfl (zle rfl) ⟨zle rfl, zle rfl⟩ ⟨zle rfl, zle rfl⟩ (q := 11) rfl ?_
  refine z_if_ne (tgt := 22) dX9_distance_11 (by decide) (q := 14) rfl (fun h11 => absurd h11 (by decide)) (fun h11 => ?_)
  refine z_aload_n (i := 0) dX9_distance_14 rfl rfl (q := 15) rfl ?_
  refine z_iload_n (i := 2) dX9_distance_15 rfl rfl (q := 16) rfl ?_
  refine z_callVF (As := [_]) dX9_distance_16 kX9_97 (c_X9_noShape_in hR0 hk) (wm _ _ _) rfl rfl (zle rfl) ⟨zle rfl, zle rfl⟩ ⟨zle rfl, zle rfl⟩ (q := 19) rfl ?_
  refine z_if_eq (tgt := 26) dX9_distance_19 (by decide) (q := 22) rfl (fun h19 => ?_) (fun h19 => absurd h19 (by decide))
  refine z_iconst (v := 0) dX9_distance_26 rfl (q := 27) rfl ?_
  refine z_iconst (v := 1) dX9_distance_27 rfl (q := 28) rfl ?_
  refine z_callVF (As := [_, _]) dX9_distance_28 kX9_89 (c_X9_fails_f rfl) (wm _ _ _) rfl rfl (zle rfl) ⟨zle rfl, zle rfl⟩ ⟨zle rfl, zle rfl⟩ (q := 31) rfl ?_
  refine z_if_ne (tgt := 52) dX9_distance_31 (by decide) (q := 34) rfl (fun h31 => absurd h31 (by decide)) (fun h31 => ?_)
  refine z_aload_n (i := 0) dX9_distance_34 rfl rfl (q := 35) rfl ?_
  refine z_iload_n (i := 1) dX9_distance_35 rfl rfl (q := 36) rfl ?_
  refine z_iload_n (i := 2) dX9_distance_36 rfl rfl (q := 37) rfl ?_
  refine z_icmp_ne (tgt := 44) dX9_distance_37 (by decide) (q := 40) rfl (fun h37 => absurd rfl h37) (fun h37 => ?_)
  refine z_iconst (v := 1) dX9_distance_40 rfl (q := 41) rfl ?_
  refine z_goto (tgt := 45) dX9_distance_41 (by decide) ?_
  refine z_iconst (v := 2) dX9_distance_45 rfl (q := 46) rfl ?_
  refine z_callVF (As := [_, _]) dX9_distance_46 kX9_89 (c_X9_fails_t rfl (by decide)) (wm _ _ _) rfl rfl (zle rfl) ⟨zle rfl, zle rfl⟩ ⟨zle rfl, zle rfl⟩ (q := 49) rfl ?_
  refine z_if_eq (tgt := 56) dX9_distance_49 (by decide) (q := 52) rfl (fun h49 => absurd h49 (by decide)) (fun h49 => ?_)
  refine z_iconst (v := 0) dX9_distance_52 rfl (q := 53) rfl ?_
  refine z_goto (tgt := 62) dX9_distance_53 (by decide) ?_
  exact z_iret dX9_distance_62 rfl ⟨zle rfl, zle rfl⟩ ⟨rfl, rfl⟩
set_option maxRecDepth 100000 in
set_option maxHeartbeats 4000000 in
theorem c_X9_distance_out {n nw : Nat} {s : Int32} (hR : rel X Y n nw) (h : s < 0 ∨ nI n ≤ s) {s2 : Int32} : ZM G mX9_distance 3 0 0 [.ref 77, .int s, .int s2] (zw X1 Y O) (mR X1 O (0) (yth Y 1)) := by
  have h4 := rel_4 hR
  have hR0 : rel X (yint Y 0 0) n nw := rel_thr hR 0
  refine ZM.go pX9 rfl rfl (zle rfl) (zl := [some (.ref 77), some (.int s), some (.int s2)]) rfl ?_
  refine z_aload_n (i := 0) dX9_distance_0 rfl rfl (q := 1) rfl ?_
  refine z_iconst (v := 0) dX9_distance_1 rfl (q := 2) rfl ?_
  refine z_put dX9_distance_2 fX9_60 (wm _ _ _) (zle rfl) (zfit_int _) (q := 5) rfl ?_
  refine Z.eqw (wmi_thrown _ _ _ _) ?_
  refine z_aload_n (i := 0) dX9_distance_5 rfl rfl (q := 6) rfl ?_
  refine z_aload_n (i := 0) dX9_distance_6 rfl rfl (q := 7) rfl ?_
  refine z_iload_n (i := 1) dX9_distance_7 rfl rfl (q := 8) rfl ?_
  refine z_callVF (As := [_]) dX9_distance_8 kX9_97 (c_X9_noShape_out hR0 h) (wm _ _ _) rfl rfl (zle rfl) ⟨zle rfl, zle rfl⟩ ⟨zle rfl, zle rfl⟩ (q := 11) rfl ?_
  refine z_if_ne (tgt := 22) dX9_distance_11 (by decide) (q := 14) rfl (fun h11 => ?_) (fun h11 => absurd h11 (by decide))
  refine z_iconst (v := 1) dX9_distance_22 rfl (q := 23) rfl ?_
  refine z_goto (tgt := 27) dX9_distance_23 (by decide) ?_
  refine z_iconst (v := 1) dX9_distance_27 rfl (q := 28) rfl ?_
  refine z_callVF (As := [_, _]) dX9_distance_28 kX9_89 (c_X9_fails_t rfl (by decide)) (wm _ _ _) rfl rfl (zle rfl) ⟨zle rfl, zle rfl⟩ ⟨zle rfl, zle rfl⟩ (q := 31) rfl ?_
  refine z_if_ne (tgt := 52) dX9_distance_31 (by decide) (q := 34) rfl (fun h31 => ?_) (fun h31 => absurd h31 (by decide))
  refine z_iconst (v := 0) dX9_distance_52 rfl (q := 53) rfl ?_
  refine z_goto (tgt := 62) dX9_distance_53 (by decide) ?_
  exact z_iret dX9_distance_62 rfl ⟨zle rfl, zle rfl⟩ ⟨rfl, rfl⟩
set_option maxRecDepth 100000 in
set_option maxHeartbeats 4000000 in
theorem c_X9_distance_out2 {n nw k : Nat} {s : Int32} (hR : rel X Y n nw) (hk : k < n) (h : s < 0 ∨ nI n ≤ s) : ZM G mX9_distance 3 0 0 [.ref 77, .int (nI k), .int s] (zw X1 Y O) (mR X1 O (0) (yth Y 1)) := by
  have h4 := rel_4 hR
  have hR0 : rel X (yint Y 0 0) n nw := rel_thr hR 0
  refine ZM.go pX9 rfl rfl (zle rfl) (zl := [some (.ref 77), some (.int (nI k)), some (.int s)]) rfl ?_
  refine z_aload_n (i := 0) dX9_distance_0 rfl rfl (q := 1) rfl ?_
  refine z_iconst (v := 0) dX9_distance_1 rfl (q := 2) rfl ?_
  refine z_put dX9_distance_2 fX9_60 (wm _ _ _) (zle rfl) (zfit_int _) (q := 5) rfl ?_
  refine Z.eqw (wmi_thrown _ _ _ _) ?_
  refine z_aload_n (i := 0) dX9_distance_5 rfl rfl (q := 6) rfl ?_
  refine z_aload_n (i := 0) dX9_distance_6 rfl rfl (q := 7) rfl ?_
  refine z_iload_n (i := 1) dX9_distance_7 rfl rfl (q := 8) rfl ?_
  refine z_callVF (As := [_]) dX9_distance_8 kX9_97 (c_X9_noShape_in hR0 hk) (wm _ _ _) rfl rfl (zle rfl) ⟨zle rfl, zle rfl⟩ ⟨zle rfl, zle rfl⟩ (q := 11) rfl ?_
  refine z_if_ne (tgt := 22) dX9_distance_11 (by decide) (q := 14) rfl (fun h11 => absurd h11 (by decide)) (fun h11 => ?_)
  refine z_aload_n (i := 0) dX9_distance_14 rfl rfl (q := 15) rfl ?_
  refine z_iload_n (i := 2) dX9_distance_15 rfl rfl (q := 16) rfl ?_
  refine z_callVF (As := [_]) dX9_distance_16 kX9_97 (c_X9_noShape_out hR0 h) (wm _ _ _) rfl rfl (zle rfl) ⟨zle rfl, zle rfl⟩ ⟨zle rfl, zle rfl⟩ (q := 19) rfl ?_
  refine z_if_eq (tgt := 26) dX9_distance_19 (by decide) (q := 22) rfl (fun h19 => absurd h19 (by decide)) (fun h19 => ?_)
  refine z_iconst (v := 1) dX9_distance_22 rfl (q := 23) rfl ?_
  refine z_goto (tgt := 27) dX9_distance_23 (by decide) ?_
  refine z_iconst (v := 1) dX9_distance_27 rfl (q := 28) rfl ?_
  refine z_callVF (As := [_, _]) dX9_distance_28 kX9_89 (c_X9_fails_t rfl (by decide)) (wm _ _ _) rfl rfl (zle rfl) ⟨zle rfl, zle rfl⟩ ⟨zle rfl, zle rfl⟩ (q := 31) rfl ?_
  refine z_if_ne (tgt := 52) dX9_distance_31 (by decide) (q := 34) rfl (fun h31 => ?_) (fun h31 => absurd h31 (by decide))
  refine z_iconst (v := 0) dX9_distance_52 rfl (q := 53) rfl ?_
  refine z_goto (tgt := 62) dX9_distance_53 (by decide) ?_
  exact z_iret dX9_distance_62 rfl ⟨zle rfl, zle rfl⟩ ⟨rfl, rfl⟩
set_option maxRecDepth 100000 in
set_option maxHeartbeats 4000000 in
theorem c_X9_moved  : ZM G mX9_moved 0 0 0 [.ref 77] (zw X1 Y O) (fun r w => r = .inl (some (.long Y.2.2)) ∧ w = zw X1 (yint Y 0 0) O) := by
  refine ZM.go pX9 rfl rfl (zle rfl) (zl := [some (.ref 77)]) rfl ?_
  refine z_aload_n (i := 0) dX9_moved_0 rfl rfl (q := 1) rfl ?_
  refine z_iconst (v := 0) dX9_moved_1 rfl (q := 2) rfl ?_
  refine z_put dX9_moved_2 fX9_60 (wm _ _ _) (zle rfl) (zfit_int _) (q := 5) rfl ?_
  refine Z.eqw (wmi_thrown _ _ _ _) ?_
  refine z_aload_n (i := 0) dX9_moved_5 rfl rfl (q := 6) rfl ?_
  refine z_get dX9_moved_6 fX9_112 (wm _ _ _) rfl (q := 9) rfl ?_
  exact z_lret dX9_moved_9 rfl ⟨zle rfl, zle rfl⟩ ⟨rfl, rfl⟩
set_option maxRecDepth 100000 in
set_option maxHeartbeats 4000000 in
theorem c_X9_isSound  : ZM G mX9_isSound 0 0 0 [.ref 77] (zw X1 Y O) (mR X1 O 1 (yint Y 0 0)) := by
  refine ZM.go pX9 rfl rfl (zle rfl) (zl := [some (.ref 77)]) rfl ?_
  refine z_aload_n (i := 0) dX9_isSound_0 rfl rfl (q := 1) rfl ?_
  refine z_iconst (v := 0) dX9_isSound_1 rfl (q := 2) rfl ?_
  refine z_put dX9_isSound_2 fX9_60 (wm _ _ _) (zle rfl) (zfit_int _) (q := 5) rfl ?_
  refine Z.eqw (wmi_thrown _ _ _ _) ?_
  refine z_iconst (v := 1) dX9_isSound_5 rfl (q := 6) rfl ?_
  exact z_zret dX9_isSound_6 rfl (by first | rfl | assumption | decide) ⟨zle rfl, zle rfl⟩ ⟨rfl, rfl⟩
set_option maxRecDepth 100000 in
set_option maxHeartbeats 4000000 in
theorem c_X9_thrown  : ZM G mX9_thrown 0 0 0 [.ref 77] (zw X1 Y O) (zEq (some (.int (Y.2.1 0))) (zw X1 Y O)) := by
  refine ZM.go pX9 rfl rfl (zle rfl) (zl := [some (.ref 77)]) rfl ?_
  refine z_aload_n (i := 0) dX9_thrown_0 rfl rfl (q := 1) rfl ?_
  refine z_get dX9_thrown_1 fX9_60 (wm _ _ _) rfl (q := 4) rfl ?_
  exact z_iret dX9_thrown_4 rfl ⟨zle rfl, zle rfl⟩ ⟨rfl, rfl⟩
end
