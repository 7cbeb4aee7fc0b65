section
variable {G : zG} {X X1 X2 X3 : zX} {Y : zY} {O : zO}
set_option maxRecDepth 100000 in
set_option maxHeartbeats 4000000 in
theorem l_start {n nw k t : Nat} (hI : inv X n nw) (hk : keep0 X X1) (hkn : k < n) (ht : t < 2) : ZM G mL_start 16 1 6 [.ref 0, .int (nI k), .int (nI t)] (zw X1 Y O) (aP X Y O (X.2.1 (2 * t) k) True) := by
  refine ZM.go pL rfl rfl (zle rfl) (zl := [some (.ref 0), some (.int (nI k)), some (.int (nI t))]) rfl ?_
  refine z_aload_n (i := 0) dL_start_0 rfl rfl (q := 1) rfl ?_
  refine z_iconst (v := 0) dL_start_1 rfl (q := 2) rfl ?_
  refine z_iload_n (i := 1) dL_start_2 rfl rfl (q := 3) rfl ?_
  refine z_iload_n (i := 2) dL_start_3 rfl rfl (q := 4) rfl ?_
  refine z_callSF (As := [_]) dL_start_4 kL_148 (c_L_axis (t := t) ht) rfl (zle rfl) ⟨zle rfl, zle rfl⟩ ⟨zle rfl, zle rfl⟩ (q := 7) rfl ?_
  refine z_iconst (v := 0) dL_start_7 rfl (q := 8) rfl ?_
  refine z_callSWA (As := [_, _, _, _, _]) dL_start_8 kL_151 (a_start hI hk hkn ht) rfl (zle rfl) ⟨zle rfl, zle rfl⟩ ⟨zle rfl, zle rfl⟩ (q := 11) rfl (fun hE8 X8 hk8 => ?_)
  exact z_iret dL_start_11 rfl ⟨zle rfl, zle rfl⟩ ⟨rfl, trivial, _, rfl, hk8⟩
set_option maxRecDepth 100000 in
set_option maxHeartbeats 4000000 in
theorem l_size {n nw k t : Nat} (hI : inv X n nw) (hk : keep0 X X1) (hkn : k < n) (ht : t < 2) : ZM G mL_size 16 1 6 [.ref 0, .int (nI k), .int (nI t)] (zw X1 Y O) (aP X Y O (X.2.1 (2 * t + 1) k) True) := by
  refine ZM.go pL rfl rfl (zle rfl) (zl := [some (.ref 0), some (.int (nI k)), some (.int (nI t))]) rfl ?_
  refine z_aload_n (i := 0) dL_size_0 rfl rfl (q := 1) rfl ?_
  refine z_iconst (v := 1) dL_size_1 rfl (q := 2) rfl ?_
  refine z_iload_n (i := 1) dL_size_2 rfl rfl (q := 3) rfl ?_
  refine z_iload_n (i := 2) dL_size_3 rfl rfl (q := 4) rfl ?_
  refine z_callSF (As := [_]) dL_size_4 kL_148 (c_L_axis (t := t) ht) rfl (zle rfl) ⟨zle rfl, zle rfl⟩ ⟨zle rfl, zle rfl⟩ (q := 7) rfl ?_
  refine z_iconst (v := 0) dL_size_7 rfl (q := 8) rfl ?_
  refine z_callSWA (As := [_, _, _, _, _]) dL_size_8 kL_151 (a_size hI hk hkn ht) rfl (zle rfl) ⟨zle rfl, zle rfl⟩ ⟨zle rfl, zle rfl⟩ (q := 11) rfl (fun hE8 X8 hk8 => ?_)
  exact z_iret dL_size_11 rfl ⟨zle rfl, zle rfl⟩ ⟨rfl, trivial, _, rfl, hk8⟩
set_option maxRecDepth 100000 in
set_option maxHeartbeats 4000000 in
theorem on_facts {n nw k : Nat} (hI : inv X n nw) (hkn : k < n) : ¬ X.2.1 (2 * 0) k < 0 ∧ ¬ X.2.1 (2 * 1) k < 0 ∧ ¬ (200 : Int32) < X.2.1 (2 * 0) k + X.2.1 (2 * 0 + 1) k ∧ ¬ (120 : Int32) < X.2.1 (2 * 1) k + X.2.1 (2 * 1 + 1) k := by
  have h := hI.2.2.2.2.1 k hkn
  show ¬ X.2.1 0 k < 0 ∧ ¬ X.2.1 2 k < 0 ∧ ¬ (200 : Int32) < X.2.1 0 k + X.2.1 1 k ∧ ¬ (120 : Int32) < X.2.1 2 k + X.2.1 3 k
  have b1 := h.1.2
  have b2 := h.2.1.2
  have b3 := h.2.2.1.2
  have b4 := h.2.2.2.1.2
  have c1 := h.2.2.2.2.2.2.1
  have c2 := h.2.2.2.2.2.2.2.1
  rw [h.1.1, h.2.1.1, h.2.2.1.1, h.2.2.2.1.1, nI_add, nI_add]
  exact ⟨nI_pos (by omega), nI_pos (by omega), nI_nlt (a := 200) (b := num (X.2.1 0 k) + num (X.2.1 1 k)) (by omega) (by omega), nI_nlt (a := 120) (b := num (X.2.1 2 k) + num (X.2.1 3 k)) (by omega) (by omega)⟩
set_option maxRecDepth 100000 in
set_option maxHeartbeats 4000000 in
theorem on_x {n nw i j k0 n0 : Nat} {P : zRes → zWorld → Prop} (hI : inv X n nw) (hk : keep0 X X1) (hi : i < n) (hj : j < i) (hr : k0 + 12 ≤ 400 ∧ n0 + 72 ≤ 2400) (kk : ∀ X2, keep0 X X2 → Z G mL_areOn (zrm 17 400 2400) (k0 + 12) (n0 + 72) 210 [some (.ref 0), some (.int (nI n)), some (.int 1), some (.int (nI i)), some (.int (nI j)), some (.int 0), some (.int 2)] [] (zw X2 Y O) P) : Z G mL_areOn (zrm 17 400 2400) k0 n0 133 [some (.ref 0), some (.int (nI n)), some (.int 1), some (.int (nI i)), some (.int (nI j)), some (.int 1), some (.int 0)] [] (zw X1 Y O) P := by
  have h4 := hI.1
  refine z_iload dL_areOn_133 rfl (q := 135) rfl ?_
  refine z_iconst (v := 2) dL_areOn_135 rfl (q := 136) rfl ?_
  refine z_icmp_ge (tgt := 210) dL_areOn_136 (by decide) (q := 139) rfl (fun h136_0 => absurd h136_0 (by decide)) (fun h136_0 => ?_)
  refine z_iload dL_areOn_139 rfl (q := 141) rfl ?_
  refine z_if_eq (tgt := 201) dL_areOn_141 (by decide) (q := 144) rfl (fun h141_0 => absurd h141_0 (by decide)) (fun h141_0 => ?_)
  refine z_aload_n (i := 0) dL_areOn_144 rfl rfl (q := 145) rfl ?_
  refine z_iload_n (i := 3) dL_areOn_145 rfl rfl (q := 146) rfl ?_
  refine z_iload dL_areOn_146 rfl (q := 148) rfl ?_
  refine z_callSA (As := [_, _, _]) dL_areOn_148 kL_154 (l_start (k := i) (t := 0) hI hk (by omega) (by decide)) rfl (zle rfl) ⟨zle rfl, zle rfl⟩ (zroom (by omega) (by omega)) (q := 151) rfl (fun hE148 X148 hk148 => ?_)
  refine z_aload_n (i := 0) dL_areOn_151 rfl rfl (q := 152) rfl ?_
  refine z_iload dL_areOn_152 rfl (q := 154) rfl ?_
  refine z_iload dL_areOn_154 rfl (q := 156) rfl ?_
  refine z_callSA (As := [_, _, _]) dL_areOn_156 kL_154 (l_start (k := j) (t := 0) hI hk148 (by omega) (by decide)) rfl (zle rfl) ⟨zle rfl, zle rfl⟩ (zroom (by omega) (by omega)) (q := 159) rfl (fun hE156 X156 hk156 => ?_)
  refine z_aload_n (i := 0) dL_areOn_159 rfl rfl (q := 160) rfl ?_
  refine z_iload dL_areOn_160 rfl (q := 162) rfl ?_
  refine z_iload dL_areOn_162 rfl (q := 164) rfl ?_
  refine z_callSA (As := [_, _, _]) dL_areOn_164 kL_158 (l_size (k := j) (t := 0) hI hk156 (by omega) (by decide)) rfl (zle rfl) ⟨zle rfl, zle rfl⟩ (zroom (by omega) (by omega)) (q := 167) rfl (fun hE164 X164 hk164 => ?_)
  refine z_iadd dL_areOn_167 (q := 168) rfl ?_
  refine z_icmp_ge (tgt := 201) dL_areOn_168 (by decide) (q := 171) rfl (fun h168_0 => ?_) (fun h168_0 => ?_)
  · refine z_iconst (v := 0) dL_areOn_201 rfl (q := 202) rfl ?_
    refine z_istore dL_areOn_202 (zle rfl) rfl (q := 204) rfl ?_
    refine z_iinc (v := 1) dL_areOn_204 rfl (by decide) (zle rfl) rfl (q := 207) rfl ?_
    refine z_goto (tgt := 133) dL_areOn_207 (by decide) ?_
    refine z_iload dL_areOn_133 rfl (q := 135) rfl ?_
    refine z_iconst (v := 2) dL_areOn_135 rfl (q := 136) rfl ?_
    refine z_icmp_ge (tgt := 210) dL_areOn_136 (by decide) (q := 139) rfl (fun h136_1 => absurd h136_1 (by decide)) (fun h136_1 => ?_)
    refine z_iload dL_areOn_139 rfl (q := 141) rfl ?_
    refine z_if_eq (tgt := 201) dL_areOn_141 (by decide) (q := 144) rfl (fun h141_1 => ?_) (fun h141_1 => absurd h141_1 (by decide))
    refine z_iconst (v := 0) dL_areOn_201 rfl (q := 202) rfl ?_
    refine z_istore dL_areOn_202 (zle rfl) rfl (q := 204) rfl ?_
    refine z_iinc (v := 2) dL_areOn_204 rfl (by decide) (zle rfl) rfl (q := 207) rfl ?_
    refine z_goto (tgt := 133) dL_areOn_207 (by decide) ?_
    refine z_iload dL_areOn_133 rfl (q := 135) rfl ?_
    refine z_iconst (v := 2) dL_areOn_135 rfl (q := 136) rfl ?_
    refine z_icmp_ge (tgt := 210) dL_areOn_136 (by decide) (q := 139) rfl (fun h136_2 => ?_) (fun h136_2 => absurd h136_2 (by decide))
    exact Z.widen (by omega) (by omega) (kk _ hk164)
  · refine z_aload_n (i := 0) dL_areOn_171 rfl rfl (q := 172) rfl ?_
    refine z_iload dL_areOn_172 rfl (q := 174) rfl ?_
    refine z_iload dL_areOn_174 rfl (q := 176) rfl ?_
    refine z_callSA (As := [_, _, _]) dL_areOn_176 kL_154 (l_start (k := j) (t := 0) hI hk164 (by omega) (by decide)) rfl (zle rfl) ⟨zle rfl, zle rfl⟩ (zroom (by omega) (by omega)) (q := 179) rfl (fun hE176 X176 hk176 => ?_)
    refine z_aload_n (i := 0) dL_areOn_179 rfl rfl (q := 180) rfl ?_
    refine z_iload_n (i := 3) dL_areOn_180 rfl rfl (q := 181) rfl ?_
    refine z_iload dL_areOn_181 rfl (q := 183) rfl ?_
    refine z_callSA (As := [_, _, _]) dL_areOn_183 kL_154 (l_start (k := i) (t := 0) hI hk176 (by omega) (by decide)) rfl (zle rfl) ⟨zle rfl, zle rfl⟩ (zroom (by omega) (by omega)) (q := 186) rfl (fun hE183 X183 hk183 => ?_)
    refine z_aload_n (i := 0) dL_areOn_186 rfl rfl (q := 187) rfl ?_
    refine z_iload_n (i := 3) dL_areOn_187 rfl rfl (q := 188) rfl ?_
    refine z_iload dL_areOn_188 rfl (q := 190) rfl ?_
    refine z_callSA (As := [_, _, _]) dL_areOn_190 kL_158 (l_size (k := i) (t := 0) hI hk183 (by omega) (by decide)) rfl (zle rfl) ⟨zle rfl, zle rfl⟩ (zroom (by omega) (by omega)) (q := 193) rfl (fun hE190 X190 hk190 => ?_)
    refine z_iadd dL_areOn_193 (q := 194) rfl ?_
    refine z_icmp_ge (tgt := 201) dL_areOn_194 (by decide) (q := 197) rfl (fun h194_0 => ?_) (fun h194_0 => ?_)
    · refine z_iconst (v := 0) dL_areOn_201 rfl (q := 202) rfl ?_
      refine z_istore dL_areOn_202 (zle rfl) rfl (q := 204) rfl ?_
      refine z_iinc (v := 1) dL_areOn_204 rfl (by decide) (zle rfl) rfl (q := 207) rfl ?_
      refine z_goto (tgt := 133) dL_areOn_207 (by decide) ?_
      refine z_iload dL_areOn_133 rfl (q := 135) rfl ?_
      refine z_iconst (v := 2) dL_areOn_135 rfl (q := 136) rfl ?_
      refine z_icmp_ge (tgt := 210) dL_areOn_136 (by decide) (q := 139) rfl (fun h136_1 => absurd h136_1 (by decide)) (fun h136_1 => ?_)
      refine z_iload dL_areOn_139 rfl (q := 141) rfl ?_
      refine z_if_eq (tgt := 201) dL_areOn_141 (by decide) (q := 144) rfl (fun h141_1 => ?_) (fun h141_1 => absurd h141_1 (by decide))
      refine z_iconst (v := 0) dL_areOn_201 rfl (q := 202) rfl ?_
      refine z_istore dL_areOn_202 (zle rfl) rfl (q := 204) rfl ?_
      refine z_iinc (v := 2) dL_areOn_204 rfl (by decide) (zle rfl) rfl (q := 207) rfl ?_
      refine z_goto (tgt := 133) dL_areOn_207 (by decide) ?_
      refine z_iload dL_areOn_133 rfl (q := 135) rfl ?_
      refine z_iconst (v := 2) dL_areOn_135 rfl (q := 136) rfl ?_
      refine z_icmp_ge (tgt := 210) dL_areOn_136 (by decide) (q := 139) rfl (fun h136_2 => ?_) (fun h136_2 => absurd h136_2 (by decide))
      exact Z.widen (by omega) (by omega) (kk _ hk190)
    · refine z_iconst (v := 1) dL_areOn_197 rfl (q := 198) rfl ?_
      refine z_goto (tgt := 202) dL_areOn_198 (by decide) ?_
      refine z_istore dL_areOn_202 (zle rfl) rfl (q := 204) rfl ?_
      refine z_iinc (v := 1) dL_areOn_204 rfl (by decide) (zle rfl) rfl (q := 207) rfl ?_
      refine z_goto (tgt := 133) dL_areOn_207 (by decide) ?_
      refine z_iload dL_areOn_133 rfl (q := 135) rfl ?_
      refine z_iconst (v := 2) dL_areOn_135 rfl (q := 136) rfl ?_
      refine z_icmp_ge (tgt := 210) dL_areOn_136 (by decide) (q := 139) rfl (fun h136_1 => absurd h136_1 (by decide)) (fun h136_1 => ?_)
      refine z_iload dL_areOn_139 rfl (q := 141) rfl ?_
      refine z_if_eq (tgt := 201) dL_areOn_141 (by decide) (q := 144) rfl (fun h141_1 => absurd h141_1 (by decide)) (fun h141_1 => ?_)
      refine z_aload_n (i := 0) dL_areOn_144 rfl rfl (q := 145) rfl ?_
      refine z_iload_n (i := 3) dL_areOn_145 rfl rfl (q := 146) rfl ?_
      refine z_iload dL_areOn_146 rfl (q := 148) rfl ?_
      refine z_callSA (As := [_, _, _]) dL_areOn_148 kL_154 (l_start (k := i) (t := 1) hI hk190 (by omega) (by decide)) rfl (zle rfl) ⟨zle rfl, zle rfl⟩ (zroom (by omega) (by omega)) (q := 151) rfl (fun hE148 X148 hk148 => ?_)
      refine z_aload_n (i := 0) dL_areOn_151 rfl rfl (q := 152) rfl ?_
      refine z_iload dL_areOn_152 rfl (q := 154) rfl ?_
      refine z_iload dL_areOn_154 rfl (q := 156) rfl ?_
      refine z_callSA (As := [_, _, _]) dL_areOn_156 kL_154 (l_start (k := j) (t := 1) hI hk148 (by omega) (by decide)) rfl (zle rfl) ⟨zle rfl, zle rfl⟩ (zroom (by omega) (by omega)) (q := 159) rfl (fun hE156 X156 hk156 => ?_)
      refine z_aload_n (i := 0) dL_areOn_159 rfl rfl (q := 160) rfl ?_
      refine z_iload dL_areOn_160 rfl (q := 162) rfl ?_
      refine z_iload dL_areOn_162 rfl (q := 164) rfl ?_
      refine z_callSA (As := [_, _, _]) dL_areOn_164 kL_158 (l_size (k := j) (t := 1) hI hk156 (by omega) (by decide)) rfl (zle rfl) ⟨zle rfl, zle rfl⟩ (zroom (by omega) (by omega)) (q := 167) rfl (fun hE164 X164 hk164 => ?_)
      refine z_iadd dL_areOn_167 (q := 168) rfl ?_
      refine z_icmp_ge (tgt := 201) dL_areOn_168 (by decide) (q := 171) rfl (fun h168_1 => ?_) (fun h168_1 => ?_)
      · refine z_iconst (v := 0) dL_areOn_201 rfl (q := 202) rfl ?_
        refine z_istore dL_areOn_202 (zle rfl) rfl (q := 204) rfl ?_
        refine z_iinc (v := 2) dL_areOn_204 rfl (by decide) (zle rfl) rfl (q := 207) rfl ?_
        refine z_goto (tgt := 133) dL_areOn_207 (by decide) ?_
        refine z_iload dL_areOn_133 rfl (q := 135) rfl ?_
        refine z_iconst (v := 2) dL_areOn_135 rfl (q := 136) rfl ?_
        refine z_icmp_ge (tgt := 210) dL_areOn_136 (by decide) (q := 139) rfl (fun h136_2 => ?_) (fun h136_2 => absurd h136_2 (by decide))
        exact Z.widen (by omega) (by omega) (kk _ hk164)
      · refine z_aload_n (i := 0) dL_areOn_171 rfl rfl (q := 172) rfl ?_
        refine z_iload dL_areOn_172 rfl (q := 174) rfl ?_
        refine z_iload dL_areOn_174 rfl (q := 176) rfl ?_
        refine z_callSA (As := [_, _, _]) dL_areOn_176 kL_154 (l_start (k := j) (t := 1) hI hk164 (by omega) (by decide)) rfl (zle rfl) ⟨zle rfl, zle rfl⟩ (zroom (by omega) (by omega)) (q := 179) rfl (fun hE176 X176 hk176 => ?_)
        refine z_aload_n (i := 0) dL_areOn_179 rfl rfl (q := 180) rfl ?_
        refine z_iload_n (i := 3) dL_areOn_180 rfl rfl (q := 181) rfl ?_
        refine z_iload dL_areOn_181 rfl (q := 183) rfl ?_
        refine z_callSA (As := [_, _, _]) dL_areOn_183 kL_154 (l_start (k := i) (t := 1) hI hk176 (by omega) (by decide)) rfl (zle rfl) ⟨zle rfl, zle rfl⟩ (zroom (by omega) (by omega)) (q := 186) rfl (fun hE183 X183 hk183 => ?_)
        refine z_aload_n (i := 0) dL_areOn_186 rfl rfl (q := 187) rfl ?_
        refine z_iload_n (i := 3) dL_areOn_187 rfl rfl (q := 188) rfl ?_
        refine z_iload dL_areOn_188 rfl (q := 190) rfl ?_
        refine z_callSA (As := [_, _, _]) dL_areOn_190 kL_158 (l_size (k := i) (t := 1) hI hk183 (by omega) (by decide)) rfl (zle rfl) ⟨zle rfl, zle rfl⟩ (zroom (by omega) (by omega)) (q := 193) rfl (fun hE190 X190 hk190 => ?_)
        refine z_iadd dL_areOn_193 (q := 194) rfl ?_
        refine z_icmp_ge (tgt := 201) dL_areOn_194 (by decide) (q := 197) rfl (fun h194_1 => ?_) (fun h194_1 => ?_)
        · refine z_iconst (v := 0) dL_areOn_201 rfl (q := 202) rfl ?_
          refine z_istore dL_areOn_202 (zle rfl) rfl (q := 204) rfl ?_
          refine z_iinc (v := 2) dL_areOn_204 rfl (by decide) (zle rfl) rfl (q := 207) rfl ?_
          refine z_goto (tgt := 133) dL_areOn_207 (by decide) ?_
          refine z_iload dL_areOn_133 rfl (q := 135) rfl ?_
          refine z_iconst (v := 2) dL_areOn_135 rfl (q := 136) rfl ?_
          refine z_icmp_ge (tgt := 210) dL_areOn_136 (by decide) (q := 139) rfl (fun h136_2 => ?_) (fun h136_2 => absurd h136_2 (by decide))
          exact Z.widen (by omega) (by omega) (kk _ hk190)
        · exact absurd ⟨⟨h194_0, h168_0⟩, ⟨h194_1, h168_1⟩⟩ (inv_apt hI (i := i) (j := j) (by omega) (by omega) (by omega))
set_option maxRecDepth 100000 in
set_option maxHeartbeats 4000000 in
theorem on_j {n nw i k0 n0 : Nat} {P : zRes → zWorld → Prop} (hI : inv X n nw) (hi : i < n) (hr : k0 + 48 ≤ 400 ∧ n0 + 288 ≤ 2400) (kk : ∀ X2, keep0 X X2 → ∀ e4 e5 e6 : Option Value, Z G mL_areOn (zrm 17 400 2400) (k0 + 48) (n0 + 288) 231 [some (.ref 0), some (.int (nI n)), some (.int 1), some (.int (nI i)), e4, e5, e6] [] (zw X2 Y O) P) : ∀ (m j : Nat), j + m = i → ∀ (X1 : zX) (e5 e6 : Option Value), keep0 X X1 → Z G mL_areOn (zrm 17 400 2400) (k0 + 12 * j) (n0 + 72 * j) 121 [some (.ref 0), some (.int (nI n)), some (.int 1), some (.int (nI i)), some (.int (nI j)), e5, e6] [] (zw X1 Y O) P := by
  have h4 := hI.1
  intro m
  induction m with
  | zero =>
    intro j hj X1 e5 e6 hk
    refine z_iload dL_areOn_121 rfl (q := 123) rfl ?_
    refine z_iload_n (i := 3) dL_areOn_123 rfl rfl (q := 124) rfl ?_
    refine z_icmp_ge (tgt := 231) dL_areOn_124 (by decide) (q := 127) rfl (fun h124 => ?_) (fun h124 => absurd (nI_le (show i ≤ j by omega) (by omega)) h124)
    exact Z.widen (by omega) (by omega) (kk _ hk _ _ _)
  | succ m ih =>
    intro j hj X1 e5 e6 hk
    refine z_iload dL_areOn_121 rfl (q := 123) rfl ?_
    refine z_iload_n (i := 3) dL_areOn_123 rfl rfl (q := 124) rfl ?_
    refine z_icmp_ge (tgt := 231) dL_areOn_124 (by decide) (q := 127) rfl (fun h124 => absurd h124 (nI_ge (show j < i by omega) (by omega))) (fun h124 => ?_)
    refine z_iconst (v := 1) dL_areOn_127 rfl (q := 128) rfl ?_
    refine z_istore dL_areOn_128 (zle rfl) rfl (q := 130) rfl ?_
    refine z_iconst (v := 0) dL_areOn_130 rfl (q := 131) rfl ?_
    refine z_istore dL_areOn_131 (zle rfl) rfl (q := 133) rfl ?_
    refine on_x hI hk (i := i) (j := j) (by omega) (by omega) ⟨by omega, by omega⟩ (fun X2 hk2 => ?_)
    refine z_iload_n (i := 2) dL_areOn_210 rfl rfl (q := 211) rfl ?_
    refine z_if_eq (tgt := 223) dL_areOn_211 (by decide) (q := 214) rfl (fun h211 => absurd h211 (by decide)) (fun h211 => ?_)
    refine z_iload dL_areOn_214 rfl (q := 216) rfl ?_
    refine z_if_ne (tgt := 223) dL_areOn_216 (by decide) (q := 219) rfl (fun h216 => absurd h216 (by decide)) (fun h216 => ?_)
    refine z_iconst (v := 1) dL_areOn_219 rfl (q := 220) rfl ?_
    refine z_goto (tgt := 224) dL_areOn_220 (by decide) ?_
    refine z_istore_n (i := 2) dL_areOn_224 rfl (zle rfl) rfl (q := 225) rfl ?_
    refine z_iinc (v := nI (j + 1)) dL_areOn_225 rfl (nI_add _ _) (zle rfl) rfl (q := 228) rfl ?_
    refine z_goto (tgt := 121) dL_areOn_228 (by decide) ?_
    exact Z.widen (by omega) (by omega) (ih (j + 1) (by omega) _ _ _ hk2)
set_option maxRecDepth 100000 in
set_option maxHeartbeats 4000000 in
theorem on_i {n nw : Nat} (hI : inv X n nw) : ∀ (m i : Nat), i + m = n → ∀ (X1 : zX) (e4 e5 e6 : Option Value), keep0 X X1 → Z G mL_areOn (zrm 17 400 2400) (2 + 54 * i) (12 + 324 * i) 48 [some (.ref 0), some (.int (nI n)), some (.int 1), some (.int (nI i)), e4, e5, e6] [] (zw X1 Y O) (aP X Y O 1 True) := by
  have h4 := hI.1
  intro m
  induction m with
  | zero =>
    intro i hi X1 e4 e5 e6 hk
    refine z_iload_n (i := 3) dL_areOn_48 rfl rfl (q := 49) rfl ?_
    refine z_iload_n (i := 1) dL_areOn_49 rfl rfl (q := 50) rfl ?_
    refine z_icmp_ge (tgt := 237) dL_areOn_50 (by decide) (q := 53) rfl (fun h50 => ?_) (fun h50 => absurd (nI_le (show n ≤ i by omega) (by omega)) h50)
    refine z_iload_n (i := 2) dL_areOn_237 rfl rfl (q := 238) rfl ?_
    exact z_zret dL_areOn_238 rfl (by first | rfl | assumption | decide) (zroom (by omega) (by omega)) ⟨rfl, trivial, _, rfl, hk⟩
  | succ m ih =>
    intro i hi X1 e4 e5 e6 hk
    have hon := on_facts hI (k := i) (by omega)
    refine z_iload_n (i := 3) dL_areOn_48 rfl rfl (q := 49) rfl ?_
    refine z_iload_n (i := 1) dL_areOn_49 rfl rfl (q := 50) rfl ?_
    refine z_icmp_ge (tgt := 237) dL_areOn_50 (by decide) (q := 53) rfl (fun h50 => absurd h50 (nI_ge (show i < n by omega) (by omega))) (fun h50 => ?_)
    refine z_iload_n (i := 2) dL_areOn_53 rfl rfl (q := 54) rfl ?_
    refine z_if_eq (tgt := 237) dL_areOn_54 (by decide) (q := 57) rfl (fun h54 => absurd h54 (by decide)) (fun h54 => ?_)
    refine z_aload_n (i := 0) dL_areOn_57 rfl rfl (q := 58) rfl ?_
    refine z_iload_n (i := 3) dL_areOn_58 rfl rfl (q := 59) rfl ?_
    refine z_iconst (v := 0) dL_areOn_59 rfl (q := 60) rfl ?_
    refine z_callSA (As := [_, _, _]) dL_areOn_60 kL_154 (l_start (k := i) (t := 0) hI hk (by omega) (by decide)) rfl (zle rfl) ⟨zle rfl, zle rfl⟩ (zroom (by omega) (by omega)) (q := 63) rfl (fun hE60 X60 hk60 => ?_)
    refine z_if_lt (tgt := 116) dL_areOn_63 (by decide) (q := 66) rfl (fun h63 => absurd h63 hon.1) (fun h63 => ?_)
    refine z_aload_n (i := 0) dL_areOn_66 rfl rfl (q := 67) rfl ?_
    refine z_iload_n (i := 3) dL_areOn_67 rfl rfl (q := 68) rfl ?_
    refine z_iconst (v := 1) dL_areOn_68 rfl (q := 69) rfl ?_
    refine z_callSA (As := [_, _, _]) dL_areOn_69 kL_154 (l_start (k := i) (t := 1) hI hk60 (by omega) (by decide)) rfl (zle rfl) ⟨zle rfl, zle rfl⟩ (zroom (by omega) (by omega)) (q := 72) rfl (fun hE69 X69 hk69 => ?_)
    refine z_if_lt (tgt := 116) dL_areOn_72 (by decide) (q := 75) rfl (fun h72 => absurd h72 hon.2.1) (fun h72 => ?_)
    refine z_aload_n (i := 0) dL_areOn_75 rfl rfl (q := 76) rfl ?_
    refine z_iload_n (i := 3) dL_areOn_76 rfl rfl (q := 77) rfl ?_
    refine z_iconst (v := 0) dL_areOn_77 rfl (q := 78) rfl ?_
    refine z_callSA (As := [_, _, _]) dL_areOn_78 kL_154 (l_start (k := i) (t := 0) hI hk69 (by omega) (by decide)) rfl (zle rfl) ⟨zle rfl, zle rfl⟩ (zroom (by omega) (by omega)) (q := 81) rfl (fun hE78 X78 hk78 => ?_)
    refine z_aload_n (i := 0) dL_areOn_81 rfl rfl (q := 82) rfl ?_
    refine z_iload_n (i := 3) dL_areOn_82 rfl rfl (q := 83) rfl ?_
    refine z_iconst (v := 0) dL_areOn_83 rfl (q := 84) rfl ?_
    refine z_callSA (As := [_, _, _]) dL_areOn_84 kL_158 (l_size (k := i) (t := 0) hI hk78 (by omega) (by decide)) rfl (zle rfl) ⟨zle rfl, zle rfl⟩ (zroom (by omega) (by omega)) (q := 87) rfl (fun hE84 X84 hk84 => ?_)
    refine z_iadd dL_areOn_87 (q := 88) rfl ?_
    refine z_sipush (v := 200) dL_areOn_88 rfl (q := 91) rfl ?_
    refine z_icmp_gt (tgt := 116) dL_areOn_91 (by decide) (q := 94) rfl (fun h91 => absurd h91 hon.2.2.1) (fun h91 => ?_)
    refine z_aload_n (i := 0) dL_areOn_94 rfl rfl (q := 95) rfl ?_
    refine z_iload_n (i := 3) dL_areOn_95 rfl rfl (q := 96) rfl ?_
    refine z_iconst (v := 1) dL_areOn_96 rfl (q := 97) rfl ?_
    refine z_callSA (As := [_, _, _]) dL_areOn_97 kL_154 (l_start (k := i) (t := 1) hI hk84 (by omega) (by decide)) rfl (zle rfl) ⟨zle rfl, zle rfl⟩ (zroom (by omega) (by omega)) (q := 100) rfl (fun hE97 X97 hk97 => ?_)
    refine z_aload_n (i := 0) dL_areOn_100 rfl rfl (q := 101) rfl ?_
    refine z_iload_n (i := 3) dL_areOn_101 rfl rfl (q := 102) rfl ?_
    refine z_iconst (v := 1) dL_areOn_102 rfl (q := 103) rfl ?_
    refine z_callSA (As := [_, _, _]) dL_areOn_103 kL_158 (l_size (k := i) (t := 1) hI hk97 (by omega) (by decide)) rfl (zle rfl) ⟨zle rfl, zle rfl⟩ (zroom (by omega) (by omega)) (q := 106) rfl (fun hE103 X103 hk103 => ?_)
    refine z_iadd dL_areOn_106 (q := 107) rfl ?_
    refine z_bipush (v := 120) dL_areOn_107 rfl (q := 109) rfl ?_
    refine z_icmp_gt (tgt := 116) dL_areOn_109 (by decide) (q := 112) rfl (fun h109 => absurd h109 hon.2.2.2) (fun h109 => ?_)
    refine z_iconst (v := 1) dL_areOn_112 rfl (q := 113) rfl ?_
    refine z_goto (tgt := 117) dL_areOn_113 (by decide) ?_
    refine z_istore_n (i := 2) dL_areOn_117 rfl (zle rfl) rfl (q := 118) rfl ?_
    refine z_iconst (v := 0) dL_areOn_118 rfl (q := 119) rfl ?_
    refine z_istore dL_areOn_119 (zle rfl) rfl (q := 121) rfl ?_
    refine Z.widen (k2 := 2 + 54 * i + 6 + 12 * 0) (n2 := 12 + 324 * i + 36 + 72 * 0) (by omega) (by omega) (on_j hI (i := i) (by omega) ⟨by omega, by omega⟩ (fun X2 hk2 e4 e5 e6 => ?_) i 0 (by omega) _ _ _ hk103)
    refine z_iinc (v := nI (i + 1)) dL_areOn_231 rfl (nI_add _ _) (zle rfl) rfl (q := 234) rfl ?_
    refine z_goto (tgt := 48) dL_areOn_234 (by decide) ?_
    exact Z.widen (by omega) (by omega) (ih (i + 1) (by omega) _ _ _ _ hk2)
set_option maxRecDepth 100000 in
set_option maxHeartbeats 4000000 in
theorem c_L_areOn_0 {nw : Nat} (hI : inv X 0 nw) (hk : keep0 X X1) : ZM G mL_areOn 17 400 2400 [.ref 0, .int 0] (zw X1 Y O) (aP X Y O 1 True) := by
  have h4 := hI.1
  refine ZM.go pL rfl rfl (zle rfl) (zl := [some (.ref 0), some (.int 0), none, none, none, none, none]) rfl ?_
  refine z_aload_n (i := 0) dL_areOn_0 rfl rfl (q := 1) rfl ?_
  refine z_iconst (v := 0) dL_areOn_1 rfl (q := 2) rfl ?_
  refine z_iload_n (i := 1) dL_areOn_2 rfl rfl (q := 3) rfl ?_
  refine z_bipush (v := 120) dL_areOn_3 rfl (q := 5) rfl ?_
  refine z_iconst (v := 0) dL_areOn_5 rfl (q := 6) rfl ?_
  refine z_callSWA (As := [_, _, _, _, _]) dL_areOn_6 kL_151 (a_out hI hk) rfl (zle rfl) ⟨zle rfl, zle rfl⟩ ⟨zle rfl, zle rfl⟩ (q := 9) rfl (fun hE6 X6 hk6 => ?_)
  refine z_sipush (v := (-2001)) dL_areOn_9 rfl (q := 12) rfl ?_
  refine z_icmp_ne (tgt := 44) dL_areOn_12 (by decide) (q := 15) rfl (fun h12 => absurd h12 (by decide)) (fun h12 => ?_)
  refine z_aload_n (i := 0) dL_areOn_15 rfl rfl (q := 16) rfl ?_
  refine z_iconst (v := 0) dL_areOn_16 rfl (q := 17) rfl ?_
  refine z_iconst (v := 0) dL_areOn_17 rfl (q := 18) rfl ?_
  refine z_bipush (v := 122) dL_areOn_18 rfl (q := 20) rfl ?_
  refine z_iconst (v := 0) dL_areOn_20 rfl (q := 21) rfl ?_
  refine z_callSWA (As := [_, _, _, _, _]) dL_areOn_21 kL_151 (a_z0 hI hk6) rfl (zle rfl) ⟨zle rfl, zle rfl⟩ ⟨zle rfl, zle rfl⟩ (q := 24) rfl (fun hE21 X21 hk21 => ?_)
  refine z_iload_n (i := 1) dL_areOn_24 rfl rfl (q := 25) rfl ?_
  refine z_if_ne (tgt := 34) dL_areOn_25 (by decide) (q := 28) rfl (fun h25 => absurd h25 (by decide)) (fun h25 => ?_)
  refine z_sipush (v := (-2001)) dL_areOn_28 rfl (q := 31) rfl ?_
  refine z_goto (tgt := 37) dL_areOn_31 (by decide) ?_
  refine z_icmp_ne (tgt := 44) dL_areOn_37 (by decide) (q := 40) rfl (fun h37 => absurd h37 (by decide)) (fun h37 => ?_)
  refine z_iconst (v := 1) dL_areOn_40 rfl (q := 41) rfl ?_
  refine z_goto (tgt := 45) dL_areOn_41 (by decide) ?_
  refine z_istore_n (i := 2) dL_areOn_45 rfl (zle rfl) rfl (q := 46) rfl ?_
  refine z_iconst (v := 0) dL_areOn_46 rfl (q := 47) rfl ?_
  refine z_istore_n (i := 3) dL_areOn_47 rfl (zle rfl) rfl (q := 48) rfl ?_
  exact Z.widen (by decide) (by decide) (on_i hI 0 0 (by omega) _ _ _ _ hk21)
set_option maxRecDepth 100000 in
set_option maxHeartbeats 4000000 in
theorem c_L_areOn_n {n nw : Nat} (hI : inv X n nw) (hk : keep0 X X1) (hn : 0 < n) : ZM G mL_areOn 17 400 2400 [.ref 0, .int (nI n)] (zw X1 Y O) (aP X Y O 1 True) := by
  have h4 := hI.1
  refine ZM.go pL rfl rfl (zle rfl) (zl := [some (.ref 0), some (.int (nI n)), none, none, none, none, none]) rfl ?_
  refine z_aload_n (i := 0) dL_areOn_0 rfl rfl (q := 1) rfl ?_
  refine z_iconst (v := 0) dL_areOn_1 rfl (q := 2) rfl ?_
  refine z_iload_n (i := 1) dL_areOn_2 rfl rfl (q := 3) rfl ?_
  refine z_bipush (v := 120) dL_areOn_3 rfl (q := 5) rfl ?_
  refine z_iconst (v := 0) dL_areOn_5 rfl (q := 6) rfl ?_
  refine z_callSWA (As := [_, _, _, _, _]) dL_areOn_6 kL_151 (a_out hI hk) rfl (zle rfl) ⟨zle rfl, zle rfl⟩ ⟨zle rfl, zle rfl⟩ (q := 9) rfl (fun hE6 X6 hk6 => ?_)
  refine z_sipush (v := (-2001)) dL_areOn_9 rfl (q := 12) rfl ?_
  refine z_icmp_ne (tgt := 44) dL_areOn_12 (by decide) (q := 15) rfl (fun h12 => absurd h12 (by decide)) (fun h12 => ?_)
  refine z_aload_n (i := 0) dL_areOn_15 rfl rfl (q := 16) rfl ?_
  refine z_iconst (v := 0) dL_areOn_16 rfl (q := 17) rfl ?_
  refine z_iconst (v := 0) dL_areOn_17 rfl (q := 18) rfl ?_
  refine z_bipush (v := 122) dL_areOn_18 rfl (q := 20) rfl ?_
  refine z_iconst (v := 0) dL_areOn_20 rfl (q := 21) rfl ?_
  refine z_callSWA (As := [_, _, _, _, _]) dL_areOn_21 kL_151 (a_z hI hk6 hn) rfl (zle rfl) ⟨zle rfl, zle rfl⟩ ⟨zle rfl, zle rfl⟩ (q := 24) rfl (fun hE21 X21 hk21 => ?_)
  refine z_iload_n (i := 1) dL_areOn_24 rfl rfl (q := 25) rfl ?_
  refine z_if_ne (tgt := 34) dL_areOn_25 (by decide) (q := 28) rfl (fun h25 => ?_) (fun h25 => absurd h25 (nI_ne0 hn (by omega)))
  refine z_sipush (v := (-2002)) dL_areOn_34 rfl (q := 37) rfl ?_
  refine z_icmp_ne (tgt := 44) dL_areOn_37 (by decide) (q := 40) rfl (fun h37 => absurd h37 (by decide)) (fun h37 => ?_)
  refine z_iconst (v := 1) dL_areOn_40 rfl (q := 41) rfl ?_
  refine z_goto (tgt := 45) dL_areOn_41 (by decide) ?_
  refine z_istore_n (i := 2) dL_areOn_45 rfl (zle rfl) rfl (q := 46) rfl ?_
  refine z_iconst (v := 0) dL_areOn_46 rfl (q := 47) rfl ?_
  refine z_istore_n (i := 3) dL_areOn_47 rfl (zle rfl) rfl (q := 48) rfl ?_
  exact Z.widen (by decide) (by decide) (on_i hI n 0 (by omega) _ _ _ _ hk21)
set_option maxRecDepth 100000 in
set_option maxHeartbeats 4000000 in
theorem c_L_areOn {n nw : Nat} (hI : inv X n nw) (hk : keep0 X X1) : ZM G mL_areOn 17 400 2400 [.ref 0, .int (nI n)] (zw X1 Y O) (aP X Y O 1 True) := by
  rcases Nat.eq_zero_or_pos n with rfl | h
  · exact c_L_areOn_0 hI hk
  · exact c_L_areOn_n hI hk h
end
