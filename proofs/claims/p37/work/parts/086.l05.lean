section
variable {G : zG} {X X1 X2 X3 : zX} {Y : zY} {O : zO}
set_option maxRecDepth 100000 in
set_option maxHeartbeats 4000000 in
theorem zkn {n : Nat} : ∀ v ∈ ([] : List Value), zok n v := fun _ h => by cases h
set_option maxRecDepth 100000 in
set_option maxHeartbeats 4000000 in
theorem zkc {n : Nat} {a : Value} {l : List Value} (h : zok n a) (t : ∀ v ∈ l, zok n v) : ∀ v ∈ a :: l, zok n v := List.forall_mem_cons.mpr ⟨h, t⟩
set_option maxRecDepth 100000 in
set_option maxHeartbeats 4000000 in
theorem zwn {n : Nat} : ∀ c ∈ ([] : zWorld), zokC n c := fun _ h => by cases h
set_option maxRecDepth 100000 in
set_option maxHeartbeats 4000000 in
theorem zwc {n : Nat} {a : zCell} {l : zWorld} (h : zokC n a) (t : ∀ c ∈ l, zokC n c) : ∀ c ∈ a :: l, zokC n c := List.forall_mem_cons.mpr ⟨h, t⟩
set_option maxRecDepth 100000 in
set_option maxHeartbeats 4000000 in
theorem zw_ok : zokW (zw X [] O) := by
  have h : ∀ c ∈ zw X [] O, zokC 77 c := (zwc (zkc (Or.inl (by decide)) (zkc (Or.inl (by decide)) (zkc (Or.inl (by decide)) (zkc (Or.inl (by decide)) (zkc (Or.inl (by decide)) (zkc (Or.inl (by decide)) (zkc (Or.inl (by decide)) (zkc (Or.inl (by decide)) (zkc (Or.inl (by decide)) (zkc (Or.inl (by decide)) (zkc trivial zkn))))))))))) (zwc (zkc trivial (zkc (Or.inl (by decide)) (zkc (Or.inl (by decide)) zkn))) (zwc (zkc (Or.inl (by decide)) (zkc trivial zkn)) (zwc trivial (zwc (zkc (Or.inl (by decide)) (zkc trivial zkn)) (zwc trivial (zwc (zkc trivial (zkc (Or.inl (by decide)) (zkc (Or.inl (by decide)) zkn))) (zwc (zkc (Or.inl (by decide)) (zkc trivial zkn)) (zwc trivial (zwc (zkc (Or.inl (by decide)) (zkc trivial zkn)) (zwc trivial (zwc (zkc (Or.inl (by decide)) (zkc trivial zkn)) (zwc trivial (zwc (zkc (Or.inl (by decide)) (zkc trivial zkn)) (zwc trivial (zwc (zkc (Or.inl (by decide)) (zkc (Or.inl (by decide)) (zkc (Or.inl (by decide)) (zkc (Or.inl (by decide)) (zkc (Or.inl (by decide)) zkn))))) (zwc (zkc (Or.inl (by decide)) (zkc trivial zkn)) (zwc trivial (zwc (zkc (Or.inl (by decide)) (zkc trivial zkn)) (zwc trivial (zwc (zkc (Or.inl (by decide)) (zkc trivial zkn)) (zwc trivial (zwc (zkc (Or.inl (by decide)) (zkc trivial zkn)) (zwc trivial (zwc (zkc (Or.inl (by decide)) (zkc trivial zkn)) (zwc trivial (zwc (zkc (Or.inl (by decide)) (zkc (Or.inl (by decide)) (zkc (Or.inl (by decide)) (zkc (Or.inl (by decide)) (zkc (Or.inl (by decide)) (zkc (Or.inl (by decide)) (zkc trivial (zkc trivial zkn)))))))) (zwc (zkc (Or.inl (by decide)) (zkc (Or.inl (by decide)) (zkc (Or.inl (by decide)) zkn))) (zwc (zkc (Or.inl (by decide)) (zkc trivial zkn)) (zwc trivial (zwc (zkc (Or.inl (by decide)) (zkc trivial zkn)) (zwc trivial (zwc (zkc (Or.inl (by decide)) (zkc trivial zkn)) (zwc trivial (zwc (zkc (Or.inl (by decide)) (zkc (Or.inl (by decide)) (zkc (Or.inl (by decide)) (zkc (Or.inl (by decide)) (zkc (Or.inl (by decide)) (zkc (Or.inl (by decide)) (zkc (Or.inl (by decide)) zkn))))))) (zwc (zkc (Or.inl (by decide)) (zkc trivial zkn)) (zwc trivial (zwc (zkc (Or.inl (by decide)) (zkc trivial zkn)) (zwc trivial (zwc (zkc (Or.inl (by decide)) (zkc trivial zkn)) (zwc trivial (zwc (zkc (Or.inl (by decide)) (zkc trivial zkn)) (zwc trivial (zwc (zkc (Or.inl (by decide)) (zkc trivial zkn)) (zwc trivial (zwc (zkc (Or.inl (by decide)) (zkc trivial zkn)) (zwc trivial (zwc (zkc (Or.inl (by decide)) (zkc trivial zkn)) (zwc trivial (zwc (zkc (Or.inl (by decide)) (zkc trivial zkn)) (zwc trivial (zwc (zkc (Or.inl (by decide)) (zkc trivial zkn)) (zwc trivial (zwc (zkc (Or.inl (by decide)) (zkc trivial zkn)) (zwc trivial (zwc (zkc (Or.inl (by decide)) (zkc trivial zkn)) (zwc trivial (zwc (zkc (Or.inl (by decide)) (zkc (Or.inl (by decide)) (zkc (Or.inl (by decide)) (zkc (Or.inl (by decide)) (zkc (Or.inl (by decide)) (zkc trivial (zkc trivial (zkc trivial (zkc trivial zkn))))))))) (zwc (zkc (Or.inl (by decide)) (zkc trivial zkn)) (zwc trivial (zwc (zkc (Or.inl (by decide)) (zkc trivial zkn)) (zwc trivial (zwc (zkc (Or.inl (by decide)) (zkc trivial zkn)) (zwc trivial (zwc (zkc (Or.inl (by decide)) (zkc trivial zkn)) (zwc trivial (zwc (zkc (Or.inl (by decide)) (zkc trivial zkn)) (zwc trivial (zwc (zkc (Or.inl (by decide)) (zkc (Or.inl (by decide)) zkn)) (zwc (zkc (Or.inl (by decide)) (zkc trivial zkn)) (zwc trivial (zwc (zkc (Or.inl (by decide)) (zkc trivial zkn)) (zwc trivial (zwc (zkc (Or.inl (by decide)) (zkc trivial zkn)) (zwc trivial (zwc (zkc (Or.inl (by decide)) (zkc trivial zkn)) (zwc trivial zwn)))))))))))))))))))))))))))))))))))))))))))))))))))))))))))))))))))))))))))))
  have hl : (zw X [] O).length = 77 := zw_len X [] O
  refine ⟨by rw [hl]; decide, ?_⟩
  rw [hl]
  exact h
set_option maxRecDepth 100000 in
set_option maxHeartbeats 4000000 in
def dP (Y : zY) (O : zO) (v : Int32) (S : zX → Prop) : zRes → zWorld → Prop := fun r w => ∃ X3, r = .inl (some (.int v)) ∧ w = zw X3 Y O ∧ S X3
set_option maxRecDepth 100000 in
set_option maxHeartbeats 4000000 in
theorem z_callSWD {M : zM} {R : Room} {k n pc q : Nat} {zl : List (Option Value)} {st : List Value} {w : zWorld} {P : zRes → zWorld → Prop} {ix d mc ms : Nat} {M2 : zM} {As st0 : List Value} {v : Int32} {S : zX → Prop} {hh : List (Nat × Nat × Nat × Nat)} (hd : decode M.code pc = .ok (.invokestatic ix, 3)) (hs : zCalSW M.y.cls ix M2 As.length hh) (hM : ZM G M2 d mc ms As w (dP Y O v S))
    (hst0 : st0 = As.reverse ++ st) (hW : (st.map fun v => v.category).sum ≤ 8) (hR : d + 11 ≤ R.frames ∧ M2.maxL + (60 * d + 319) ≤ R.locals) (hf : k + mc ≤ R.cells ∧ n + ms ≤ R.slots) (hq : pc + 3 = q)
    (kk : ∀ X3, S X3 → Z G M R (k + mc) (n + ms) q zl (.int v :: st) (zw X3 Y O) P) : Z G M R k n pc zl st0 w P :=
  z_callSW hd hs hM hst0 hW hR hf hq (fun rv w2 hw2 => by
    obtain ⟨X3, h1, rfl, h3⟩ := hw2
    cases h1
    exact kk X3 h3) (fun E w2 hw2 => by obtain ⟨X3, h1, -⟩ := hw2; cases h1)
set_option maxRecDepth 100000 in
set_option maxHeartbeats 4000000 in
theorem z_callSD {M : zM} {R : Room} {k n pc q : Nat} {zl : List (Option Value)} {st : List Value} {w : zWorld} {P : zRes → zWorld → Prop} {ix d mc ms : Nat} {M2 : zM} {As st0 : List Value} {v : Int32} {S : zX → Prop} (hd : decode M.code pc = .ok (.invokestatic ix, 3)) (hs : zCalS M.y.cls ix M2 As.length) (hM : ZM G M2 d mc ms As w (dP Y O v S))
    (hst0 : st0 = As.reverse ++ st) (hW : (st.map fun v => v.category).sum ≤ 8) (hR : d + 11 ≤ R.frames ∧ M2.maxL + (60 * d + 319) ≤ R.locals) (hf : k + mc ≤ R.cells ∧ n + ms ≤ R.slots) (hq : pc + 3 = q)
    (kk : ∀ X3, S X3 → Z G M R (k + mc) (n + ms) q zl (.int v :: st) (zw X3 Y O) P) : Z G M R k n pc zl st0 w P :=
  z_callS hd hs hM hst0 hW hR hf hq (fun rv w2 hw2 => by
    obtain ⟨X3, h1, rfl, h3⟩ := hw2
    cases h1
    exact kk X3 h3) (fun E w2 hw2 => by obtain ⟨X3, h1, -⟩ := hw2; cases h1)
set_option maxRecDepth 100000 in
set_option maxHeartbeats 4000000 in
theorem lg_self (x : Int64) : lg_cmp x x = 0 := by
  unfold lg_cmp
  rw [if_neg (by simp), if_pos rfl]
/- a deed with one answer -/
set_option maxRecDepth 100000 in
set_option maxHeartbeats 4000000 in
theorem deed_of {i a b c d v : Int32} {P : zRes → zWorld → Prop} {S : zX → Prop} (h : ZM G mL_plain 14 1 6 [.ref 0, .int i, .int a, .int b, .int c, .int d] (zw X1 Y O) P) (ho : ∀ r w2, P r w2 → okRes ALL r) (hv : ∀ r w2, P r w2 → lans r = v ∧ ∃ X2, w2 = zw X2 Y O ∧ S X2) : ZM G mL_deed 15 1 6 [.ref 0, .int i, .int a, .int b, .int c, .int d] (zw X1 Y O) (dP Y O v S) :=
  (c_L_deed h ho).mono fun r w hr => by
    obtain ⟨r0, h1, h2⟩ := hr
    obtain ⟨h3, X2, h4, h5⟩ := hv r0 w h1
    exact ⟨X2, by rw [h2, h3], h4, h5⟩
set_option maxRecDepth 100000 in
set_option maxHeartbeats 4000000 in
def mvT (X : zX) (t n nw : Nat) (X3 : zX) : Prop := inv X3 n nw ∧ (∀ r, r ≤ 10 → r ≠ 2 * t → X3.2.1 r = X.2.1 r) ∧ (∀ k, k < n → X3.2.1 (2 * t) k = tS X t n nw k) ∧ X3.2.2.2 = X.2.2.2 + (tC X t n nw).toInt64
set_option maxRecDepth 100000 in
set_option maxHeartbeats 4000000 in
theorem mvR_T {n nw t : Nat} {B : bst} (hI : inv X n nw) (hk : keep0 X X1) (ht : t < 2) (hB : tdR X1 t n nw B) (hm : mvR X1 t n B.2.2 B.2.1 X3) : mvT X t n nw X3 := by
  have hB2 := tdR_keep hk ht hB
  have hv := td_val hI ht hB2
  refine ⟨td_inv (inv_keep hk hI) ht hB hm, fun r hr hne => (hm.1 r hr hne).2.trans (hk.1 r hr).2, fun k hkn => (hm.2.2.1 k hkn).trans (hv.2.2 k hkn), ?_⟩
  rw [hm.2.2.2, hk.2, hv.2.1]
set_option maxRecDepth 100000 in
set_option maxHeartbeats 4000000 in
theorem d_tidy {n nw t : Nat} {b c d : Int32} (hI : inv X n nw) (hk : keep0 X X1) (ht : t < 2) : ZM G mL_deed 15 1 6 [.ref 0, .int 7, .int (zch t), .int b, .int c, .int d] (zw X1 Y O) (dP Y O (tC X t n nw) (mvT X t n nw)) :=
  deed_of (c_L_plain_7 (zch_c ht) (cx_tidy (inv_keep hk hI) ht) (fun r w h => by obtain ⟨_, _, _, h, _⟩ := h; exact ok_int h)) (fun r w h => by obtain ⟨_, _, _, h, _⟩ := h; exact ok_int h) (fun r w h => by
    obtain ⟨X3, B, h1, h2, h3, h4⟩ := h
    exact ⟨(la_int h2).trans (td_val hI ht (tdR_keep hk ht h1)).2.1, X3, h3, mvR_T hI hk ht h1 h4⟩)
set_option maxRecDepth 100000 in
set_option maxHeartbeats 4000000 in
theorem tid_str {n nw t : Nat} (hI : inv X n nw) (ht : t < 2) (hE : tdOk X t n nw) (hm : mvT X t n nw X3) : frc X3 t nw (X3.2.1 (2 * t)) = tV X t n nw :=
  (str_of (X := X3) (X3 := X3) hm.1 ht (fun _ _ _ => rfl) (fun _ _ => rfl)).symm.trans ((str_of hI ht hm.2.1 hm.2.2.1).trans (td_facts hI ht hE).2.1)
set_option maxRecDepth 100000 in
set_option maxHeartbeats 4000000 in
theorem tid_mv {n nw t : Nat} {X4 : zX} (hI : inv X n nw) (ht : t < 2) (hE : tdOk X t n nw) (hm : mvT X t n nw X3) (hk : keep0 X3 X4) : lg_cmp X4.2.2.2 (X.2.2.2 + (cst X t n (tS X t n nw)).toInt64) = 0 := by
  rw [hk.2, hm.2.2.2, (td_facts hI ht hE).1]
  exact lg_self _
set_option maxRecDepth 100000 in
set_option maxHeartbeats 4000000 in
theorem tid_lk {n nw t k : Nat} (hI : inv X n nw) (ht : t < 2) (hE : tdOk X t n nw) (hm : mvT X t n nw X3) (hk : k < n) (hl : ¬ X.2.1 4 k = 0) : X3.2.1 (2 * t) k = X.2.1 (2 * t) k := (hm.2.2.1 k hk).trans ((td_facts hI ht hE).2.2.2 k hk hl)
set_option maxRecDepth 100000 in
set_option maxHeartbeats 4000000 in
def nxP (X : zX) (n nw : Nat) (O : zO) : zRes → zWorld → Prop := fun r w => r = .inl (some (.int 1)) ∧ ∃ X4, w = zw X4 [] O ∧ inv X4 n nw ∧ X4.2.1 4 = X.2.1 4
set_option maxRecDepth 100000 in
set_option maxHeartbeats 4000000 in
def nxQ (X : zX) (n nw : Nat) (O : zO) : zRes → zWorld → Prop := fun r w => r = .inl (some (.int 1)) ∧ ∃ (X4 : zX) (Y : zY), w = zw X4 Y O ∧ inv X4 n nw ∧ X4.2.1 4 = X.2.1 4
set_option maxRecDepth 100000 in
set_option maxHeartbeats 4000000 in
theorem zw_cut (X : zX) (Y : zY) (O : zO) : zw X Y O = zw X [] O ++ Y := rfl
set_option maxRecDepth 100000 in
set_option maxHeartbeats 4000000 in
theorem nx_drop {M : zM} {d mc ms n nw : Nat} {av : List Value} (h : ZM G M d mc ms av (zw X1 [] O) (nxQ X n nw O)) : ZM G M d mc ms av (zw X1 [] O) (nxP X n nw O) :=
  h.drop fun r w2 hw => by
    obtain ⟨h1, X4, Y, h2, h3, h4⟩ := hw
    exact ⟨1, zw X4 [] O, Y, h1, h2.trans (zw_cut X4 Y O), by rw [zw_len, zw_len]; exact Nat.le_refl _, fun _ => zw_ok, h1, X4, rfl, h3, h4⟩
set_option maxRecDepth 100000 in
set_option maxHeartbeats 4000000 in
abbrev ar2 (f g : Nat → Int32) : zY := [Sum.inl (0, 4, .inl f), Sum.inl (0, 4, .inl g)]
end
