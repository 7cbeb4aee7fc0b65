section
variable {G : zG} {X X1 X2 X3 : zX} {Y : zY} {O : zO}
set_option maxRecDepth 100000 in
set_option maxHeartbeats 4000000 in
def aP (X : zX) (Y : zY) (O : zO) (v : Int32) (E : Prop) : zRes → zWorld → Prop := fun r w => r = .inl (some (.int v)) ∧ E ∧ ∃ X2, w = zw X2 Y O ∧ keep0 X X2
set_option maxRecDepth 100000 in
set_option maxHeartbeats 4000000 in
theorem z_callSA {M : zM} {R : Room} {k n pc q : Nat} {zl : List (Option Value)} {st : List Value} {w : zWorld} {P : zRes → zWorld → Prop} {ix d mc ms : Nat} {M2 : zM} {As st0 : List Value} {v : Int32} {E : Prop} (hd : decode M.code pc = .ok (.invokestatic ix, 3)) (hs : zCalS M.y.cls ix M2 As.length) (hM : ZM G M2 d mc ms As w (aP X Y O v E))
    (hst0 : st0 = As.reverse ++ st) (hW : (st.map fun v => v.category).sum ≤ 8) (hR : d + 11 ≤ R.frames ∧ M2.maxL + (60 * d + 319) ≤ R.locals) (hf : k + mc ≤ R.cells ∧ n + ms ≤ R.slots) (hq : pc + 3 = q)
    (kk : E → ∀ X2, keep0 X X2 → Z G M R (k + mc) (n + ms) q zl (.int v :: st) (zw X2 Y O) P) : Z G M R k n pc zl st0 w P :=
  z_callS hd hs hM hst0 hW hR hf hq (fun rv w2 hw2 => by
    obtain ⟨h1, h2, X2, rfl, h3⟩ := hw2
    cases h1
    exact kk h2 X2 h3) (fun E w2 hw2 => by cases hw2.1)
set_option maxRecDepth 100000 in
set_option maxHeartbeats 4000000 in
theorem z_callSWA {M : zM} {R : Room} {k n pc q : Nat} {zl : List (Option Value)} {st : List Value} {w : zWorld} {P : zRes → zWorld → Prop} {ix d mc ms : Nat} {M2 : zM} {As st0 : List Value} {v : Int32} {E : Prop} {hh : List (Nat × Nat × Nat × Nat)} (hd : decode M.code pc = .ok (.invokestatic ix, 3)) (hs : zCalSW M.y.cls ix M2 As.length hh) (hM : ZM G M2 d mc ms As w (aP X Y O v E))
    (hst0 : st0 = As.reverse ++ st) (hW : (st.map fun v => v.category).sum ≤ 8) (hR : d + 11 ≤ R.frames ∧ M2.maxL + (60 * d + 319) ≤ R.locals) (hf : k + mc ≤ R.cells ∧ n + ms ≤ R.slots) (hq : pc + 3 = q)
    (kk : E → ∀ X2, keep0 X X2 → Z G M R (k + mc) (n + ms) q zl (.int v :: st) (zw X2 Y O) P) : Z G M R k n pc zl st0 w P :=
  z_callSW hd hs hM hst0 hW hR hf hq (fun rv w2 hw2 => by
    obtain ⟨h1, h2, X2, rfl, h3⟩ := hw2
    cases h1
    exact kk h2 X2 h3) (fun E w2 hw2 => by cases hw2.1)
set_option maxRecDepth 100000 in
set_option maxHeartbeats 4000000 in
theorem ask_of {i a b c v : Int32} {P : zRes → zWorld → Prop} {E : Prop} (h : ZM G mL_asked 14 1 6 [.ref 0, .int i, .int a, .int b, .int c] (zw X1 Y O) P) (ho : ∀ r w2, P r w2 → okRes ASK r) (hv : ∀ r w2, P r w2 → lans r = v ∧ E ∧ ∃ X2, w2 = zw X2 Y O ∧ keep0 X X2) : ZM G mL_ask 15 1 6 [.ref 0, .int i, .int a, .int b, .int c] (zw X1 Y O) (aP X Y O v E) :=
  (c_L_ask h ho).mono fun r w hr => by
    obtain ⟨r0, h1, h2⟩ := hr
    obtain ⟨h3, h4, h5⟩ := hv r0 w h1
    exact ⟨by rw [h2, h3], h4, h5⟩
set_option maxRecDepth 100000 in
set_option maxHeartbeats 4000000 in
theorem ok_int {L : List String} {r : zRes} {v : Int32} (h : r = .inl (some (.int v))) : okRes L r := Or.inl ⟨v, h⟩
set_option maxRecDepth 100000 in
set_option maxHeartbeats 4000000 in
theorem ok_thr {L : List String} {r : zRes} {E : String} (h : r = .inr E) (hE : E ∈ L) : okRes L r := Or.inr ⟨E, hE, h⟩
set_option maxRecDepth 100000 in
set_option maxHeartbeats 4000000 in
theorem la_int {r : zRes} {v : Int32} (h : r = .inl (some (.int v))) : lans r = v := by rw [h]; rfl
set_option maxRecDepth 100000 in
set_option maxHeartbeats 4000000 in
theorem la_ioobe {r : zRes} (h : r = .inr eIOOBE) : lans r = -2001 := by rw [h]; decide +kernel
set_option maxRecDepth 100000 in
set_option maxHeartbeats 4000000 in
theorem la_iae {r : zRes} (h : r = .inr eIAE) : lans r = -2002 := by rw [h]; decide +kernel
set_option maxRecDepth 100000 in
set_option maxHeartbeats 4000000 in
theorem la_ise {r : zRes} (h : r = .inr eISE) : lans r = -2003 := by rw [h]; decide +kernel
set_option maxRecDepth 100000 in
set_option maxHeartbeats 4000000 in
theorem la_uoe {r : zRes} (h : r = .inr eUOE) : lans r = -2004 := by rw [h]; decide +kernel
set_option maxRecDepth 100000 in
set_option maxHeartbeats 4000000 in
theorem la_nse {r : zRes} (h : r = .inr eNSE) : lans r = -2005 := by rw [h]; decide +kernel
set_option maxRecDepth 100000 in
set_option maxHeartbeats 4000000 in
theorem a_start {n nw k t : Nat} {c : Int32} (hI : inv X n nw) (hk : keep0 X X1) (hkn : k < n) (ht : t < 2) : ZM G mL_ask 15 1 6 [.ref 0, .int 0, .int (nI k), .int (zch t), .int c] (zw X1 Y O) (aP X Y O (X.2.1 (2 * t) k) True) :=
  ask_of (c_L_asked_0 (zch_c ht) (c_X8_startOf (inv_n (inv_keep hk hI)) hI.1 hkn ht) (fun r w h => ok_int h.1)) (fun r w h => ok_int h.1) (fun r w h => ⟨(la_int h.1).trans (keep0_f hk (by omega) k), trivial, X1, h.2, hk⟩)
set_option maxRecDepth 100000 in
set_option maxHeartbeats 4000000 in
theorem a_size {n nw k t : Nat} {c : Int32} (hI : inv X n nw) (hk : keep0 X X1) (hkn : k < n) (ht : t < 2) : ZM G mL_ask 15 1 6 [.ref 0, .int 1, .int (nI k), .int (zch t), .int c] (zw X1 Y O) (aP X Y O (X.2.1 (2 * t + 1) k) True) :=
  ask_of (c_L_asked_1 (zch_c ht) (c_X8_sizeOf (inv_n (inv_keep hk hI)) hI.1 hkn ht) (fun r w h => ok_int h.1)) (fun r w h => ok_int h.1) (fun r w h => ⟨(la_int h.1).trans (keep0_f hk (by omega) k), trivial, X1, h.2, hk⟩)
set_option maxRecDepth 100000 in
set_option maxHeartbeats 4000000 in
theorem a_out {n nw : Nat} {c : Int32} (hI : inv X n nw) (hk : keep0 X X1) : ZM G mL_ask 15 1 6 [.ref 0, .int 0, .int (nI n), .int 120, .int c] (zw X1 Y O) (aP X Y O (-2001) True) :=
  ask_of (c_L_asked_0 (b2 := 120) (by decide) (c_X8_startOf_out (inv_n (inv_keep hk hI)) (Or.inr (Int32.le_refl _))) (fun r w h => ok_thr h.1 (by simp))) (fun r w h => ok_thr h.1 (by simp)) (fun r w h => ⟨la_ioobe h.1, trivial, X1, h.2, hk⟩)
set_option maxRecDepth 100000 in
set_option maxHeartbeats 4000000 in
theorem a_z0 {nw : Nat} {c : Int32} (hI : inv X 0 nw) (hk : keep0 X X1) : ZM G mL_ask 15 1 6 [.ref 0, .int 0, .int 0, .int 122, .int c] (zw X1 Y O) (aP X Y O (-2001) True) :=
  ask_of (c_L_asked_0 (b2 := 122) (by decide) (c_X8_startOf_out (inv_n (inv_keep hk hI)) (Or.inr (Int32.le_refl 0))) (fun r w h => ok_thr h.1 (by simp))) (fun r w h => ok_thr h.1 (by simp)) (fun r w h => ⟨la_ioobe h.1, trivial, X1, h.2, hk⟩)
set_option maxRecDepth 100000 in
set_option maxHeartbeats 4000000 in
theorem a_z {n nw : Nat} {c : Int32} (hI : inv X n nw) (hk : keep0 X X1) (hn : 0 < n) : ZM G mL_ask 15 1 6 [.ref 0, .int 0, .int 0, .int 122, .int c] (zw X1 Y O) (aP X Y O (-2002) True) :=
  ask_of (c_L_asked_0 (b2 := 122) (by decide) (c_X8_startOf_ax (k := 0) (inv_n (inv_keep hk hI)) hI.1 hn (by decide) (by decide)) (fun r w h => ok_thr h.1 (by simp))) (fun r w h => ok_thr h.1 (by simp)) (fun r w h => ⟨la_iae h.1, trivial, X1, h.2, hk⟩)
set_option maxRecDepth 100000 in
set_option maxHeartbeats 4000000 in
theorem a_reason {n nw k : Nat} {l t : Int32} (hI : inv X n nw) (hk : keep0 X X1) (hkn : k < n) : ZM G mL_ask 15 1 6 [.ref 0, .int 2, .int (nI k), .int l, .int t] (zw X1 Y O) (aP X Y O (mvh X n k l t) True) :=
  ask_of (c_L_asked_2 (c_X8_moveReason (inv_n (inv_keep hk hI)) hI.1 hkn) (fun r w h => ok_int h.1)) (fun r w h => ok_int h.1) (fun r w h => ⟨(la_int h.1).trans (mvh_keep hk), trivial, X1, h.2, hk⟩)
set_option maxRecDepth 100000 in
set_option maxHeartbeats 4000000 in
theorem a_strength {n nw t : Nat} {b c : Int32} (hI : inv X n nw) (hk : keep0 X X1) (ht : t < 2) : ZM G mL_ask 15 1 6 [.ref 0, .int 7, .int (zch t), .int b, .int c] (zw X1 Y O) (aP X Y O (frc X t nw (X.2.1 (2 * t))) True) :=
  ask_of (c_L_asked_7 (zch_c ht) (c_X8_strength ht (inv_w (inv_keep hk hI)) hI.2.1 (wshapes_self (inv_keep hk hI))) (fun r w h => ok_int h.1)) (fun r w h => ok_int h.1) (fun r w h => ⟨(la_int h.1).trans (str_of hI ht (fun r hr _ => (hk.1 r hr).2) (fun k _ => keep0_f hk (by omega) k)), trivial, X1, h.2, hk⟩)
set_option maxRecDepth 100000 in
set_option maxHeartbeats 4000000 in
theorem cx_best {n nw t : Nat} (hI : inv X1 n nw) (ht : t < 2) : ZM G mX8_bestStrength 13 1 6 [.ref 0, .int (zch t)] (zw X1 Y O) (fun r w2 => ∃ (X2 : zX) (B : bst), tdR X1 t n nw B ∧ r = .inl (some (.int (nI (B.1)))) ∧ w2 = zw X2 Y O ∧ keep0 X1 X2) := by
  rcases (show t = 0 ∨ t = 1 by omega) with rfl | rfl
  · exact c_X8_bestStrength_0 hI
  · exact c_X8_bestStrength_1 hI
set_option maxRecDepth 100000 in
set_option maxHeartbeats 4000000 in
theorem cx_tidyCost {n nw t : Nat} (hI : inv X1 n nw) (ht : t < 2) : ZM G mX8_tidyCost 13 1 6 [.ref 0, .int (zch t)] (zw X1 Y O) (fun r w2 => ∃ (X2 : zX) (B : bst), tdR X1 t n nw B ∧ r = .inl (some (.int (nI (B.2.1)))) ∧ w2 = zw X2 Y O ∧ keep0 X1 X2) := by
  rcases (show t = 0 ∨ t = 1 by omega) with rfl | rfl
  · exact c_X8_tidyCost_0 hI
  · exact c_X8_tidyCost_1 hI
set_option maxRecDepth 100000 in
set_option maxHeartbeats 4000000 in
theorem cx_tidyStart {n nw t k : Nat} (hI : inv X1 n nw) (ht : t < 2) (hkn : k < n) : ZM G mX8_tidyStart 13 1 6 [.ref 0, .int (nI k), .int (zch t)] (zw X1 Y O) (fun r w2 => ∃ (X2 : zX) (B : bst), tdR X1 t n nw B ∧ r = .inl (some (.int (nI (B.2.2 k)))) ∧ w2 = zw X2 Y O ∧ keep0 X1 X2) := by
  rcases (show t = 0 ∨ t = 1 by omega) with rfl | rfl
  · exact c_X8_tidyStart_0 hI hkn
  · exact c_X8_tidyStart_1 hI hkn
set_option maxRecDepth 100000 in
set_option maxHeartbeats 4000000 in
theorem cx_bestByAll {n nw t : Nat} (hI : inv X1 n nw) (ht : t < 2) : ZM G mX8_bestByAll 13 1 6 [.ref 0, .int (zch t)] (zw X1 Y O) (fun r w2 => ∃ (X2 : zX) (g : Nat), taR X1 t n nw g ∧ r = .inl (some (.int (nI g))) ∧ w2 = zw X2 Y O ∧ keep0 X1 X2) := by
  rcases (show t = 0 ∨ t = 1 by omega) with rfl | rfl
  · exact c_X8_bestByAll_0 hI
  · exact c_X8_bestByAll_1 hI
set_option maxRecDepth 100000 in
set_option maxHeartbeats 4000000 in
theorem cx_evenCost {n nw t : Nat} (hI : inv X1 n nw) (ht : t < 2) : ZM G mX8_evenCost 6 1 6 [.ref 0, .int (zch t)] (zw X1 Y O) (fun r w2 => ∃ (X2 : zX) (o : Nat → Nat) (b : eb), evR X1 t n o b ∧ r = evAns b ∧ w2 = zw X2 Y O ∧ keep0 X1 X2) := by
  rcases (show t = 0 ∨ t = 1 by omega) with rfl | rfl
  · exact c_X8_evenCost_0 hI
  · exact c_X8_evenCost_1 hI
set_option maxRecDepth 100000 in
set_option maxHeartbeats 4000000 in
theorem cx_evenByAll {n nw t : Nat} (hI : inv X1 n nw) (ht : t < 2) : ZM G mX8_evenByAll 6 1 6 [.ref 0, .int (zch t)] (zw X1 Y O) (fun r w2 => ∃ (X2 : zX) (o : Nat → Nat) (b : eb), evR X1 t n o b ∧ r = evAns b ∧ w2 = zw X2 Y O ∧ keep0 X1 X2) := by
  rcases (show t = 0 ∨ t = 1 by omega) with rfl | rfl
  · exact c_X8_evenByAll_0 hI
  · exact c_X8_evenByAll_1 hI
set_option maxRecDepth 100000 in
set_option maxHeartbeats 4000000 in
theorem cx_tidy {n nw t : Nat} (hI : inv X1 n nw) (ht : t < 2) : ZM G mX8_tidy 13 1 6 [.ref 0, .int (zch t)] (zw X1 Y O) (fun r w2 => ∃ (X3 : zX) (B : bst), tdR X1 t n nw B ∧ r = .inl (some (.int (nI B.2.1))) ∧ w2 = zw X3 Y O ∧ mvR X1 t n B.2.2 B.2.1 X3) := by
  rcases (show t = 0 ∨ t = 1 by omega) with rfl | rfl
  · exact c_X8_tidy_0 hI
  · exact c_X8_tidy_1 hI
set_option maxRecDepth 100000 in
set_option maxHeartbeats 4000000 in
theorem cx_spread {n nw t : Nat} (hI : inv X1 n nw) (ht : t < 2) : ZM G mX8_spread 6 1 6 [.ref 0, .int (zch t)] (zw X1 Y O) (fun r w2 => ∃ (X3 : zX) (o : Nat → Nat) (b : eb), evR X1 t n o b ∧ w2 = zw X3 Y O ∧ spA X1 t n o X3 b r) := by
  rcases (show t = 0 ∨ t = 1 by omega) with rfl | rfl
  · exact c_X8_spread_0 hI
  · exact c_X8_spread_1 hI
set_option maxRecDepth 100000 in
set_option maxHeartbeats 4000000 in
theorem a_best {n nw t : Nat} {b c : Int32} (hI : inv X n nw) (hk : keep0 X X1) (ht : t < 2) : ZM G mL_ask 15 1 6 [.ref 0, .int 9, .int (zch t), .int b, .int c] (zw X1 Y O) (aP X Y O (tV X t n nw) (tdOk X t n nw)) :=
  ask_of (c_L_asked_9 (zch_c ht) (cx_best (inv_keep hk hI) ht) (fun r w h => by obtain ⟨_, _, _, h, _⟩ := h; exact ok_int h)) (fun r w h => by obtain ⟨_, _, _, h, _⟩ := h; exact ok_int h) (fun r w h => by
    obtain ⟨X2, B, h1, h2, h3, h4⟩ := h
    have h5 := tdR_keep hk ht h1
    exact ⟨(la_int h2).trans (td_val hI ht h5).1, ⟨B, h5⟩, X2, h3, keep0_trans hk h4⟩)
set_option maxRecDepth 100000 in
set_option maxHeartbeats 4000000 in
theorem a_bestAll {n nw t : Nat} {b c : Int32} (hI : inv X n nw) (hk : keep0 X X1) (ht : t < 2) : ZM G mL_ask 15 1 6 [.ref 0, .int 10, .int (zch t), .int b, .int c] (zw X1 Y O) (aP X Y O (tV X t n nw) (tdOk X t n nw)) :=
  ask_of (c_L_asked_10 (zch_c ht) (cx_bestByAll (inv_keep hk hI) ht) (fun r w h => by obtain ⟨_, _, _, h, _⟩ := h; exact ok_int h)) (fun r w h => by obtain ⟨_, _, _, h, _⟩ := h; exact ok_int h) (fun r w h => by
    obtain ⟨X2, g, h1, h2, h3, h4⟩ := h
    obtain ⟨B, h5, h6⟩ := ta_td (inv_keep hk hI) ht h1
    have h5 := tdR_keep hk ht h5
    exact ⟨(la_int h2).trans (by rw [← h6]; exact (td_val hI ht h5).1), ⟨B, h5⟩, X2, h3, keep0_trans hk h4⟩)
set_option maxRecDepth 100000 in
set_option maxHeartbeats 4000000 in
theorem a_tidyCost {n nw t : Nat} {b c : Int32} (hI : inv X n nw) (hk : keep0 X X1) (ht : t < 2) : ZM G mL_ask 15 1 6 [.ref 0, .int 11, .int (zch t), .int b, .int c] (zw X1 Y O) (aP X Y O (tC X t n nw) (tdOk X t n nw)) :=
  ask_of (c_L_asked_11 (zch_c ht) (cx_tidyCost (inv_keep hk hI) ht) (fun r w h => by obtain ⟨_, _, _, h, _⟩ := h; exact ok_int h)) (fun r w h => by obtain ⟨_, _, _, h, _⟩ := h; exact ok_int h) (fun r w h => by
    obtain ⟨X2, B, h1, h2, h3, h4⟩ := h
    have h5 := tdR_keep hk ht h1
    exact ⟨(la_int h2).trans (td_val hI ht h5).2.1, ⟨B, h5⟩, X2, h3, keep0_trans hk h4⟩)
set_option maxRecDepth 100000 in
set_option maxHeartbeats 4000000 in
theorem a_tidyStart {n nw t k : Nat} {c : Int32} (hI : inv X n nw) (hk : keep0 X X1) (ht : t < 2) (hkn : k < n) : ZM G mL_ask 15 1 6 [.ref 0, .int 12, .int (nI k), .int (zch t), .int c] (zw X1 Y O) (aP X Y O (tS X t n nw k) (tdOk X t n nw)) :=
  ask_of (c_L_asked_12 (zch_c ht) (cx_tidyStart (inv_keep hk hI) ht hkn) (fun r w h => by obtain ⟨_, _, _, h, _⟩ := h; exact ok_int h)) (fun r w h => by obtain ⟨_, _, _, h, _⟩ := h; exact ok_int h) (fun r w h => by
    obtain ⟨X2, B, h1, h2, h3, h4⟩ := h
    have h5 := tdR_keep hk ht h1
    exact ⟨(la_int h2).trans ((td_val hI ht h5).2.2 k hkn), ⟨B, h5⟩, X2, h3, keep0_trans hk h4⟩)
set_option maxRecDepth 100000 in
set_option maxHeartbeats 4000000 in
theorem ev_ok {b : eb} {r : zRes} (h : r = evAns b) : okRes ASK r ∧ lans r = evA b := by
  rcases b with _ | ⟨c, g, s⟩
  · exact ⟨ok_thr h (by simp), la_nse h⟩
  · exact ⟨ok_int h, la_int h⟩
set_option maxRecDepth 100000 in
set_option maxHeartbeats 4000000 in
theorem a_evenCost {n nw t : Nat} {b c : Int32} (hI : inv X n nw) (hk : keep0 X X1) (ht : t < 2) : ZM G mL_ask 15 1 6 [.ref 0, .int 13, .int (zch t), .int b, .int c] (zw X1 Y O) (aP X Y O (evV X t n) (evOk X t n)) :=
  ask_of (c_L_asked_13 (zch_c ht) (cx_evenCost (inv_keep hk hI) ht) (fun r w h => by obtain ⟨_, _, _, _, h, _⟩ := h; exact (ev_ok h).1)) (fun r w h => by obtain ⟨_, _, _, _, h, _⟩ := h; exact (ev_ok h).1) (fun r w h => by
    obtain ⟨X2, o, b, h1, h2, h3, h4⟩ := h
    have h5 := evR_keep hk ht h1
    exact ⟨(ev_ok h2).2.trans (ev_val hI ht h5), ⟨(o, b), h5⟩, X2, h3, keep0_trans hk h4⟩)
set_option maxRecDepth 100000 in
set_option maxHeartbeats 4000000 in
theorem a_evenAll {n nw t : Nat} {b c : Int32} (hI : inv X n nw) (hk : keep0 X X1) (ht : t < 2) : ZM G mL_ask 15 1 6 [.ref 0, .int 14, .int (zch t), .int b, .int c] (zw X1 Y O) (aP X Y O (evV X t n) (evOk X t n)) :=
  ask_of (c_L_asked_14 (zch_c ht) (cx_evenByAll (inv_keep hk hI) ht) (fun r w h => by obtain ⟨_, _, _, _, h, _⟩ := h; exact (ev_ok h).1)) (fun r w h => by obtain ⟨_, _, _, _, h, _⟩ := h; exact (ev_ok h).1) (fun r w h => by
    obtain ⟨X2, o, b, h1, h2, h3, h4⟩ := h
    have h5 := evR_keep hk ht h1
    exact ⟨(ev_ok h2).2.trans (ev_val hI ht h5), ⟨(o, b), h5⟩, X2, h3, keep0_trans hk h4⟩)
set_option maxRecDepth 100000 in
set_option maxHeartbeats 4000000 in
theorem dist_in {d : Nat} (hd : d ≤ 200) : ¬ nI d < 0 ∧ nI d ≤ 200 := ⟨nI_pos (by omega), nI_le hd (by decide)⟩
set_option maxRecDepth 100000 in
set_option maxHeartbeats 4000000 in
theorem a_groups {n nw d g : Nat} {b c : Int32} (hI : inv X n nw) (hk : keep0 X X1) (hd : d ≤ 200) (hb : linked X n (nI d) g) : ZM G mL_ask 15 1 6 [.ref 0, .int 18, .int (nI d), .int b, .int c] (zw X1 Y O) (aP X Y O (nI (gcn n g)) True) :=
  ask_of (c_L_asked_18 (c_X8_groups (inv_n (inv_keep hk hI)) hI.1 (linked_keep hk hb) (dist_in hd)) (fun r w h => ok_int h.1)) (fun r w h => ok_int h.1) (fun r w h => by
    obtain ⟨h1, f, c2, h2⟩ := h
    exact ⟨(la_int h1).trans (by rw [gr_cn]), trivial, _, h2, keep0_trans hk (keep0_xg X1 _ _ _ _)⟩)
set_option maxRecDepth 100000 in
set_option maxHeartbeats 4000000 in
theorem a_links {n nw d g : Nat} {b c : Int32} (hI : inv X n nw) (hk : keep0 X X1) (hd : d ≤ 200) (hb : linked X n (nI d) g) (hg : g < 64) : ZM G mL_ask 15 1 6 [.ref 0, .int 19, .int (nI d), .int b, .int c] (zw X1 Y O) (aP X Y O (nI (gcn n g)) True) :=
  ask_of (c_L_asked_19 (c_X8_groupsByLinks (inv_n (inv_keep hk hI)) hI.1 (linked_keep hk hb) (dist_in hd)) (fun r w h => ok_int h.1)) (fun r w h => ok_int h.1) (fun r w h => by
    obtain ⟨h1, f, c2, h2⟩ := h
    exact ⟨(la_int h1).trans (by rw [← counts_agree hI.1 hg, gr_cn]), trivial, _, h2, keep0_trans hk (keep0_xg X1 _ _ _ _)⟩)
set_option maxRecDepth 100000 in
set_option maxHeartbeats 4000000 in
theorem a_best_z {b c : Int32} (hk : keep0 X X1) : ZM G mL_ask 15 1 6 [.ref 0, .int 9, .int 122, .int b, .int c] (zw X1 Y O) (aP X Y O (-2002) True) :=
  ask_of (c_L_asked_9 (a2 := 122) (by decide) (c_X8_bestStrength_ax (by decide) (by decide)) (fun r w h => ok_thr h.1 (by simp))) (fun r w h => ok_thr h.1 (by simp)) (fun r w h => ⟨la_iae h.1, trivial, X1, h.2, hk⟩)
set_option maxRecDepth 100000 in
set_option maxHeartbeats 4000000 in
theorem a_groups_o {b c : Int32} (hk : keep0 X X1) : ZM G mL_ask 15 1 6 [.ref 0, .int 18, .int 201, .int b, .int c] (zw X1 Y O) (aP X Y O (-2002) True) :=
  ask_of (c_L_asked_18 (c_X8_groups_out (by decide)) (fun r w h => ok_thr h.1 (by simp))) (fun r w h => ok_thr h.1 (by simp)) (fun r w h => ⟨la_iae h.1, trivial, X1, h.2, hk⟩)
set_option maxRecDepth 100000 in
set_option maxHeartbeats 4000000 in
theorem a_links_o {b c : Int32} (hk : keep0 X X1) : ZM G mL_ask 15 1 6 [.ref 0, .int 19, .int (-1), .int b, .int c] (zw X1 Y O) (aP X Y O (-2002) True) :=
  ask_of (c_L_asked_19 (c_X8_groupsByLinks_out (by decide)) (fun r w h => ok_thr h.1 (by simp))) (fun r w h => ok_thr h.1 (by simp)) (fun r w h => ⟨la_iae h.1, trivial, X1, h.2, hk⟩)
end
