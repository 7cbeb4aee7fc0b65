section
variable {G : zG} {X : zX} {Y : zY} {O : zO}
/- a truth as Java has it -/
set_option maxRecDepth 100000 in
set_option maxHeartbeats 4000000 in
def zb (p : Prop) [Decidable p] : Int32 := if p then 1 else 0
set_option maxRecDepth 100000 in
set_option maxHeartbeats 4000000 in
theorem zb_t {p : Prop} [Decidable p] (h : p) : (1 : Int32) = zb p := (if_pos h).symm
set_option maxRecDepth 100000 in
set_option maxHeartbeats 4000000 in
theorem zb_f {p : Prop} [Decidable p] (h : ¬ p) : (0 : Int32) = zb p := (if_neg h).symm
set_option maxRecDepth 100000 in
set_option maxHeartbeats 4000000 in
theorem zb_n {p : Prop} [Decidable p] : narrow .boolean (.int (zb p)) = .int (zb p) := by
  unfold zb; split <;> rfl
set_option maxRecDepth 100000 in
set_option maxHeartbeats 4000000 in
theorem zb_0 {p : Prop} [Decidable p] : zb p = 0 ↔ ¬ p := by
  unfold zb; split <;> simp_all
set_option maxRecDepth 100000 in
set_option maxHeartbeats 4000000 in
theorem zb_1 {p : Prop} [Decidable p] : ¬ zb p = 0 ↔ p := by
  unfold zb; split <;> simp_all
/- an Axis by its number: across 0, down 1 -/
set_option maxRecDepth 100000 in
set_option maxHeartbeats 4000000 in
def zax (t : Nat) : Nat := if t = 0 then 1 else 6
set_option maxRecDepth 100000 in
set_option maxHeartbeats 4000000 in
def zlim (t : Nat) : Int32 := if t = 0 then 200 else 120
set_option maxRecDepth 100000 in
set_option maxHeartbeats 4000000 in
theorem wax_o (X : zX) (Y : zY) (O : zO) {t : Nat} (ht : t < 2) : (zw X Y O)[zax t]? = some (.inr (0, [.int (zlim t), .ref (zax t + 1), .ref (zax t + 3)])) := by
  rcases (show t = 0 ∨ t = 1 by omega) with rfl | rfl <;> rfl
set_option maxRecDepth 100000 in
set_option maxHeartbeats 4000000 in
theorem wax_s (X : zX) (Y : zY) (O : zO) {t : Nat} (ht : t < 2) : isRow (zw X Y O) (zax t + 1) 4 (X.2.1 (2 * t)) (X.1 (2 * t)) := by
  rcases (show t = 0 ∨ t = 1 by omega) with rfl | rfl <;> exact ⟨rfl, rfl⟩
set_option maxRecDepth 100000 in
set_option maxHeartbeats 4000000 in
theorem wax_z (X : zX) (Y : zY) (O : zO) {t : Nat} (ht : t < 2) : isRow (zw X Y O) (zax t + 3) 4 (X.2.1 (2 * t + 1)) (X.1 (2 * t + 1)) := by
  rcases (show t = 0 ∨ t = 1 by omega) with rfl | rfl <;> exact ⟨rfl, rfl⟩
set_option maxRecDepth 100000 in
set_option maxHeartbeats 4000000 in
theorem wax_ps (X : zX) (Y : zY) (O : zO) {t : Nat} (ht : t < 2) (f : Nat → Int32) (l : Int32) : zput (zw X Y O) (zax t + 1) 4 f l = zw (xrow X (2 * t) f l) Y O := by
  rcases (show t = 0 ∨ t = 1 by omega) with rfl | rfl <;> rfl
set_option maxRecDepth 100000 in
set_option maxHeartbeats 4000000 in
theorem wax_pz (X : zX) (Y : zY) (O : zO) {t : Nat} (ht : t < 2) (f : Nat → Int32) (l : Int32) : zput (zw X Y O) (zax t + 3) 4 f l = zw (xrow X (2 * t + 1) f l) Y O := by
  rcases (show t = 0 ∨ t = 1 by omega) with rfl | rfl <;> rfl
set_option maxRecDepth 100000 in
set_option maxHeartbeats 4000000 in
theorem xrow_f (X : zX) (r : Nat) (f : Nat → Int32) (l : Int32) : (xrow X r f l).2.1 r = f := if_pos rfl
set_option maxRecDepth 100000 in
set_option maxHeartbeats 4000000 in
theorem xrow_l (X : zX) (r : Nat) (f : Nat → Int32) (l : Int32) : (xrow X r f l).1 r = l := if_pos rfl
set_option maxRecDepth 100000 in
set_option maxHeartbeats 4000000 in
theorem xrow_fn (X : zX) {r j : Nat} (h : j ≠ r) (f : Nat → Int32) (l : Int32) : (xrow X r f l).2.1 j = X.2.1 j := if_neg h
set_option maxRecDepth 100000 in
set_option maxHeartbeats 4000000 in
theorem xrow_ln (X : zX) {r j : Nat} (h : j ≠ r) (f : Nat → Int32) (l : Int32) : (xrow X r f l).1 j = X.1 j := if_neg h
set_option maxRecDepth 100000 in
set_option maxHeartbeats 4000000 in
theorem zfit_b (p : Prop) [Decidable p] : zfit .boolean (.int (zb p)) := fun _ => by unfold zb; split <;> exact ⟨rfl, rfl⟩
set_option maxRecDepth 100000 in
set_option maxHeartbeats 4000000 in
theorem c_X0_limit {t : Nat} (ht : t < 2)  : ZM G mX0_limit 1 0 0 [.ref (zax t)] (zw X Y O) (zEq (some (.int (zlim t))) (zw X Y O)) := by
  refine ZM.go pX0 rfl rfl (zle rfl) (zl := [some (.ref (zax t))]) rfl ?_
  refine z_aload_n (i := 0) dX0_limit_0 rfl rfl (q := 1) rfl ?_
  refine z_get dX0_limit_1 fX0_23 (wax_o _ _ _ ht) rfl (q := 4) rfl ?_
  exact z_iret dX0_limit_4 rfl ⟨zle rfl, zle rfl⟩ ⟨rfl, rfl⟩
set_option maxRecDepth 100000 in
set_option maxHeartbeats 4000000 in
theorem c_X0_count {t : Nat} (ht : t < 2)  : ZM G mX0_count 1 0 0 [.ref (zax t)] (zw X Y O) (zEq (some (.int (X.1 (2 * t)))) (zw X Y O)) := by
  refine ZM.go pX0 rfl rfl (zle rfl) (zl := [some (.ref (zax t))]) rfl ?_
  refine z_aload_n (i := 0) dX0_count_0 rfl rfl (q := 1) rfl ?_
  refine z_get dX0_count_1 fX0_14 (wax_o _ _ _ ht) rfl (q := 4) rfl ?_
  refine z_callVF (As := []) dX0_count_4 kX0_27 (c_X4_length (wax_s _ _ _ ht)) (wax_s _ _ _ ht).1 rfl rfl (zle rfl) ⟨zle rfl, zle rfl⟩ ⟨zle rfl, zle rfl⟩ (q := 7) rfl ?_
  exact z_iret dX0_count_7 rfl ⟨zle rfl, zle rfl⟩ ⟨rfl, rfl⟩
set_option maxRecDepth 100000 in
set_option maxHeartbeats 4000000 in
theorem c_X0_startAt {t : Nat} (ht : t < 2) {k : Nat} (hk : k < 4) : ZM G mX0_startAt 1 0 0 [.ref (zax t), .int (nI k)] (zw X Y O) (zEq (some (.int (X.2.1 (2 * t) k))) (zw X Y O)) := by
  refine ZM.go pX0 rfl rfl (zle rfl) (zl := [some (.ref (zax t)), some (.int (nI k))]) rfl ?_
  refine z_aload_n (i := 0) dX0_startAt_0 rfl rfl (q := 1) rfl ?_
  refine z_get dX0_startAt_1 fX0_14 (wax_o _ _ _ ht) rfl (q := 4) rfl ?_
  refine z_iload_n (i := 1) dX0_startAt_4 rfl rfl (q := 5) rfl ?_
  refine z_callVF (As := [_]) dX0_startAt_5 kX0_34 (c_X4_get  (wax_s _ _ _ ht) (by omega) (by decide)) (wax_s _ _ _ ht).1 rfl rfl (zle rfl) ⟨zle rfl, zle rfl⟩ ⟨zle rfl, zle rfl⟩ (q := 8) rfl ?_
  exact z_iret dX0_startAt_8 rfl ⟨zle rfl, zle rfl⟩ ⟨rfl, rfl⟩
set_option maxRecDepth 100000 in
set_option maxHeartbeats 4000000 in
theorem c_X0_sizeAt {t : Nat} (ht : t < 2) {k : Nat} (hk : k < 4) : ZM G mX0_sizeAt 1 0 0 [.ref (zax t), .int (nI k)] (zw X Y O) (zEq (some (.int (X.2.1 (2 * t + 1) k))) (zw X Y O)) := by
  refine ZM.go pX0 rfl rfl (zle rfl) (zl := [some (.ref (zax t)), some (.int (nI k))]) rfl ?_
  refine z_aload_n (i := 0) dX0_sizeAt_0 rfl rfl (q := 1) rfl ?_
  refine z_get dX0_sizeAt_1 fX0_20 (wax_o _ _ _ ht) rfl (q := 4) rfl ?_
  refine z_iload_n (i := 1) dX0_sizeAt_4 rfl rfl (q := 5) rfl ?_
  refine z_callVF (As := [_]) dX0_sizeAt_5 kX0_34 (c_X4_get  (wax_z _ _ _ ht) (by omega) (by decide)) (wax_z _ _ _ ht).1 rfl rfl (zle rfl) ⟨zle rfl, zle rfl⟩ ⟨zle rfl, zle rfl⟩ (q := 8) rfl ?_
  exact z_iret dX0_sizeAt_8 rfl ⟨zle rfl, zle rfl⟩ ⟨rfl, rfl⟩
set_option maxRecDepth 100000 in
set_option maxHeartbeats 4000000 in
theorem c_X0_setStart {t : Nat} (ht : t < 2) {k : Nat} {v : Int32} (hk : k < 4) : ZM G mX0_setStart 1 0 0 [.ref (zax t), .int (nI k), .int v] (zw X Y O) (zEq none (zw (xrow X (2 * t) (upd (X.2.1 (2 * t)) k v) (X.1 (2 * t))) Y O)) := by
  refine ZM.go pX0 rfl rfl (zle rfl) (zl := [some (.ref (zax t)), some (.int (nI k)), some (.int v)]) rfl ?_
  refine z_aload_n (i := 0) dX0_setStart_0 rfl rfl (q := 1) rfl ?_
  refine z_get dX0_setStart_1 fX0_14 (wax_o _ _ _ ht) rfl (q := 4) rfl ?_
  refine z_iload_n (i := 1) dX0_setStart_4 rfl rfl (q := 5) rfl ?_
  refine z_iload_n (i := 2) dX0_setStart_5 rfl rfl (q := 6) rfl ?_
  refine z_callVF (As := [_, _]) dX0_setStart_6 kX0_38 (c_X4_set  (wax_s _ _ _ ht) (by omega) (by decide)) (wax_s _ _ _ ht).1 rfl rfl (zle rfl) ⟨zle rfl, zle rfl⟩ ⟨zle rfl, zle rfl⟩ (q := 9) rfl ?_
  refine Z.eqw (wax_ps _ _ _ ht _ _) ?_
  exact z_vret dX0_setStart_9 rfl ⟨zle rfl, zle rfl⟩ ⟨rfl, rfl⟩
set_option maxRecDepth 100000 in
set_option maxHeartbeats 4000000 in
theorem c_X0_setSize {t : Nat} (ht : t < 2) {k : Nat} {v : Int32} (hk : k < 4) : ZM G mX0_setSize 1 0 0 [.ref (zax t), .int (nI k), .int v] (zw X Y O) (zEq none (zw (xrow X (2 * t + 1) (upd (X.2.1 (2 * t + 1)) k v) (X.1 (2 * t + 1))) Y O)) := by
  refine ZM.go pX0 rfl rfl (zle rfl) (zl := [some (.ref (zax t)), some (.int (nI k)), some (.int v)]) rfl ?_
  refine z_aload_n (i := 0) dX0_setSize_0 rfl rfl (q := 1) rfl ?_
  refine z_get dX0_setSize_1 fX0_20 (wax_o _ _ _ ht) rfl (q := 4) rfl ?_
  refine z_iload_n (i := 1) dX0_setSize_4 rfl rfl (q := 5) rfl ?_
  refine z_iload_n (i := 2) dX0_setSize_5 rfl rfl (q := 6) rfl ?_
  refine z_callVF (As := [_, _]) dX0_setSize_6 kX0_38 (c_X4_set  (wax_z _ _ _ ht) (by omega) (by decide)) (wax_z _ _ _ ht).1 rfl rfl (zle rfl) ⟨zle rfl, zle rfl⟩ ⟨zle rfl, zle rfl⟩ (q := 9) rfl ?_
  refine Z.eqw (wax_pz _ _ _ ht _ _) ?_
  exact z_vret dX0_setSize_9 rfl ⟨zle rfl, zle rfl⟩ ⟨rfl, rfl⟩
set_option maxRecDepth 100000 in
set_option maxHeartbeats 4000000 in
theorem c_X0_append {t : Nat} (ht : t < 2) {n : Nat} {u v : Int32} (hn : n < 4) (h1 : X.1 (2 * t) = nI n) (h2 : X.1 (2 * t + 1) = nI n) : ZM G mX0_append 1 0 0 [.ref (zax t), .int u, .int v] (zw X Y O) (zEq none (zw (xrow (xrow X (2 * t) (upd (X.2.1 (2 * t)) n u) (nI (n + 1))) (2 * t + 1) (upd (X.2.1 (2 * t + 1)) n v) (nI (n + 1))) Y O)) := by
  refine ZM.go pX0 rfl rfl (zle rfl) (zl := [some (.ref (zax t)), some (.int u), some (.int v)]) rfl ?_
  refine z_aload_n (i := 0) dX0_append_0 rfl rfl (q := 1) rfl ?_
  refine z_get dX0_append_1 fX0_14 (wax_o _ _ _ ht) rfl (q := 4) rfl ?_
  refine z_iload_n (i := 1) dX0_append_4 rfl rfl (q := 5) rfl ?_
  refine z_callVF (As := [_]) dX0_append_5 kX0_31 (c_X4_append' (k := n) (wax_s _ _ _ ht) h1 (by omega) (by decide)) (wax_s _ _ _ ht).1 rfl rfl (zle rfl) ⟨zle rfl, zle rfl⟩ ⟨zle rfl, zle rfl⟩ (q := 8) rfl ?_
  refine Z.eqw (wax_ps _ _ _ ht _ _) ?_
  refine z_aload_n (i := 0) dX0_append_8 rfl rfl (q := 9) rfl ?_
  refine z_get dX0_append_9 fX0_20 (wax_o _ _ _ ht) rfl (q := 12) rfl ?_
  refine z_iload_n (i := 2) dX0_append_12 rfl rfl (q := 13) rfl ?_
  refine z_callVF (As := [_]) dX0_append_13 kX0_31 (c_X4_append' (k := n) (wax_z _ _ _ ht) (by rw [xrow_ln X (by omega)]; exact h2) (by omega) (by decide)) (wax_z _ _ _ ht).1 rfl rfl (zle rfl) ⟨zle rfl, zle rfl⟩ ⟨zle rfl, zle rfl⟩ (q := 16) rfl ?_
  refine Z.eqw (wax_pz _ _ _ ht _ _) ?_
  exact z_vret dX0_append_16 rfl ⟨zle rfl, zle rfl⟩ ⟨rfl, by rw [xrow_fn X (by omega)]⟩
end
