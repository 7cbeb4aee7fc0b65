section
variable {G : zG} {X X1 : zX} {Y : zY} {O : zO}
set_option maxRecDepth 100000 in
set_option maxHeartbeats 4000000 in
theorem Z.widen {M : zM} {R : Room} {k n k2 n2 pc : Nat} {zl : List (Option Value)} {st : List Value} {w : zWorld} {P : zRes → zWorld → Prop} (h1 : k ≤ k2) (h2 : n ≤ n2) (h : Z G M R k2 n2 pc zl st w P) : Z G M R k n pc zl st w P := by
  intro p e s m args below meth c H locs ad ad0 n0 cls C HH hl hlo hst hn he
  exact W.widen h1 h2 (h p e s m args below meth c H locs ad ad0 n0 cls C HH hl hlo hst hn he)
set_option maxRecDepth 100000 in
set_option maxHeartbeats 4000000 in
def okRes (L : List String) (r : zRes) : Prop := (∃ v, r = .inl (some (.int v))) ∨ ∃ E, E ∈ L ∧ r = .inr E
set_option maxRecDepth 100000 in
set_option maxHeartbeats 4000000 in
def lidx : List String → String → Int32
  | [], _ => 0
  | a :: L, E => if E = a then 1 else lidx L E + 1
set_option maxRecDepth 100000 in
set_option maxHeartbeats 4000000 in
def lcode (L : List String) : zRes → Int32
  | .inl _ => 0
  | .inr E => lidx L E
set_option maxRecDepth 100000 in
set_option maxHeartbeats 4000000 in
theorem lidx_N : ∀ (L : List String) (E : String), E ∈ L → ∃ k, k < L.length ∧ lidx L E = nI (k + 1)
  | a :: L, E, h => by
    unfold lidx
    by_cases e : E = a
    · exact ⟨0, by simp, by rw [if_pos e]; rfl⟩
    · have h2 : E ∈ L := (List.mem_cons.mp h).resolve_left e
      obtain ⟨k, h3, h4⟩ := lidx_N L E h2
      exact ⟨k + 1, by simp; omega, by rw [if_neg e, h4, nI_1]⟩
set_option maxRecDepth 100000 in
set_option maxHeartbeats 4000000 in
theorem lcode_0 {L : List String} {r : zRes} (hl : L.length < 100) (ho : okRes L r) (h : lcode L r = 0) : ∃ v, r = .inl (some (.int v)) := by
  rcases ho with h1 | ⟨E, h1, rfl⟩
  · exact h1
  · obtain ⟨k, h2, h3⟩ := lidx_N L E h1
    have h4 : lidx L E = 0 := h
    rw [h3] at h4
    exact absurd h4 (nI_ne0 (by omega) (by omega))
set_option maxRecDepth 100000 in
set_option maxHeartbeats 4000000 in
theorem lg_self (x : Int64) : lg_cmp x x = 0 := by
  unfold lg_cmp
  rw [if_neg (by simp), if_pos rfl]
/- what the c. leaves: an answer, or what was thrown, and its state -/
set_option maxRecDepth 100000 in
set_option maxHeartbeats 4000000 in
def cOut (Y : zY) (O : zO) (S : zRes → zX → Prop) : zRes → zWorld → Prop := fun r w => ∃ X2, w = zw X2 Y O ∧ S r X2
set_option maxRecDepth 100000 in
set_option maxHeartbeats 4000000 in
def wOut (Y : zY) (L : List String) (S : zRes → zX → Prop) : zRes → zWorld → Prop := fun r w => ∃ (r0 : zRes) (X2 : zX) (O2 : zO), S r0 X2 ∧ r = .inl (some (.int (lcode L r0))) ∧ w = zw X2 Y O2 ∧ ∀ v, r0 = .inl (some (.int v)) → O2.1 0 = v.toInt64
set_option maxRecDepth 100000 in
set_option maxHeartbeats 4000000 in
set_option maxRecDepth 1000000 in
theorem wcl_13 : Cond.classLink RL 13 "java/lang/IllegalArgumentException" ∈ zt := List.mem_filter.mpr ⟨by decide +kernel, rfl⟩
set_option maxRecDepth 100000 in
set_option maxHeartbeats 4000000 in
set_option maxRecDepth 1000000 in
theorem wca_13 : Cond.castable "java/lang/IllegalArgumentException" "java/lang/IllegalArgumentException" ∈ zbad ∨ Cond.castable "java/lang/IllegalArgumentException" "java/lang/IllegalArgumentException" ∈ zt := by first | exact Or.inr (List.mem_filter.mpr ⟨by decide +kernel, rfl⟩) | exact Or.inl (List.mem_filter.mpr ⟨by decide +kernel, rfl⟩)
set_option maxRecDepth 100000 in
set_option maxHeartbeats 4000000 in
set_option maxRecDepth 1000000 in
theorem wcl_15 : Cond.classLink RL 15 "java/lang/IllegalStateException" ∈ zt := List.mem_filter.mpr ⟨by decide +kernel, rfl⟩
set_option maxRecDepth 100000 in
set_option maxHeartbeats 4000000 in
set_option maxRecDepth 1000000 in
theorem wca_15 : Cond.castable "java/lang/IllegalStateException" "java/lang/IllegalStateException" ∈ zbad ∨ Cond.castable "java/lang/IllegalStateException" "java/lang/IllegalStateException" ∈ zt := by first | exact Or.inr (List.mem_filter.mpr ⟨by decide +kernel, rfl⟩) | exact Or.inl (List.mem_filter.mpr ⟨by decide +kernel, rfl⟩)
set_option maxRecDepth 100000 in
set_option maxHeartbeats 4000000 in
set_option maxRecDepth 1000000 in
theorem wcl_17 : Cond.classLink RL 17 "java/lang/UnsupportedOperationException" ∈ zt := List.mem_filter.mpr ⟨by decide +kernel, rfl⟩
set_option maxRecDepth 100000 in
set_option maxHeartbeats 4000000 in
set_option maxRecDepth 1000000 in
theorem wca_17 : Cond.castable "java/lang/UnsupportedOperationException" "java/lang/UnsupportedOperationException" ∈ zbad ∨ Cond.castable "java/lang/UnsupportedOperationException" "java/lang/UnsupportedOperationException" ∈ zt := by first | exact Or.inr (List.mem_filter.mpr ⟨by decide +kernel, rfl⟩) | exact Or.inl (List.mem_filter.mpr ⟨by decide +kernel, rfl⟩)
set_option maxRecDepth 100000 in
set_option maxHeartbeats 4000000 in
set_option maxRecDepth 1000000 in
theorem wcl_23 : Cond.classLink RL 23 "java/lang/IndexOutOfBoundsException" ∈ zt := List.mem_filter.mpr ⟨by decide +kernel, rfl⟩
set_option maxRecDepth 100000 in
set_option maxHeartbeats 4000000 in
set_option maxRecDepth 1000000 in
theorem wca_23 : Cond.castable "java/lang/IndexOutOfBoundsException" "java/lang/IndexOutOfBoundsException" ∈ zbad ∨ Cond.castable "java/lang/IndexOutOfBoundsException" "java/lang/IndexOutOfBoundsException" ∈ zt := by first | exact Or.inr (List.mem_filter.mpr ⟨by decide +kernel, rfl⟩) | exact Or.inl (List.mem_filter.mpr ⟨by decide +kernel, rfl⟩)
set_option maxRecDepth 100000 in
set_option maxHeartbeats 4000000 in
set_option maxRecDepth 1000000 in
theorem wcl_52 : Cond.classLink RL 52 "java/util/NoSuchElementException" ∈ zt := List.mem_filter.mpr ⟨by decide +kernel, rfl⟩
set_option maxRecDepth 100000 in
set_option maxHeartbeats 4000000 in
set_option maxRecDepth 1000000 in
theorem wca_52 : Cond.castable "java/util/NoSuchElementException" "java/util/NoSuchElementException" ∈ zbad ∨ Cond.castable "java/util/NoSuchElementException" "java/util/NoSuchElementException" ∈ zt := by first | exact Or.inr (List.mem_filter.mpr ⟨by decide +kernel, rfl⟩) | exact Or.inl (List.mem_filter.mpr ⟨by decide +kernel, rfl⟩)
set_option maxRecDepth 100000 in
set_option maxHeartbeats 4000000 in
set_option maxRecDepth 1000000 in
theorem wcl_125 : Cond.classLink RL 125 "java/lang/ArithmeticException" ∈ zt := List.mem_filter.mpr ⟨by decide +kernel, rfl⟩
set_option maxRecDepth 100000 in
set_option maxHeartbeats 4000000 in
set_option maxRecDepth 1000000 in
theorem wca_125 : Cond.castable "java/lang/ArithmeticException" "java/lang/ArithmeticException" ∈ zbad ∨ Cond.castable "java/lang/ArithmeticException" "java/lang/ArithmeticException" ∈ zt := by first | exact Or.inr (List.mem_filter.mpr ⟨by decide +kernel, rfl⟩) | exact Or.inl (List.mem_filter.mpr ⟨by decide +kernel, rfl⟩)
set_option maxRecDepth 100000 in
set_option maxHeartbeats 4000000 in
theorem c_L_addShape {a0 : Int32} {a1 : Int32} {a2 : Int32} {a3 : Int32} {S : zRes → zX → Prop} (h : ZM G mX8_addShape 4 1 6 [.ref 0, .int a0, .int a1, .int a2, .int a3] (zw X Y O) (cOut Y O S)) (ho : ∀ r X2, S r X2 → okRes [eIAE, eISE, eUOE] r) : ZM G mL_addShape 5 1 6 [.ref 0, .int a0, .int a1, .int a2, .int a3, .ref 94] (zw X Y O) (wOut Y [eIAE, eISE, eUOE] S) := by
  refine ZM.goH pL rfl rfl (zle rfl) (zl := [some (.ref 0), some (.int a0), some (.int a1), some (.int a2), some (.int a3), some (.ref 94), none]) rfl ?_
  refine z_aload dL_addShape_0 rfl (q := 2) rfl ?_
  refine z_iconst (v := 0) dL_addShape_2 rfl (q := 3) rfl ?_
  refine z_aload_n (i := 0) dL_addShape_3 rfl rfl (q := 4) rfl ?_
  refine z_iload_n (i := 1) dL_addShape_4 rfl rfl (q := 5) rfl ?_
  refine z_iload_n (i := 2) dL_addShape_5 rfl rfl (q := 6) rfl ?_
  refine z_iload_n (i := 3) dL_addShape_6 rfl rfl (q := 7) rfl ?_
  refine z_iload dL_addShape_7 rfl (q := 9) rfl ?_
  refine z_callV (As := [_, _, _, _]) dL_addShape_9 kL_7 h (wo_x _ _ _) rfl rfl (zle rfl) ⟨zle rfl, zle rfl⟩ ⟨zle rfl, zle rfl⟩ (q := 12) rfl (fun rv w2 hw2 => ?_) (fun E w2 hw2 => ?_)
  · obtain ⟨X2, rfl, hS⟩ := hw2
    rcases ho _ _ hS with ⟨v, h9⟩ | ⟨E, _, h9⟩
    · cases h9
      refine z_i2l dL_addShape_12 (q := 13) rfl ?_
      refine z_last dL_addShape_13 (wout _ _ _) (zin (k := 0) (by decide) (by decide)) (q := 14) rfl ?_
      refine Z.eqw (wouts _ _ _ _) ?_
      refine z_goto (tgt := 29) dL_addShape_14 (by decide) ?_
      refine z_iconst (v := 0) dL_addShape_29 rfl (q := 30) rfl ?_
      exact z_iret dL_addShape_30 rfl ⟨zle rfl, zle rfl⟩ ⟨_, X2, _, hS, rfl, rfl, fun v2 h2 => by cases h2; rfl⟩
    · cases h9
  · obtain ⟨X2, rfl, hS⟩ := hw2
    rcases ho _ _ hS with ⟨v, h9⟩ | ⟨E2, hm, h9⟩
    · cases h9
    · cases h9
      simp only [List.mem_cons, List.mem_nil_iff, or_false, List.not_mem_nil] at hm
      rcases hm with rfl | rfl | rfl
      · exact zx_catch (name := "java/lang/IllegalArgumentException") (pre := []) (x := ⟨0, 14, 17, 13⟩) (suf := [⟨0, 14, 21, 15⟩, ⟨0, 14, 25, 17⟩]) (v := 1) (i := 6) (p2 := 19) (p3 := 20) (ty := .int) rfl (fun z hz => by cases hz) (by decide) (by decide) wcl_13 wca_13 (by decide) (Or.inr ⟨dL_addShape_17, rfl⟩) dL_addShape_19 rfl dL_addShape_20 rfl rfl ⟨zle rfl, zle rfl⟩ ⟨_, X2, _, hS, rfl, rfl, fun v2 h2 => by cases h2⟩
      · exact zx_catch (name := "java/lang/IllegalStateException") (pre := [⟨0, 14, 17, 13⟩]) (x := ⟨0, 14, 21, 15⟩) (suf := [⟨0, 14, 25, 17⟩]) (v := 2) (i := 6) (p2 := 23) (p3 := 24) (ty := .int) rfl (fun z hz => by
        simp only [List.mem_cons, List.mem_nil_iff, or_false, List.not_mem_nil] at hz
        rcases hz with rfl
        · exact Or.inr ⟨by decide, _, wcl_13, by decide⟩) (by decide) (by decide) wcl_15 wca_15 (by decide) (Or.inr ⟨dL_addShape_21, rfl⟩) dL_addShape_23 rfl dL_addShape_24 rfl rfl ⟨zle rfl, zle rfl⟩ ⟨_, X2, _, hS, rfl, rfl, fun v2 h2 => by cases h2⟩
      · exact zx_catch (name := "java/lang/UnsupportedOperationException") (pre := [⟨0, 14, 17, 13⟩, ⟨0, 14, 21, 15⟩]) (x := ⟨0, 14, 25, 17⟩) (suf := []) (v := 3) (i := 6) (p2 := 27) (p3 := 28) (ty := .int) rfl (fun z hz => by
        simp only [List.mem_cons, List.mem_nil_iff, or_false, List.not_mem_nil] at hz
        rcases hz with rfl | rfl
        · exact Or.inr ⟨by decide, _, wcl_13, by decide⟩
        · exact Or.inr ⟨by decide, _, wcl_15, by decide⟩) (by decide) (by decide) wcl_17 wca_17 (by decide) (Or.inr ⟨dL_addShape_25, rfl⟩) dL_addShape_27 rfl dL_addShape_28 rfl rfl ⟨zle rfl, zle rfl⟩ ⟨_, X2, _, hS, rfl, rfl, fun v2 h2 => by cases h2⟩
set_option maxRecDepth 100000 in
set_option maxHeartbeats 4000000 in
theorem c_L_setLocked {a0 : Int32} {a1 : Int32} {S : zRes → zX → Prop} (h : ZM G mX8_setLocked 4 1 6 [.ref 0, .int a0, .int a1] (zw X Y O) (cOut Y O S)) (ho : ∀ r X2, S r X2 → okRes [eIOOBE] r) (hb : ∀ v X2, S (.inl (some (.int v))) X2 → bit v) : ZM G mL_setLocked 5 1 6 [.ref 0, .int a0, .int a1, .ref 94] (zw X Y O) (wOut Y [eIOOBE] S) := by
  refine ZM.goH pL rfl rfl (zle rfl) (zl := [some (.ref 0), some (.int a0), some (.int a1), some (.ref 94), none]) rfl ?_
  refine z_aload_n (i := 3) dL_setLocked_0 rfl rfl (q := 1) rfl ?_
  refine z_iconst (v := 0) dL_setLocked_1 rfl (q := 2) rfl ?_
  refine z_aload_n (i := 0) dL_setLocked_2 rfl rfl (q := 3) rfl ?_
  refine z_iload_n (i := 1) dL_setLocked_3 rfl rfl (q := 4) rfl ?_
  refine z_iload_n (i := 2) dL_setLocked_4 rfl rfl (q := 5) rfl ?_
  refine z_callV (As := [_, _]) dL_setLocked_5 kL_19 h (wo_x _ _ _) rfl rfl (zle rfl) ⟨zle rfl, zle rfl⟩ ⟨zle rfl, zle rfl⟩ (q := 8) rfl (fun rv w2 hw2 => ?_) (fun E w2 hw2 => ?_)
  · obtain ⟨X2, rfl, hS⟩ := hw2
    rcases ho _ _ hS with ⟨v, h9⟩ | ⟨E, _, h9⟩
    · cases h9
      refine z_if_eq (tgt := 15) dL_setLocked_8 (by decide) (q := 11) rfl (fun h8 => ?_) (fun h8 => ?_)
      · refine z_lconst (v := 0) dL_setLocked_15 rfl (q := 16) rfl ?_
        refine z_last dL_setLocked_16 (wout _ _ _) (zin (k := 0) (by decide) (by decide)) (q := 17) rfl ?_
        refine Z.eqw (wouts _ _ _ _) ?_
        refine z_goto (tgt := 24) dL_setLocked_17 (by decide) ?_
        refine z_iconst (v := 0) dL_setLocked_24 rfl (q := 25) rfl ?_
        exact z_iret dL_setLocked_25 rfl ⟨zle rfl, zle rfl⟩ ⟨_, X2, _, hS, rfl, rfl, fun v2 h2 => by cases h2; rw [h8]; rfl⟩
      · refine z_lconst (v := 1) dL_setLocked_11 rfl (q := 12) rfl ?_
        refine z_goto (tgt := 16) dL_setLocked_12 (by decide) ?_
        refine z_last dL_setLocked_16 (wout _ _ _) (zin (k := 0) (by decide) (by decide)) (q := 17) rfl ?_
        refine Z.eqw (wouts _ _ _ _) ?_
        refine z_goto (tgt := 24) dL_setLocked_17 (by decide) ?_
        refine z_iconst (v := 0) dL_setLocked_24 rfl (q := 25) rfl ?_
        exact z_iret dL_setLocked_25 rfl ⟨zle rfl, zle rfl⟩ ⟨_, X2, _, hS, rfl, rfl, fun v2 h2 => by cases h2; rw [(hb _ _ hS).resolve_left h8]; rfl⟩
    · cases h9
  · obtain ⟨X2, rfl, hS⟩ := hw2
    rcases ho _ _ hS with ⟨v, h9⟩ | ⟨E2, hm, h9⟩
    · cases h9
    · cases h9
      simp only [List.mem_cons, List.mem_nil_iff, or_false, List.not_mem_nil] at hm
      rcases hm with rfl
      · exact zx_catch (name := "java/lang/IndexOutOfBoundsException") (pre := []) (x := ⟨0, 17, 20, 23⟩) (suf := []) (v := 1) (i := 4) (p2 := 22) (p3 := 23) (ty := .int) rfl (fun z hz => by cases hz) (by decide) (by decide) wcl_23 wca_23 (by decide) (Or.inr ⟨dL_setLocked_20, rfl⟩) dL_setLocked_22 rfl dL_setLocked_23 rfl rfl ⟨zle rfl, zle rfl⟩ ⟨_, X2, _, hS, rfl, rfl, fun v2 h2 => by cases h2⟩
set_option maxRecDepth 100000 in
set_option maxHeartbeats 4000000 in
theorem c_L_startOf {a0 : Int32} {a1 : Int32} {S : zRes → zX → Prop} (h : ZM G mX8_startOf 4 1 6 [.ref 0, .int a0, .int a1] (zw X Y O) (cOut Y O S)) (ho : ∀ r X2, S r X2 → okRes [eIOOBE, eIAE] r) : ZM G mL_startOf 5 1 6 [.ref 0, .int a0, .int a1, .ref 94] (zw X Y O) (wOut Y [eIOOBE, eIAE] S) := by
  refine ZM.goH pL rfl rfl (zle rfl) (zl := [some (.ref 0), some (.int a0), some (.int a1), some (.ref 94), none]) rfl ?_
  refine z_aload_n (i := 3) dL_startOf_0 rfl rfl (q := 1) rfl ?_
  refine z_iconst (v := 0) dL_startOf_1 rfl (q := 2) rfl ?_
  refine z_aload_n (i := 0) dL_startOf_2 rfl rfl (q := 3) rfl ?_
  refine z_iload_n (i := 1) dL_startOf_3 rfl rfl (q := 4) rfl ?_
  refine z_iload_n (i := 2) dL_startOf_4 rfl rfl (q := 5) rfl ?_
  refine z_callV (As := [_, _]) dL_startOf_5 kL_25 h (wo_x _ _ _) rfl rfl (zle rfl) ⟨zle rfl, zle rfl⟩ ⟨zle rfl, zle rfl⟩ (q := 8) rfl (fun rv w2 hw2 => ?_) (fun E w2 hw2 => ?_)
  · obtain ⟨X2, rfl, hS⟩ := hw2
    rcases ho _ _ hS with ⟨v, h9⟩ | ⟨E, _, h9⟩
    · cases h9
      refine z_i2l dL_startOf_8 (q := 9) rfl ?_
      refine z_last dL_startOf_9 (wout _ _ _) (zin (k := 0) (by decide) (by decide)) (q := 10) rfl ?_
      refine Z.eqw (wouts _ _ _ _) ?_
      refine z_goto (tgt := 21) dL_startOf_10 (by decide) ?_
      refine z_iconst (v := 0) dL_startOf_21 rfl (q := 22) rfl ?_
      exact z_iret dL_startOf_22 rfl ⟨zle rfl, zle rfl⟩ ⟨_, X2, _, hS, rfl, rfl, fun v2 h2 => by cases h2; rfl⟩
    · cases h9
  · obtain ⟨X2, rfl, hS⟩ := hw2
    rcases ho _ _ hS with ⟨v, h9⟩ | ⟨E2, hm, h9⟩
    · cases h9
    · cases h9
      simp only [List.mem_cons, List.mem_nil_iff, or_false, List.not_mem_nil] at hm
      rcases hm with rfl | rfl
      · exact zx_catch (name := "java/lang/IndexOutOfBoundsException") (pre := []) (x := ⟨0, 10, 13, 23⟩) (suf := [⟨0, 10, 17, 13⟩]) (v := 1) (i := 4) (p2 := 15) (p3 := 16) (ty := .int) rfl (fun z hz => by cases hz) (by decide) (by decide) wcl_23 wca_23 (by decide) (Or.inr ⟨dL_startOf_13, rfl⟩) dL_startOf_15 rfl dL_startOf_16 rfl rfl ⟨zle rfl, zle rfl⟩ ⟨_, X2, _, hS, rfl, rfl, fun v2 h2 => by cases h2⟩
      · exact zx_catch (name := "java/lang/IllegalArgumentException") (pre := [⟨0, 10, 13, 23⟩]) (x := ⟨0, 10, 17, 13⟩) (suf := []) (v := 2) (i := 4) (p2 := 19) (p3 := 20) (ty := .int) rfl (fun z hz => by
        simp only [List.mem_cons, List.mem_nil_iff, or_false, List.not_mem_nil] at hz
        rcases hz with rfl
        · exact Or.inr ⟨by decide, _, wcl_23, by decide⟩) (by decide) (by decide) wcl_13 wca_13 (by decide) (Or.inr ⟨dL_startOf_17, rfl⟩) dL_startOf_19 rfl dL_startOf_20 rfl rfl ⟨zle rfl, zle rfl⟩ ⟨_, X2, _, hS, rfl, rfl, fun v2 h2 => by cases h2⟩
set_option maxRecDepth 100000 in
set_option maxHeartbeats 4000000 in
theorem c_L_sizeOf {a0 : Int32} {a1 : Int32} {S : zRes → zX → Prop} (h : ZM G mX8_sizeOf 4 1 6 [.ref 0, .int a0, .int a1] (zw X Y O) (cOut Y O S)) (ho : ∀ r X2, S r X2 → okRes [eIOOBE, eIAE] r) : ZM G mL_sizeOf 5 1 6 [.ref 0, .int a0, .int a1, .ref 94] (zw X Y O) (wOut Y [eIOOBE, eIAE] S) := by
  refine ZM.goH pL rfl rfl (zle rfl) (zl := [some (.ref 0), some (.int a0), some (.int a1), some (.ref 94), none]) rfl ?_
  refine z_aload_n (i := 3) dL_sizeOf_0 rfl rfl (q := 1) rfl ?_
  refine z_iconst (v := 0) dL_sizeOf_1 rfl (q := 2) rfl ?_
  refine z_aload_n (i := 0) dL_sizeOf_2 rfl rfl (q := 3) rfl ?_
  refine z_iload_n (i := 1) dL_sizeOf_3 rfl rfl (q := 4) rfl ?_
  refine z_iload_n (i := 2) dL_sizeOf_4 rfl rfl (q := 5) rfl ?_
  refine z_callV (As := [_, _]) dL_sizeOf_5 kL_29 h (wo_x _ _ _) rfl rfl (zle rfl) ⟨zle rfl, zle rfl⟩ ⟨zle rfl, zle rfl⟩ (q := 8) rfl (fun rv w2 hw2 => ?_) (fun E w2 hw2 => ?_)
  · obtain ⟨X2, rfl, hS⟩ := hw2
    rcases ho _ _ hS with ⟨v, h9⟩ | ⟨E, _, h9⟩
    · cases h9
      refine z_i2l dL_sizeOf_8 (q := 9) rfl ?_
      refine z_last dL_sizeOf_9 (wout _ _ _) (zin (k := 0) (by decide) (by decide)) (q := 10) rfl ?_
      refine Z.eqw (wouts _ _ _ _) ?_
      refine z_goto (tgt := 21) dL_sizeOf_10 (by decide) ?_
      refine z_iconst (v := 0) dL_sizeOf_21 rfl (q := 22) rfl ?_
      exact z_iret dL_sizeOf_22 rfl ⟨zle rfl, zle rfl⟩ ⟨_, X2, _, hS, rfl, rfl, fun v2 h2 => by cases h2; rfl⟩
    · cases h9
  · obtain ⟨X2, rfl, hS⟩ := hw2
    rcases ho _ _ hS with ⟨v, h9⟩ | ⟨E2, hm, h9⟩
    · cases h9
    · cases h9
      simp only [List.mem_cons, List.mem_nil_iff, or_false, List.not_mem_nil] at hm
      rcases hm with rfl | rfl
      · exact zx_catch (name := "java/lang/IndexOutOfBoundsException") (pre := []) (x := ⟨0, 10, 13, 23⟩) (suf := [⟨0, 10, 17, 13⟩]) (v := 1) (i := 4) (p2 := 15) (p3 := 16) (ty := .int) rfl (fun z hz => by cases hz) (by decide) (by decide) wcl_23 wca_23 (by decide) (Or.inr ⟨dL_sizeOf_13, rfl⟩) dL_sizeOf_15 rfl dL_sizeOf_16 rfl rfl ⟨zle rfl, zle rfl⟩ ⟨_, X2, _, hS, rfl, rfl, fun v2 h2 => by cases h2⟩
      · exact zx_catch (name := "java/lang/IllegalArgumentException") (pre := [⟨0, 10, 13, 23⟩]) (x := ⟨0, 10, 17, 13⟩) (suf := []) (v := 2) (i := 4) (p2 := 19) (p3 := 20) (ty := .int) rfl (fun z hz => by
        simp only [List.mem_cons, List.mem_nil_iff, or_false, List.not_mem_nil] at hz
        rcases hz with rfl
        · exact Or.inr ⟨by decide, _, wcl_23, by decide⟩) (by decide) (by decide) wcl_13 wca_13 (by decide) (Or.inr ⟨dL_sizeOf_17, rfl⟩) dL_sizeOf_19 rfl dL_sizeOf_20 rfl rfl ⟨zle rfl, zle rfl⟩ ⟨_, X2, _, hS, rfl, rfl, fun v2 h2 => by cases h2⟩
set_option maxRecDepth 100000 in
set_option maxHeartbeats 4000000 in
theorem c_L_moveTo {a0 : Int32} {a1 : Int32} {a2 : Int32} {S : zRes → zX → Prop} (h : ZM G mX8_moveTo 5 1 6 [.ref 0, .int a0, .int a1, .int a2] (zw X Y O) (cOut Y O S)) (ho : ∀ r X2, S r X2 → okRes [eIOOBE, eISE, eIAE, eUOE] r) : ZM G mL_moveTo 6 1 6 [.ref 0, .int a0, .int a1, .int a2, .ref 94] (zw X Y O) (wOut Y [eIOOBE, eISE, eIAE, eUOE] S) := by
  refine ZM.goH pL rfl rfl (zle rfl) (zl := [some (.ref 0), some (.int a0), some (.int a1), some (.int a2), some (.ref 94), none]) rfl ?_
  refine z_aload dL_moveTo_0 rfl (q := 2) rfl ?_
  refine z_iconst (v := 0) dL_moveTo_2 rfl (q := 3) rfl ?_
  refine z_aload_n (i := 0) dL_moveTo_3 rfl rfl (q := 4) rfl ?_
  refine z_iload_n (i := 1) dL_moveTo_4 rfl rfl (q := 5) rfl ?_
  refine z_iload_n (i := 2) dL_moveTo_5 rfl rfl (q := 6) rfl ?_
  refine z_iload_n (i := 3) dL_moveTo_6 rfl rfl (q := 7) rfl ?_
  refine z_callV (As := [_, _, _]) dL_moveTo_7 kL_32 h (wo_x _ _ _) rfl rfl (zle rfl) ⟨zle rfl, zle rfl⟩ ⟨zle rfl, zle rfl⟩ (q := 10) rfl (fun rv w2 hw2 => ?_) (fun E w2 hw2 => ?_)
  · obtain ⟨X2, rfl, hS⟩ := hw2
    rcases ho _ _ hS with ⟨v, h9⟩ | ⟨E, _, h9⟩
    · cases h9
      refine z_i2l dL_moveTo_10 (q := 11) rfl ?_
      refine z_last dL_moveTo_11 (wout _ _ _) (zin (k := 0) (by decide) (by decide)) (q := 12) rfl ?_
      refine Z.eqw (wouts _ _ _ _) ?_
      refine z_goto (tgt := 31) dL_moveTo_12 (by decide) ?_
      refine z_iconst (v := 0) dL_moveTo_31 rfl (q := 32) rfl ?_
      exact z_iret dL_moveTo_32 rfl ⟨zle rfl, zle rfl⟩ ⟨_, X2, _, hS, rfl, rfl, fun v2 h2 => by cases h2; rfl⟩
    · cases h9
  · obtain ⟨X2, rfl, hS⟩ := hw2
    rcases ho _ _ hS with ⟨v, h9⟩ | ⟨E2, hm, h9⟩
    · cases h9
    · cases h9
      simp only [List.mem_cons, List.mem_nil_iff, or_false, List.not_mem_nil] at hm
      rcases hm with rfl | rfl | rfl | rfl
      · exact zx_catch (name := "java/lang/IndexOutOfBoundsException") (pre := []) (x := ⟨0, 12, 15, 23⟩) (suf := [⟨0, 12, 19, 15⟩, ⟨0, 12, 23, 13⟩, ⟨0, 12, 27, 17⟩]) (v := 1) (i := 5) (p2 := 17) (p3 := 18) (ty := .int) rfl (fun z hz => by cases hz) (by decide) (by decide) wcl_23 wca_23 (by decide) (Or.inr ⟨dL_moveTo_15, rfl⟩) dL_moveTo_17 rfl dL_moveTo_18 rfl rfl ⟨zle rfl, zle rfl⟩ ⟨_, X2, _, hS, rfl, rfl, fun v2 h2 => by cases h2⟩
      · exact zx_catch (name := "java/lang/IllegalStateException") (pre := [⟨0, 12, 15, 23⟩]) (x := ⟨0, 12, 19, 15⟩) (suf := [⟨0, 12, 23, 13⟩, ⟨0, 12, 27, 17⟩]) (v := 2) (i := 5) (p2 := 21) (p3 := 22) (ty := .int) rfl (fun z hz => by
        simp only [List.mem_cons, List.mem_nil_iff, or_false, List.not_mem_nil] at hz
        rcases hz with rfl
        · exact Or.inr ⟨by decide, _, wcl_23, by decide⟩) (by decide) (by decide) wcl_15 wca_15 (by decide) (Or.inr ⟨dL_moveTo_19, rfl⟩) dL_moveTo_21 rfl dL_moveTo_22 rfl rfl ⟨zle rfl, zle rfl⟩ ⟨_, X2, _, hS, rfl, rfl, fun v2 h2 => by cases h2⟩
      · exact zx_catch (name := "java/lang/IllegalArgumentException") (pre := [⟨0, 12, 15, 23⟩, ⟨0, 12, 19, 15⟩]) (x := ⟨0, 12, 23, 13⟩) (suf := [⟨0, 12, 27, 17⟩]) (v := 3) (i := 5) (p2 := 25) (p3 := 26) (ty := .int) rfl (fun z hz => by
        simp only [List.mem_cons, List.mem_nil_iff, or_false, List.not_mem_nil] at hz
        rcases hz with rfl | rfl
        · exact Or.inr ⟨by decide, _, wcl_23, by decide⟩
        · exact Or.inr ⟨by decide, _, wcl_15, by decide⟩) (by decide) (by decide) wcl_13 wca_13 (by decide) (Or.inr ⟨dL_moveTo_23, rfl⟩) dL_moveTo_25 rfl dL_moveTo_26 rfl rfl ⟨zle rfl, zle rfl⟩ ⟨_, X2, _, hS, rfl, rfl, fun v2 h2 => by cases h2⟩
      · exact zx_catch (name := "java/lang/UnsupportedOperationException") (pre := [⟨0, 12, 15, 23⟩, ⟨0, 12, 19, 15⟩, ⟨0, 12, 23, 13⟩]) (x := ⟨0, 12, 27, 17⟩) (suf := []) (v := 4) (i := 5) (p2 := 29) (p3 := 30) (ty := .int) rfl (fun z hz => by
        simp only [List.mem_cons, List.mem_nil_iff, or_false, List.not_mem_nil] at hz
        rcases hz with rfl | rfl | rfl
        · exact Or.inr ⟨by decide, _, wcl_23, by decide⟩
        · exact Or.inr ⟨by decide, _, wcl_15, by decide⟩
        · exact Or.inr ⟨by decide, _, wcl_13, by decide⟩) (by decide) (by decide) wcl_17 wca_17 (by decide) (Or.inr ⟨dL_moveTo_27, rfl⟩) dL_moveTo_29 rfl dL_moveTo_30 rfl rfl ⟨zle rfl, zle rfl⟩ ⟨_, X2, _, hS, rfl, rfl, fun v2 h2 => by cases h2⟩
set_option maxRecDepth 100000 in
set_option maxHeartbeats 4000000 in
theorem c_L_moveReason {a0 : Int32} {a1 : Int32} {a2 : Int32} {S : zRes → zX → Prop} (h : ZM G mX8_moveReason 5 1 6 [.ref 0, .int a0, .int a1, .int a2] (zw X Y O) (cOut Y O S)) (ho : ∀ r X2, S r X2 → okRes [eIOOBE] r) : ZM G mL_moveReason 6 1 6 [.ref 0, .int a0, .int a1, .int a2, .ref 94] (zw X Y O) (wOut Y [eIOOBE] S) := by
  refine ZM.goH pL rfl rfl (zle rfl) (zl := [some (.ref 0), some (.int a0), some (.int a1), some (.int a2), some (.ref 94), none]) rfl ?_
  refine z_aload dL_moveReason_0 rfl (q := 2) rfl ?_
  refine z_iconst (v := 0) dL_moveReason_2 rfl (q := 3) rfl ?_
  refine z_aload_n (i := 0) dL_moveReason_3 rfl rfl (q := 4) rfl ?_
  refine z_iload_n (i := 1) dL_moveReason_4 rfl rfl (q := 5) rfl ?_
  refine z_iload_n (i := 2) dL_moveReason_5 rfl rfl (q := 6) rfl ?_
  refine z_iload_n (i := 3) dL_moveReason_6 rfl rfl (q := 7) rfl ?_
  refine z_callV (As := [_, _, _]) dL_moveReason_7 kL_36 h (wo_x _ _ _) rfl rfl (zle rfl) ⟨zle rfl, zle rfl⟩ ⟨zle rfl, zle rfl⟩ (q := 10) rfl (fun rv w2 hw2 => ?_) (fun E w2 hw2 => ?_)
  · obtain ⟨X2, rfl, hS⟩ := hw2
    rcases ho _ _ hS with ⟨v, h9⟩ | ⟨E, _, h9⟩
    · cases h9
      refine z_i2l dL_moveReason_10 (q := 11) rfl ?_
      refine z_last dL_moveReason_11 (wout _ _ _) (zin (k := 0) (by decide) (by decide)) (q := 12) rfl ?_
      refine Z.eqw (wouts _ _ _ _) ?_
      refine z_goto (tgt := 19) dL_moveReason_12 (by decide) ?_
      refine z_iconst (v := 0) dL_moveReason_19 rfl (q := 20) rfl ?_
      exact z_iret dL_moveReason_20 rfl ⟨zle rfl, zle rfl⟩ ⟨_, X2, _, hS, rfl, rfl, fun v2 h2 => by cases h2; rfl⟩
    · cases h9
  · obtain ⟨X2, rfl, hS⟩ := hw2
    rcases ho _ _ hS with ⟨v, h9⟩ | ⟨E2, hm, h9⟩
    · cases h9
    · cases h9
      simp only [List.mem_cons, List.mem_nil_iff, or_false, List.not_mem_nil] at hm
      rcases hm with rfl
      · exact zx_catch (name := "java/lang/IndexOutOfBoundsException") (pre := []) (x := ⟨0, 12, 15, 23⟩) (suf := []) (v := 1) (i := 5) (p2 := 17) (p3 := 18) (ty := .int) rfl (fun z hz => by cases hz) (by decide) (by decide) wcl_23 wca_23 (by decide) (Or.inr ⟨dL_moveReason_15, rfl⟩) dL_moveReason_17 rfl dL_moveReason_18 rfl rfl ⟨zle rfl, zle rfl⟩ ⟨_, X2, _, hS, rfl, rfl, fun v2 h2 => by cases h2⟩
set_option maxRecDepth 100000 in
set_option maxHeartbeats 4000000 in
theorem c_L_setText {a0 : Int32} {a1 : Int32} {S : zRes → zX → Prop} (h : ZM G mX8_setText 4 1 6 [.ref 0, .int a0, .int a1] (zw X Y O) (cOut Y O S)) (ho : ∀ r X2, S r X2 → okRes [eIOOBE, eIAE] r) : ZM G mL_setText 5 1 6 [.ref 0, .int a0, .int a1, .ref 94] (zw X Y O) (wOut Y [eIOOBE, eIAE] S) := by
  refine ZM.goH pL rfl rfl (zle rfl) (zl := [some (.ref 0), some (.int a0), some (.int a1), some (.ref 94), none]) rfl ?_
  refine z_aload_n (i := 3) dL_setText_0 rfl rfl (q := 1) rfl ?_
  refine z_iconst (v := 0) dL_setText_1 rfl (q := 2) rfl ?_
  refine z_aload_n (i := 0) dL_setText_2 rfl rfl (q := 3) rfl ?_
  refine z_iload_n (i := 1) dL_setText_3 rfl rfl (q := 4) rfl ?_
  refine z_iload_n (i := 2) dL_setText_4 rfl rfl (q := 5) rfl ?_
  refine z_callV (As := [_, _]) dL_setText_5 kL_40 h (wo_x _ _ _) rfl rfl (zle rfl) ⟨zle rfl, zle rfl⟩ ⟨zle rfl, zle rfl⟩ (q := 8) rfl (fun rv w2 hw2 => ?_) (fun E w2 hw2 => ?_)
  · obtain ⟨X2, rfl, hS⟩ := hw2
    rcases ho _ _ hS with ⟨v, h9⟩ | ⟨E, _, h9⟩
    · cases h9
      refine z_i2l dL_setText_8 (q := 9) rfl ?_
      refine z_last dL_setText_9 (wout _ _ _) (zin (k := 0) (by decide) (by decide)) (q := 10) rfl ?_
      refine Z.eqw (wouts _ _ _ _) ?_
      refine z_goto (tgt := 21) dL_setText_10 (by decide) ?_
      refine z_iconst (v := 0) dL_setText_21 rfl (q := 22) rfl ?_
      exact z_iret dL_setText_22 rfl ⟨zle rfl, zle rfl⟩ ⟨_, X2, _, hS, rfl, rfl, fun v2 h2 => by cases h2; rfl⟩
    · cases h9
  · obtain ⟨X2, rfl, hS⟩ := hw2
    rcases ho _ _ hS with ⟨v, h9⟩ | ⟨E2, hm, h9⟩
    · cases h9
    · cases h9
      simp only [List.mem_cons, List.mem_nil_iff, or_false, List.not_mem_nil] at hm
      rcases hm with rfl | rfl
      · exact zx_catch (name := "java/lang/IndexOutOfBoundsException") (pre := []) (x := ⟨0, 10, 13, 23⟩) (suf := [⟨0, 10, 17, 13⟩]) (v := 1) (i := 4) (p2 := 15) (p3 := 16) (ty := .int) rfl (fun z hz => by cases hz) (by decide) (by decide) wcl_23 wca_23 (by decide) (Or.inr ⟨dL_setText_13, rfl⟩) dL_setText_15 rfl dL_setText_16 rfl rfl ⟨zle rfl, zle rfl⟩ ⟨_, X2, _, hS, rfl, rfl, fun v2 h2 => by cases h2⟩
      · exact zx_catch (name := "java/lang/IllegalArgumentException") (pre := [⟨0, 10, 13, 23⟩]) (x := ⟨0, 10, 17, 13⟩) (suf := []) (v := 2) (i := 4) (p2 := 19) (p3 := 20) (ty := .int) rfl (fun z hz => by
        simp only [List.mem_cons, List.mem_nil_iff, or_false, List.not_mem_nil] at hz
        rcases hz with rfl
        · exact Or.inr ⟨by decide, _, wcl_23, by decide⟩) (by decide) (by decide) wcl_13 wca_13 (by decide) (Or.inr ⟨dL_setText_17, rfl⟩) dL_setText_19 rfl dL_setText_20 rfl rfl ⟨zle rfl, zle rfl⟩ ⟨_, X2, _, hS, rfl, rfl, fun v2 h2 => by cases h2⟩
set_option maxRecDepth 100000 in
set_option maxHeartbeats 4000000 in
theorem c_L_fits {a0 : Int32} {S : zRes → zX → Prop} (h : ZM G mX8_fits 4 1 6 [.ref 0, .int a0] (zw X Y O) (cOut Y O S)) (ho : ∀ r X2, S r X2 → okRes [eIOOBE] r) (hb : ∀ v X2, S (.inl (some (.int v))) X2 → bit v) : ZM G mL_fits 5 1 6 [.ref 0, .int a0, .ref 94] (zw X Y O) (wOut Y [eIOOBE] S) := by
  refine ZM.goH pL rfl rfl (zle rfl) (zl := [some (.ref 0), some (.int a0), some (.ref 94), none]) rfl ?_
  refine z_aload_n (i := 2) dL_fits_0 rfl rfl (q := 1) rfl ?_
  refine z_iconst (v := 0) dL_fits_1 rfl (q := 2) rfl ?_
  refine z_aload_n (i := 0) dL_fits_2 rfl rfl (q := 3) rfl ?_
  refine z_iload_n (i := 1) dL_fits_3 rfl rfl (q := 4) rfl ?_
  refine z_callV (As := [_]) dL_fits_4 kL_44 h (wo_x _ _ _) rfl rfl (zle rfl) ⟨zle rfl, zle rfl⟩ ⟨zle rfl, zle rfl⟩ (q := 7) rfl (fun rv w2 hw2 => ?_) (fun E w2 hw2 => ?_)
  · obtain ⟨X2, rfl, hS⟩ := hw2
    rcases ho _ _ hS with ⟨v, h9⟩ | ⟨E, _, h9⟩
    · cases h9
      refine z_if_eq (tgt := 14) dL_fits_7 (by decide) (q := 10) rfl (fun h8 => ?_) (fun h8 => ?_)
      · refine z_lconst (v := 0) dL_fits_14 rfl (q := 15) rfl ?_
        refine z_last dL_fits_15 (wout _ _ _) (zin (k := 0) (by decide) (by decide)) (q := 16) rfl ?_
        refine Z.eqw (wouts _ _ _ _) ?_
        refine z_goto (tgt := 22) dL_fits_16 (by decide) ?_
        refine z_iconst (v := 0) dL_fits_22 rfl (q := 23) rfl ?_
        exact z_iret dL_fits_23 rfl ⟨zle rfl, zle rfl⟩ ⟨_, X2, _, hS, rfl, rfl, fun v2 h2 => by cases h2; rw [h8]; rfl⟩
      · refine z_lconst (v := 1) dL_fits_10 rfl (q := 11) rfl ?_
        refine z_goto (tgt := 15) dL_fits_11 (by decide) ?_
        refine z_last dL_fits_15 (wout _ _ _) (zin (k := 0) (by decide) (by decide)) (q := 16) rfl ?_
        refine Z.eqw (wouts _ _ _ _) ?_
        refine z_goto (tgt := 22) dL_fits_16 (by decide) ?_
        refine z_iconst (v := 0) dL_fits_22 rfl (q := 23) rfl ?_
        exact z_iret dL_fits_23 rfl ⟨zle rfl, zle rfl⟩ ⟨_, X2, _, hS, rfl, rfl, fun v2 h2 => by cases h2; rw [(hb _ _ hS).resolve_left h8]; rfl⟩
    · cases h9
  · obtain ⟨X2, rfl, hS⟩ := hw2
    rcases ho _ _ hS with ⟨v, h9⟩ | ⟨E2, hm, h9⟩
    · cases h9
    · cases h9
      simp only [List.mem_cons, List.mem_nil_iff, or_false, List.not_mem_nil] at hm
      rcases hm with rfl
      · exact zx_catch (name := "java/lang/IndexOutOfBoundsException") (pre := []) (x := ⟨0, 16, 19, 23⟩) (suf := []) (v := 1) (i := 3) (p2 := 20) (p3 := 21) (ty := .int) rfl (fun z hz => by cases hz) (by decide) (by decide) wcl_23 wca_23 (by decide) (Or.inl ⟨⟨3, by decide⟩, rfl, dL_fits_19, rfl⟩) dL_fits_20 rfl dL_fits_21 rfl rfl ⟨zle rfl, zle rfl⟩ ⟨_, X2, _, hS, rfl, rfl, fun v2 h2 => by cases h2⟩
set_option maxRecDepth 100000 in
set_option maxHeartbeats 4000000 in
theorem c_L_grow {a0 : Int32} {S : zRes → zX → Prop} (h : ZM G mX8_grow 6 1 6 [.ref 0, .int a0] (zw X Y O) (cOut Y O S)) (ho : ∀ r X2, S r X2 → okRes [eIOOBE, eNSE, eISE, eUOE] r) : ZM G mL_grow 7 1 6 [.ref 0, .int a0, .ref 94] (zw X Y O) (wOut Y [eIOOBE, eNSE, eISE, eUOE] S) := by
  refine ZM.goH pL rfl rfl (zle rfl) (zl := [some (.ref 0), some (.int a0), some (.ref 94), none]) rfl ?_
  refine z_aload_n (i := 2) dL_grow_0 rfl rfl (q := 1) rfl ?_
  refine z_iconst (v := 0) dL_grow_1 rfl (q := 2) rfl ?_
  refine z_aload_n (i := 0) dL_grow_2 rfl rfl (q := 3) rfl ?_
  refine z_iload_n (i := 1) dL_grow_3 rfl rfl (q := 4) rfl ?_
  refine z_callV (As := [_]) dL_grow_4 kL_48 h (wo_x _ _ _) rfl rfl (zle rfl) ⟨zle rfl, zle rfl⟩ ⟨zle rfl, zle rfl⟩ (q := 7) rfl (fun rv w2 hw2 => ?_) (fun E w2 hw2 => ?_)
  · obtain ⟨X2, rfl, hS⟩ := hw2
    rcases ho _ _ hS with ⟨v, h9⟩ | ⟨E, _, h9⟩
    · cases h9
      refine z_i2l dL_grow_7 (q := 8) rfl ?_
      refine z_last dL_grow_8 (wout _ _ _) (zin (k := 0) (by decide) (by decide)) (q := 9) rfl ?_
      refine Z.eqw (wouts _ _ _ _) ?_
      refine z_goto (tgt := 24) dL_grow_9 (by decide) ?_
      refine z_iconst (v := 0) dL_grow_24 rfl (q := 25) rfl ?_
      exact z_iret dL_grow_25 rfl ⟨zle rfl, zle rfl⟩ ⟨_, X2, _, hS, rfl, rfl, fun v2 h2 => by cases h2; rfl⟩
    · cases h9
  · obtain ⟨X2, rfl, hS⟩ := hw2
    rcases ho _ _ hS with ⟨v, h9⟩ | ⟨E2, hm, h9⟩
    · cases h9
    · cases h9
      simp only [List.mem_cons, List.mem_nil_iff, or_false, List.not_mem_nil] at hm
      rcases hm with rfl | rfl | rfl | rfl
      · exact zx_catch (name := "java/lang/IndexOutOfBoundsException") (pre := []) (x := ⟨0, 9, 12, 23⟩) (suf := [⟨0, 9, 15, 52⟩, ⟨0, 9, 18, 15⟩, ⟨0, 9, 21, 17⟩]) (v := 1) (i := 3) (p2 := 13) (p3 := 14) (ty := .int) rfl (fun z hz => by cases hz) (by decide) (by decide) wcl_23 wca_23 (by decide) (Or.inl ⟨⟨3, by decide⟩, rfl, dL_grow_12, rfl⟩) dL_grow_13 rfl dL_grow_14 rfl rfl ⟨zle rfl, zle rfl⟩ ⟨_, X2, _, hS, rfl, rfl, fun v2 h2 => by cases h2⟩
      · exact zx_catch (name := "java/util/NoSuchElementException") (pre := [⟨0, 9, 12, 23⟩]) (x := ⟨0, 9, 15, 52⟩) (suf := [⟨0, 9, 18, 15⟩, ⟨0, 9, 21, 17⟩]) (v := 2) (i := 3) (p2 := 16) (p3 := 17) (ty := .int) rfl (fun z hz => by
        simp only [List.mem_cons, List.mem_nil_iff, or_false, List.not_mem_nil] at hz
        rcases hz with rfl
        · exact Or.inr ⟨by decide, _, wcl_23, by decide⟩) (by decide) (by decide) wcl_52 wca_52 (by decide) (Or.inl ⟨⟨3, by decide⟩, rfl, dL_grow_15, rfl⟩) dL_grow_16 rfl dL_grow_17 rfl rfl ⟨zle rfl, zle rfl⟩ ⟨_, X2, _, hS, rfl, rfl, fun v2 h2 => by cases h2⟩
      · exact zx_catch (name := "java/lang/IllegalStateException") (pre := [⟨0, 9, 12, 23⟩, ⟨0, 9, 15, 52⟩]) (x := ⟨0, 9, 18, 15⟩) (suf := [⟨0, 9, 21, 17⟩]) (v := 3) (i := 3) (p2 := 19) (p3 := 20) (ty := .int) rfl (fun z hz => by
        simp only [List.mem_cons, List.mem_nil_iff, or_false, List.not_mem_nil] at hz
        rcases hz with rfl | rfl
        · exact Or.inr ⟨by decide, _, wcl_23, by decide⟩
        · exact Or.inr ⟨by decide, _, wcl_52, by decide⟩) (by decide) (by decide) wcl_15 wca_15 (by decide) (Or.inl ⟨⟨3, by decide⟩, rfl, dL_grow_18, rfl⟩) dL_grow_19 rfl dL_grow_20 rfl rfl ⟨zle rfl, zle rfl⟩ ⟨_, X2, _, hS, rfl, rfl, fun v2 h2 => by cases h2⟩
      · exact zx_catch (name := "java/lang/UnsupportedOperationException") (pre := [⟨0, 9, 12, 23⟩, ⟨0, 9, 15, 52⟩, ⟨0, 9, 18, 15⟩]) (x := ⟨0, 9, 21, 17⟩) (suf := []) (v := 4) (i := 3) (p2 := 22) (p3 := 23) (ty := .int) rfl (fun z hz => by
        simp only [List.mem_cons, List.mem_nil_iff, or_false, List.not_mem_nil] at hz
        rcases hz with rfl | rfl | rfl
        · exact Or.inr ⟨by decide, _, wcl_23, by decide⟩
        · exact Or.inr ⟨by decide, _, wcl_52, by decide⟩
        · exact Or.inr ⟨by decide, _, wcl_15, by decide⟩) (by decide) (by decide) wcl_17 wca_17 (by decide) (Or.inl ⟨⟨3, by decide⟩, rfl, dL_grow_21, rfl⟩) dL_grow_22 rfl dL_grow_23 rfl rfl ⟨zle rfl, zle rfl⟩ ⟨_, X2, _, hS, rfl, rfl, fun v2 h2 => by cases h2⟩
set_option maxRecDepth 100000 in
set_option maxHeartbeats 4000000 in
theorem c_L_growReason {a0 : Int32} {S : zRes → zX → Prop} (h : ZM G mX8_growReason 6 1 6 [.ref 0, .int a0] (zw X Y O) (cOut Y O S)) (ho : ∀ r X2, S r X2 → okRes [eIOOBE] r) : ZM G mL_growReason 7 1 6 [.ref 0, .int a0, .ref 94] (zw X Y O) (wOut Y [eIOOBE] S) := by
  refine ZM.goH pL rfl rfl (zle rfl) (zl := [some (.ref 0), some (.int a0), some (.ref 94), none]) rfl ?_
  refine z_aload_n (i := 2) dL_growReason_0 rfl rfl (q := 1) rfl ?_
  refine z_iconst (v := 0) dL_growReason_1 rfl (q := 2) rfl ?_
  refine z_aload_n (i := 0) dL_growReason_2 rfl rfl (q := 3) rfl ?_
  refine z_iload_n (i := 1) dL_growReason_3 rfl rfl (q := 4) rfl ?_
  refine z_callV (As := [_]) dL_growReason_4 kL_54 h (wo_x _ _ _) rfl rfl (zle rfl) ⟨zle rfl, zle rfl⟩ ⟨zle rfl, zle rfl⟩ (q := 7) rfl (fun rv w2 hw2 => ?_) (fun E w2 hw2 => ?_)
  · obtain ⟨X2, rfl, hS⟩ := hw2
    rcases ho _ _ hS with ⟨v, h9⟩ | ⟨E, _, h9⟩
    · cases h9
      refine z_i2l dL_growReason_7 (q := 8) rfl ?_
      refine z_last dL_growReason_8 (wout _ _ _) (zin (k := 0) (by decide) (by decide)) (q := 9) rfl ?_
      refine Z.eqw (wouts _ _ _ _) ?_
      refine z_goto (tgt := 15) dL_growReason_9 (by decide) ?_
      refine z_iconst (v := 0) dL_growReason_15 rfl (q := 16) rfl ?_
      exact z_iret dL_growReason_16 rfl ⟨zle rfl, zle rfl⟩ ⟨_, X2, _, hS, rfl, rfl, fun v2 h2 => by cases h2; rfl⟩
    · cases h9
  · obtain ⟨X2, rfl, hS⟩ := hw2
    rcases ho _ _ hS with ⟨v, h9⟩ | ⟨E2, hm, h9⟩
    · cases h9
    · cases h9
      simp only [List.mem_cons, List.mem_nil_iff, or_false, List.not_mem_nil] at hm
      rcases hm with rfl
      · exact zx_catch (name := "java/lang/IndexOutOfBoundsException") (pre := []) (x := ⟨0, 9, 12, 23⟩) (suf := []) (v := 1) (i := 3) (p2 := 13) (p3 := 14) (ty := .int) rfl (fun z hz => by cases hz) (by decide) (by decide) wcl_23 wca_23 (by decide) (Or.inl ⟨⟨3, by decide⟩, rfl, dL_growReason_12, rfl⟩) dL_growReason_13 rfl dL_growReason_14 rfl rfl ⟨zle rfl, zle rfl⟩ ⟨_, X2, _, hS, rfl, rfl, fun v2 h2 => by cases h2⟩
set_option maxRecDepth 100000 in
set_option maxHeartbeats 4000000 in
theorem c_L_inTheWay {a0 : Int32} {S : zRes → zX → Prop} (h : ZM G mX8_inTheWay 5 1 6 [.ref 0, .int a0] (zw X Y O) (cOut Y O S)) (ho : ∀ r X2, S r X2 → okRes [eIOOBE, eNSE] r) : ZM G mL_inTheWay 6 1 6 [.ref 0, .int a0, .ref 94] (zw X Y O) (wOut Y [eIOOBE, eNSE] S) := by
  refine ZM.goH pL rfl rfl (zle rfl) (zl := [some (.ref 0), some (.int a0), some (.ref 94), none]) rfl ?_
  refine z_aload_n (i := 2) dL_inTheWay_0 rfl rfl (q := 1) rfl ?_
  refine z_iconst (v := 0) dL_inTheWay_1 rfl (q := 2) rfl ?_
  refine z_aload_n (i := 0) dL_inTheWay_2 rfl rfl (q := 3) rfl ?_
  refine z_iload_n (i := 1) dL_inTheWay_3 rfl rfl (q := 4) rfl ?_
  refine z_callV (As := [_]) dL_inTheWay_4 kL_58 h (wo_x _ _ _) rfl rfl (zle rfl) ⟨zle rfl, zle rfl⟩ ⟨zle rfl, zle rfl⟩ (q := 7) rfl (fun rv w2 hw2 => ?_) (fun E w2 hw2 => ?_)
  · obtain ⟨X2, rfl, hS⟩ := hw2
    rcases ho _ _ hS with ⟨v, h9⟩ | ⟨E, _, h9⟩
    · cases h9
      refine z_i2l dL_inTheWay_7 (q := 8) rfl ?_
      refine z_last dL_inTheWay_8 (wout _ _ _) (zin (k := 0) (by decide) (by decide)) (q := 9) rfl ?_
      refine Z.eqw (wouts _ _ _ _) ?_
      refine z_goto (tgt := 18) dL_inTheWay_9 (by decide) ?_
      refine z_iconst (v := 0) dL_inTheWay_18 rfl (q := 19) rfl ?_
      exact z_iret dL_inTheWay_19 rfl ⟨zle rfl, zle rfl⟩ ⟨_, X2, _, hS, rfl, rfl, fun v2 h2 => by cases h2; rfl⟩
    · cases h9
  · obtain ⟨X2, rfl, hS⟩ := hw2
    rcases ho _ _ hS with ⟨v, h9⟩ | ⟨E2, hm, h9⟩
    · cases h9
    · cases h9
      simp only [List.mem_cons, List.mem_nil_iff, or_false, List.not_mem_nil] at hm
      rcases hm with rfl | rfl
      · exact zx_catch (name := "java/lang/IndexOutOfBoundsException") (pre := []) (x := ⟨0, 9, 12, 23⟩) (suf := [⟨0, 9, 15, 52⟩]) (v := 1) (i := 3) (p2 := 13) (p3 := 14) (ty := .int) rfl (fun z hz => by cases hz) (by decide) (by decide) wcl_23 wca_23 (by decide) (Or.inl ⟨⟨3, by decide⟩, rfl, dL_inTheWay_12, rfl⟩) dL_inTheWay_13 rfl dL_inTheWay_14 rfl rfl ⟨zle rfl, zle rfl⟩ ⟨_, X2, _, hS, rfl, rfl, fun v2 h2 => by cases h2⟩
      · exact zx_catch (name := "java/util/NoSuchElementException") (pre := [⟨0, 9, 12, 23⟩]) (x := ⟨0, 9, 15, 52⟩) (suf := []) (v := 2) (i := 3) (p2 := 16) (p3 := 17) (ty := .int) rfl (fun z hz => by
        simp only [List.mem_cons, List.mem_nil_iff, or_false, List.not_mem_nil] at hz
        rcases hz with rfl
        · exact Or.inr ⟨by decide, _, wcl_23, by decide⟩) (by decide) (by decide) wcl_52 wca_52 (by decide) (Or.inl ⟨⟨3, by decide⟩, rfl, dL_inTheWay_15, rfl⟩) dL_inTheWay_16 rfl dL_inTheWay_17 rfl rfl ⟨zle rfl, zle rfl⟩ ⟨_, X2, _, hS, rfl, rfl, fun v2 h2 => by cases h2⟩
set_option maxRecDepth 100000 in
set_option maxHeartbeats 4000000 in
theorem c_L_addWish {a0 : Int32} {a1 : Int32} {a2 : Int32} {a3 : Int32} {S : zRes → zX → Prop} (h : ZM G mX8_addWish 4 1 6 [.ref 0, .int a0, .int a1, .int a2, .int a3] (zw X Y O) (cOut Y O S)) (ho : ∀ r X2, S r X2 → okRes [eIOOBE, eIAE, eISE] r) : ZM G mL_addWish 5 1 6 [.ref 0, .int a0, .int a1, .int a2, .int a3, .ref 94] (zw X Y O) (wOut Y [eIOOBE, eIAE, eISE] S) := by
  refine ZM.goH pL rfl rfl (zle rfl) (zl := [some (.ref 0), some (.int a0), some (.int a1), some (.int a2), some (.int a3), some (.ref 94), none]) rfl ?_
  refine z_aload dL_addWish_0 rfl (q := 2) rfl ?_
  refine z_iconst (v := 0) dL_addWish_2 rfl (q := 3) rfl ?_
  refine z_aload_n (i := 0) dL_addWish_3 rfl rfl (q := 4) rfl ?_
  refine z_iload_n (i := 1) dL_addWish_4 rfl rfl (q := 5) rfl ?_
  refine z_iload_n (i := 2) dL_addWish_5 rfl rfl (q := 6) rfl ?_
  refine z_iload_n (i := 3) dL_addWish_6 rfl rfl (q := 7) rfl ?_
  refine z_iload dL_addWish_7 rfl (q := 9) rfl ?_
  refine z_callV (As := [_, _, _, _]) dL_addWish_9 kL_61 h (wo_x _ _ _) rfl rfl (zle rfl) ⟨zle rfl, zle rfl⟩ ⟨zle rfl, zle rfl⟩ (q := 12) rfl (fun rv w2 hw2 => ?_) (fun E w2 hw2 => ?_)
  · obtain ⟨X2, rfl, hS⟩ := hw2
    rcases ho _ _ hS with ⟨v, h9⟩ | ⟨E, _, h9⟩
    · cases h9
      refine z_i2l dL_addWish_12 (q := 13) rfl ?_
      refine z_last dL_addWish_13 (wout _ _ _) (zin (k := 0) (by decide) (by decide)) (q := 14) rfl ?_
      refine Z.eqw (wouts _ _ _ _) ?_
      refine z_goto (tgt := 29) dL_addWish_14 (by decide) ?_
      refine z_iconst (v := 0) dL_addWish_29 rfl (q := 30) rfl ?_
      exact z_iret dL_addWish_30 rfl ⟨zle rfl, zle rfl⟩ ⟨_, X2, _, hS, rfl, rfl, fun v2 h2 => by cases h2; rfl⟩
    · cases h9
  · obtain ⟨X2, rfl, hS⟩ := hw2
    rcases ho _ _ hS with ⟨v, h9⟩ | ⟨E2, hm, h9⟩
    · cases h9
    · cases h9
      simp only [List.mem_cons, List.mem_nil_iff, or_false, List.not_mem_nil] at hm
      rcases hm with rfl | rfl | rfl
      · exact zx_catch (name := "java/lang/IndexOutOfBoundsException") (pre := []) (x := ⟨0, 14, 17, 23⟩) (suf := [⟨0, 14, 21, 13⟩, ⟨0, 14, 25, 15⟩]) (v := 1) (i := 6) (p2 := 19) (p3 := 20) (ty := .int) rfl (fun z hz => by cases hz) (by decide) (by decide) wcl_23 wca_23 (by decide) (Or.inr ⟨dL_addWish_17, rfl⟩) dL_addWish_19 rfl dL_addWish_20 rfl rfl ⟨zle rfl, zle rfl⟩ ⟨_, X2, _, hS, rfl, rfl, fun v2 h2 => by cases h2⟩
      · exact zx_catch (name := "java/lang/IllegalArgumentException") (pre := [⟨0, 14, 17, 23⟩]) (x := ⟨0, 14, 21, 13⟩) (suf := [⟨0, 14, 25, 15⟩]) (v := 2) (i := 6) (p2 := 23) (p3 := 24) (ty := .int) rfl (fun z hz => by
        simp only [List.mem_cons, List.mem_nil_iff, or_false, List.not_mem_nil] at hz
        rcases hz with rfl
        · exact Or.inr ⟨by decide, _, wcl_23, by decide⟩) (by decide) (by decide) wcl_13 wca_13 (by decide) (Or.inr ⟨dL_addWish_21, rfl⟩) dL_addWish_23 rfl dL_addWish_24 rfl rfl ⟨zle rfl, zle rfl⟩ ⟨_, X2, _, hS, rfl, rfl, fun v2 h2 => by cases h2⟩
      · exact zx_catch (name := "java/lang/IllegalStateException") (pre := [⟨0, 14, 17, 23⟩, ⟨0, 14, 21, 13⟩]) (x := ⟨0, 14, 25, 15⟩) (suf := []) (v := 3) (i := 6) (p2 := 27) (p3 := 28) (ty := .int) rfl (fun z hz => by
        simp only [List.mem_cons, List.mem_nil_iff, or_false, List.not_mem_nil] at hz
        rcases hz with rfl | rfl
        · exact Or.inr ⟨by decide, _, wcl_23, by decide⟩
        · exact Or.inr ⟨by decide, _, wcl_13, by decide⟩) (by decide) (by decide) wcl_15 wca_15 (by decide) (Or.inr ⟨dL_addWish_25, rfl⟩) dL_addWish_27 rfl dL_addWish_28 rfl rfl ⟨zle rfl, zle rfl⟩ ⟨_, X2, _, hS, rfl, rfl, fun v2 h2 => by cases h2⟩
set_option maxRecDepth 100000 in
set_option maxHeartbeats 4000000 in
theorem c_L_dropWish {a0 : Int32} {S : zRes → zX → Prop} (h : ZM G mX8_dropWish 3 1 6 [.ref 0, .int a0] (zw X Y O) (cOut Y O S)) (ho : ∀ r X2, S r X2 → okRes [eNSE] r) : ZM G mL_dropWish 4 1 6 [.ref 0, .int a0, .ref 94] (zw X Y O) (wOut Y [eNSE] S) := by
  refine ZM.goH pL rfl rfl (zle rfl) (zl := [some (.ref 0), some (.int a0), some (.ref 94), none]) rfl ?_
  refine z_aload_n (i := 2) dL_dropWish_0 rfl rfl (q := 1) rfl ?_
  refine z_iconst (v := 0) dL_dropWish_1 rfl (q := 2) rfl ?_
  refine z_aload_n (i := 0) dL_dropWish_2 rfl rfl (q := 3) rfl ?_
  refine z_iload_n (i := 1) dL_dropWish_3 rfl rfl (q := 4) rfl ?_
  refine z_callV (As := [_]) dL_dropWish_4 kL_65 h (wo_x _ _ _) rfl rfl (zle rfl) ⟨zle rfl, zle rfl⟩ ⟨zle rfl, zle rfl⟩ (q := 7) rfl (fun rv w2 hw2 => ?_) (fun E w2 hw2 => ?_)
  · obtain ⟨X2, rfl, hS⟩ := hw2
    rcases ho _ _ hS with ⟨v, h9⟩ | ⟨E, _, h9⟩
    · cases h9
      refine z_i2l dL_dropWish_7 (q := 8) rfl ?_
      refine z_last dL_dropWish_8 (wout _ _ _) (zin (k := 0) (by decide) (by decide)) (q := 9) rfl ?_
      refine Z.eqw (wouts _ _ _ _) ?_
      refine z_goto (tgt := 15) dL_dropWish_9 (by decide) ?_
      refine z_iconst (v := 0) dL_dropWish_15 rfl (q := 16) rfl ?_
      exact z_iret dL_dropWish_16 rfl ⟨zle rfl, zle rfl⟩ ⟨_, X2, _, hS, rfl, rfl, fun v2 h2 => by cases h2; rfl⟩
    · cases h9
  · obtain ⟨X2, rfl, hS⟩ := hw2
    rcases ho _ _ hS with ⟨v, h9⟩ | ⟨E2, hm, h9⟩
    · cases h9
    · cases h9
      simp only [List.mem_cons, List.mem_nil_iff, or_false, List.not_mem_nil] at hm
      rcases hm with rfl
      · exact zx_catch (name := "java/util/NoSuchElementException") (pre := []) (x := ⟨0, 9, 12, 52⟩) (suf := []) (v := 1) (i := 3) (p2 := 13) (p3 := 14) (ty := .int) rfl (fun z hz => by cases hz) (by decide) (by decide) wcl_52 wca_52 (by decide) (Or.inl ⟨⟨3, by decide⟩, rfl, dL_dropWish_12, rfl⟩) dL_dropWish_13 rfl dL_dropWish_14 rfl rfl ⟨zle rfl, zle rfl⟩ ⟨_, X2, _, hS, rfl, rfl, fun v2 h2 => by cases h2⟩
set_option maxRecDepth 100000 in
set_option maxHeartbeats 4000000 in
theorem c_L_isMet {a0 : Int32} {S : zRes → zX → Prop} (h : ZM G mX8_isMet 3 1 6 [.ref 0, .int a0] (zw X Y O) (cOut Y O S)) (ho : ∀ r X2, S r X2 → okRes [eNSE] r) (hb : ∀ v X2, S (.inl (some (.int v))) X2 → bit v) : ZM G mL_isMet 4 1 6 [.ref 0, .int a0, .ref 94] (zw X Y O) (wOut Y [eNSE] S) := by
  refine ZM.goH pL rfl rfl (zle rfl) (zl := [some (.ref 0), some (.int a0), some (.ref 94), none]) rfl ?_
  refine z_aload_n (i := 2) dL_isMet_0 rfl rfl (q := 1) rfl ?_
  refine z_iconst (v := 0) dL_isMet_1 rfl (q := 2) rfl ?_
  refine z_aload_n (i := 0) dL_isMet_2 rfl rfl (q := 3) rfl ?_
  refine z_iload_n (i := 1) dL_isMet_3 rfl rfl (q := 4) rfl ?_
  refine z_callV (As := [_]) dL_isMet_4 kL_68 h (wo_x _ _ _) rfl rfl (zle rfl) ⟨zle rfl, zle rfl⟩ ⟨zle rfl, zle rfl⟩ (q := 7) rfl (fun rv w2 hw2 => ?_) (fun E w2 hw2 => ?_)
  · obtain ⟨X2, rfl, hS⟩ := hw2
    rcases ho _ _ hS with ⟨v, h9⟩ | ⟨E, _, h9⟩
    · cases h9
      refine z_if_eq (tgt := 14) dL_isMet_7 (by decide) (q := 10) rfl (fun h8 => ?_) (fun h8 => ?_)
      · refine z_lconst (v := 0) dL_isMet_14 rfl (q := 15) rfl ?_
        refine z_last dL_isMet_15 (wout _ _ _) (zin (k := 0) (by decide) (by decide)) (q := 16) rfl ?_
        refine Z.eqw (wouts _ _ _ _) ?_
        refine z_goto (tgt := 22) dL_isMet_16 (by decide) ?_
        refine z_iconst (v := 0) dL_isMet_22 rfl (q := 23) rfl ?_
        exact z_iret dL_isMet_23 rfl ⟨zle rfl, zle rfl⟩ ⟨_, X2, _, hS, rfl, rfl, fun v2 h2 => by cases h2; rw [h8]; rfl⟩
      · refine z_lconst (v := 1) dL_isMet_10 rfl (q := 11) rfl ?_
        refine z_goto (tgt := 15) dL_isMet_11 (by decide) ?_
        refine z_last dL_isMet_15 (wout _ _ _) (zin (k := 0) (by decide) (by decide)) (q := 16) rfl ?_
        refine Z.eqw (wouts _ _ _ _) ?_
        refine z_goto (tgt := 22) dL_isMet_16 (by decide) ?_
        refine z_iconst (v := 0) dL_isMet_22 rfl (q := 23) rfl ?_
        exact z_iret dL_isMet_23 rfl ⟨zle rfl, zle rfl⟩ ⟨_, X2, _, hS, rfl, rfl, fun v2 h2 => by cases h2; rw [(hb _ _ hS).resolve_left h8]; rfl⟩
    · cases h9
  · obtain ⟨X2, rfl, hS⟩ := hw2
    rcases ho _ _ hS with ⟨v, h9⟩ | ⟨E2, hm, h9⟩
    · cases h9
    · cases h9
      simp only [List.mem_cons, List.mem_nil_iff, or_false, List.not_mem_nil] at hm
      rcases hm with rfl
      · exact zx_catch (name := "java/util/NoSuchElementException") (pre := []) (x := ⟨0, 16, 19, 52⟩) (suf := []) (v := 1) (i := 3) (p2 := 20) (p3 := 21) (ty := .int) rfl (fun z hz => by cases hz) (by decide) (by decide) wcl_52 wca_52 (by decide) (Or.inl ⟨⟨3, by decide⟩, rfl, dL_isMet_19, rfl⟩) dL_isMet_20 rfl dL_isMet_21 rfl rfl ⟨zle rfl, zle rfl⟩ ⟨_, X2, _, hS, rfl, rfl, fun v2 h2 => by cases h2⟩
set_option maxRecDepth 100000 in
set_option maxHeartbeats 4000000 in
theorem c_L_strength {a0 : Int32} {S : zRes → zX → Prop} (h : ZM G mX8_strength 3 1 6 [.ref 0, .int a0] (zw X Y O) (cOut Y O S)) (ho : ∀ r X2, S r X2 → okRes [eIAE] r) : ZM G mL_strength 4 1 6 [.ref 0, .int a0, .ref 94] (zw X Y O) (wOut Y [eIAE] S) := by
  refine ZM.goH pL rfl rfl (zle rfl) (zl := [some (.ref 0), some (.int a0), some (.ref 94), none]) rfl ?_
  refine z_aload_n (i := 2) dL_strength_0 rfl rfl (q := 1) rfl ?_
  refine z_iconst (v := 0) dL_strength_1 rfl (q := 2) rfl ?_
  refine z_aload_n (i := 0) dL_strength_2 rfl rfl (q := 3) rfl ?_
  refine z_iload_n (i := 1) dL_strength_3 rfl rfl (q := 4) rfl ?_
  refine z_callV (As := [_]) dL_strength_4 kL_71 h (wo_x _ _ _) rfl rfl (zle rfl) ⟨zle rfl, zle rfl⟩ ⟨zle rfl, zle rfl⟩ (q := 7) rfl (fun rv w2 hw2 => ?_) (fun E w2 hw2 => ?_)
  · obtain ⟨X2, rfl, hS⟩ := hw2
    rcases ho _ _ hS with ⟨v, h9⟩ | ⟨E, _, h9⟩
    · cases h9
      refine z_i2l dL_strength_7 (q := 8) rfl ?_
      refine z_last dL_strength_8 (wout _ _ _) (zin (k := 0) (by decide) (by decide)) (q := 9) rfl ?_
      refine Z.eqw (wouts _ _ _ _) ?_
      refine z_goto (tgt := 15) dL_strength_9 (by decide) ?_
      refine z_iconst (v := 0) dL_strength_15 rfl (q := 16) rfl ?_
      exact z_iret dL_strength_16 rfl ⟨zle rfl, zle rfl⟩ ⟨_, X2, _, hS, rfl, rfl, fun v2 h2 => by cases h2; rfl⟩
    · cases h9
  · obtain ⟨X2, rfl, hS⟩ := hw2
    rcases ho _ _ hS with ⟨v, h9⟩ | ⟨E2, hm, h9⟩
    · cases h9
    · cases h9
      simp only [List.mem_cons, List.mem_nil_iff, or_false, List.not_mem_nil] at hm
      rcases hm with rfl
      · exact zx_catch (name := "java/lang/IllegalArgumentException") (pre := []) (x := ⟨0, 9, 12, 13⟩) (suf := []) (v := 1) (i := 3) (p2 := 13) (p3 := 14) (ty := .int) rfl (fun z hz => by cases hz) (by decide) (by decide) wcl_13 wca_13 (by decide) (Or.inl ⟨⟨3, by decide⟩, rfl, dL_strength_12, rfl⟩) dL_strength_13 rfl dL_strength_14 rfl rfl ⟨zle rfl, zle rfl⟩ ⟨_, X2, _, hS, rfl, rfl, fun v2 h2 => by cases h2⟩
set_option maxRecDepth 100000 in
set_option maxHeartbeats 4000000 in
theorem c_L_snaps {a0 : Int32} {a1 : Int32} {S : zRes → zX → Prop} (h : ZM G mX8_snaps 4 1 6 [.ref 0, .int a0, .int a1] (zw X Y O) (cOut Y O S)) (ho : ∀ r X2, S r X2 → okRes [eIOOBE, eIAE] r) : ZM G mL_snaps 5 1 6 [.ref 0, .int a0, .int a1, .ref 94] (zw X Y O) (wOut Y [eIOOBE, eIAE] S) := by
  refine ZM.goH pL rfl rfl (zle rfl) (zl := [some (.ref 0), some (.int a0), some (.int a1), some (.ref 94), none]) rfl ?_
  refine z_aload_n (i := 3) dL_snaps_0 rfl rfl (q := 1) rfl ?_
  refine z_iconst (v := 0) dL_snaps_1 rfl (q := 2) rfl ?_
  refine z_aload_n (i := 0) dL_snaps_2 rfl rfl (q := 3) rfl ?_
  refine z_iload_n (i := 1) dL_snaps_3 rfl rfl (q := 4) rfl ?_
  refine z_iload_n (i := 2) dL_snaps_4 rfl rfl (q := 5) rfl ?_
  refine z_callV (As := [_, _]) dL_snaps_5 kL_75 h (wo_x _ _ _) rfl rfl (zle rfl) ⟨zle rfl, zle rfl⟩ ⟨zle rfl, zle rfl⟩ (q := 8) rfl (fun rv w2 hw2 => ?_) (fun E w2 hw2 => ?_)
  · obtain ⟨X2, rfl, hS⟩ := hw2
    rcases ho _ _ hS with ⟨v, h9⟩ | ⟨E, _, h9⟩
    · cases h9
      refine z_i2l dL_snaps_8 (q := 9) rfl ?_
      refine z_last dL_snaps_9 (wout _ _ _) (zin (k := 0) (by decide) (by decide)) (q := 10) rfl ?_
      refine Z.eqw (wouts _ _ _ _) ?_
      refine z_goto (tgt := 21) dL_snaps_10 (by decide) ?_
      refine z_iconst (v := 0) dL_snaps_21 rfl (q := 22) rfl ?_
      exact z_iret dL_snaps_22 rfl ⟨zle rfl, zle rfl⟩ ⟨_, X2, _, hS, rfl, rfl, fun v2 h2 => by cases h2; rfl⟩
    · cases h9
  · obtain ⟨X2, rfl, hS⟩ := hw2
    rcases ho _ _ hS with ⟨v, h9⟩ | ⟨E2, hm, h9⟩
    · cases h9
    · cases h9
      simp only [List.mem_cons, List.mem_nil_iff, or_false, List.not_mem_nil] at hm
      rcases hm with rfl | rfl
      · exact zx_catch (name := "java/lang/IndexOutOfBoundsException") (pre := []) (x := ⟨0, 10, 13, 23⟩) (suf := [⟨0, 10, 17, 13⟩]) (v := 1) (i := 4) (p2 := 15) (p3 := 16) (ty := .int) rfl (fun z hz => by cases hz) (by decide) (by decide) wcl_23 wca_23 (by decide) (Or.inr ⟨dL_snaps_13, rfl⟩) dL_snaps_15 rfl dL_snaps_16 rfl rfl ⟨zle rfl, zle rfl⟩ ⟨_, X2, _, hS, rfl, rfl, fun v2 h2 => by cases h2⟩
      · exact zx_catch (name := "java/lang/IllegalArgumentException") (pre := [⟨0, 10, 13, 23⟩]) (x := ⟨0, 10, 17, 13⟩) (suf := []) (v := 2) (i := 4) (p2 := 19) (p3 := 20) (ty := .int) rfl (fun z hz => by
        simp only [List.mem_cons, List.mem_nil_iff, or_false, List.not_mem_nil] at hz
        rcases hz with rfl
        · exact Or.inr ⟨by decide, _, wcl_23, by decide⟩) (by decide) (by decide) wcl_13 wca_13 (by decide) (Or.inr ⟨dL_snaps_17, rfl⟩) dL_snaps_19 rfl dL_snaps_20 rfl rfl ⟨zle rfl, zle rfl⟩ ⟨_, X2, _, hS, rfl, rfl, fun v2 h2 => by cases h2⟩
set_option maxRecDepth 100000 in
set_option maxHeartbeats 4000000 in
theorem c_L_bestStrength {a0 : Int32} {S : zRes → zX → Prop} (h : ZM G mX8_bestStrength 13 1 6 [.ref 0, .int a0] (zw X Y O) (cOut Y O S)) (ho : ∀ r X2, S r X2 → okRes [eIAE] r) : ZM G mL_bestStrength 14 1 6 [.ref 0, .int a0, .ref 94] (zw X Y O) (wOut Y [eIAE] S) := by
  refine ZM.goH pL rfl rfl (zle rfl) (zl := [some (.ref 0), some (.int a0), some (.ref 94), none]) rfl ?_
  refine z_aload_n (i := 2) dL_bestStrength_0 rfl rfl (q := 1) rfl ?_
  refine z_iconst (v := 0) dL_bestStrength_1 rfl (q := 2) rfl ?_
  refine z_aload_n (i := 0) dL_bestStrength_2 rfl rfl (q := 3) rfl ?_
  refine z_iload_n (i := 1) dL_bestStrength_3 rfl rfl (q := 4) rfl ?_
  refine z_callV (As := [_]) dL_bestStrength_4 kL_78 h (wo_x _ _ _) rfl rfl (zle rfl) ⟨zle rfl, zle rfl⟩ ⟨zle rfl, zle rfl⟩ (q := 7) rfl (fun rv w2 hw2 => ?_) (fun E w2 hw2 => ?_)
  · obtain ⟨X2, rfl, hS⟩ := hw2
    rcases ho _ _ hS with ⟨v, h9⟩ | ⟨E, _, h9⟩
    · cases h9
      refine z_i2l dL_bestStrength_7 (q := 8) rfl ?_
      refine z_last dL_bestStrength_8 (wout _ _ _) (zin (k := 0) (by decide) (by decide)) (q := 9) rfl ?_
      refine Z.eqw (wouts _ _ _ _) ?_
      refine z_goto (tgt := 15) dL_bestStrength_9 (by decide) ?_
      refine z_iconst (v := 0) dL_bestStrength_15 rfl (q := 16) rfl ?_
      exact z_iret dL_bestStrength_16 rfl ⟨zle rfl, zle rfl⟩ ⟨_, X2, _, hS, rfl, rfl, fun v2 h2 => by cases h2; rfl⟩
    · cases h9
  · obtain ⟨X2, rfl, hS⟩ := hw2
    rcases ho _ _ hS with ⟨v, h9⟩ | ⟨E2, hm, h9⟩
    · cases h9
    · cases h9
      simp only [List.mem_cons, List.mem_nil_iff, or_false, List.not_mem_nil] at hm
      rcases hm with rfl
      · exact zx_catch (name := "java/lang/IllegalArgumentException") (pre := []) (x := ⟨0, 9, 12, 13⟩) (suf := []) (v := 1) (i := 3) (p2 := 13) (p3 := 14) (ty := .int) rfl (fun z hz => by cases hz) (by decide) (by decide) wcl_13 wca_13 (by decide) (Or.inl ⟨⟨3, by decide⟩, rfl, dL_bestStrength_12, rfl⟩) dL_bestStrength_13 rfl dL_bestStrength_14 rfl rfl ⟨zle rfl, zle rfl⟩ ⟨_, X2, _, hS, rfl, rfl, fun v2 h2 => by cases h2⟩
set_option maxRecDepth 100000 in
set_option maxHeartbeats 4000000 in
theorem c_L_bestByAll {a0 : Int32} {S : zRes → zX → Prop} (h : ZM G mX8_bestByAll 13 1 6 [.ref 0, .int a0] (zw X Y O) (cOut Y O S)) (ho : ∀ r X2, S r X2 → okRes [eIAE] r) : ZM G mL_bestByAll 14 1 6 [.ref 0, .int a0, .ref 94] (zw X Y O) (wOut Y [eIAE] S) := by
  refine ZM.goH pL rfl rfl (zle rfl) (zl := [some (.ref 0), some (.int a0), some (.ref 94), none]) rfl ?_
  refine z_aload_n (i := 2) dL_bestByAll_0 rfl rfl (q := 1) rfl ?_
  refine z_iconst (v := 0) dL_bestByAll_1 rfl (q := 2) rfl ?_
  refine z_aload_n (i := 0) dL_bestByAll_2 rfl rfl (q := 3) rfl ?_
  refine z_iload_n (i := 1) dL_bestByAll_3 rfl rfl (q := 4) rfl ?_
  refine z_callV (As := [_]) dL_bestByAll_4 kL_81 h (wo_x _ _ _) rfl rfl (zle rfl) ⟨zle rfl, zle rfl⟩ ⟨zle rfl, zle rfl⟩ (q := 7) rfl (fun rv w2 hw2 => ?_) (fun E w2 hw2 => ?_)
  · obtain ⟨X2, rfl, hS⟩ := hw2
    rcases ho _ _ hS with ⟨v, h9⟩ | ⟨E, _, h9⟩
    · cases h9
      refine z_i2l dL_bestByAll_7 (q := 8) rfl ?_
      refine z_last dL_bestByAll_8 (wout _ _ _) (zin (k := 0) (by decide) (by decide)) (q := 9) rfl ?_
      refine Z.eqw (wouts _ _ _ _) ?_
      refine z_goto (tgt := 15) dL_bestByAll_9 (by decide) ?_
      refine z_iconst (v := 0) dL_bestByAll_15 rfl (q := 16) rfl ?_
      exact z_iret dL_bestByAll_16 rfl ⟨zle rfl, zle rfl⟩ ⟨_, X2, _, hS, rfl, rfl, fun v2 h2 => by cases h2; rfl⟩
    · cases h9
  · obtain ⟨X2, rfl, hS⟩ := hw2
    rcases ho _ _ hS with ⟨v, h9⟩ | ⟨E2, hm, h9⟩
    · cases h9
    · cases h9
      simp only [List.mem_cons, List.mem_nil_iff, or_false, List.not_mem_nil] at hm
      rcases hm with rfl
      · exact zx_catch (name := "java/lang/IllegalArgumentException") (pre := []) (x := ⟨0, 9, 12, 13⟩) (suf := []) (v := 1) (i := 3) (p2 := 13) (p3 := 14) (ty := .int) rfl (fun z hz => by cases hz) (by decide) (by decide) wcl_13 wca_13 (by decide) (Or.inl ⟨⟨3, by decide⟩, rfl, dL_bestByAll_12, rfl⟩) dL_bestByAll_13 rfl dL_bestByAll_14 rfl rfl ⟨zle rfl, zle rfl⟩ ⟨_, X2, _, hS, rfl, rfl, fun v2 h2 => by cases h2⟩
set_option maxRecDepth 100000 in
set_option maxHeartbeats 4000000 in
theorem c_L_tidyCost {a0 : Int32} {S : zRes → zX → Prop} (h : ZM G mX8_tidyCost 13 1 6 [.ref 0, .int a0] (zw X Y O) (cOut Y O S)) (ho : ∀ r X2, S r X2 → okRes [eIAE] r) : ZM G mL_tidyCost 14 1 6 [.ref 0, .int a0, .ref 94] (zw X Y O) (wOut Y [eIAE] S) := by
  refine ZM.goH pL rfl rfl (zle rfl) (zl := [some (.ref 0), some (.int a0), some (.ref 94), none]) rfl ?_
  refine z_aload_n (i := 2) dL_tidyCost_0 rfl rfl (q := 1) rfl ?_
  refine z_iconst (v := 0) dL_tidyCost_1 rfl (q := 2) rfl ?_
  refine z_aload_n (i := 0) dL_tidyCost_2 rfl rfl (q := 3) rfl ?_
  refine z_iload_n (i := 1) dL_tidyCost_3 rfl rfl (q := 4) rfl ?_
  refine z_callV (As := [_]) dL_tidyCost_4 kL_84 h (wo_x _ _ _) rfl rfl (zle rfl) ⟨zle rfl, zle rfl⟩ ⟨zle rfl, zle rfl⟩ (q := 7) rfl (fun rv w2 hw2 => ?_) (fun E w2 hw2 => ?_)
  · obtain ⟨X2, rfl, hS⟩ := hw2
    rcases ho _ _ hS with ⟨v, h9⟩ | ⟨E, _, h9⟩
    · cases h9
      refine z_i2l dL_tidyCost_7 (q := 8) rfl ?_
      refine z_last dL_tidyCost_8 (wout _ _ _) (zin (k := 0) (by decide) (by decide)) (q := 9) rfl ?_
      refine Z.eqw (wouts _ _ _ _) ?_
      refine z_goto (tgt := 15) dL_tidyCost_9 (by decide) ?_
      refine z_iconst (v := 0) dL_tidyCost_15 rfl (q := 16) rfl ?_
      exact z_iret dL_tidyCost_16 rfl ⟨zle rfl, zle rfl⟩ ⟨_, X2, _, hS, rfl, rfl, fun v2 h2 => by cases h2; rfl⟩
    · cases h9
  · obtain ⟨X2, rfl, hS⟩ := hw2
    rcases ho _ _ hS with ⟨v, h9⟩ | ⟨E2, hm, h9⟩
    · cases h9
    · cases h9
      simp only [List.mem_cons, List.mem_nil_iff, or_false, List.not_mem_nil] at hm
      rcases hm with rfl
      · exact zx_catch (name := "java/lang/IllegalArgumentException") (pre := []) (x := ⟨0, 9, 12, 13⟩) (suf := []) (v := 1) (i := 3) (p2 := 13) (p3 := 14) (ty := .int) rfl (fun z hz => by cases hz) (by decide) (by decide) wcl_13 wca_13 (by decide) (Or.inl ⟨⟨3, by decide⟩, rfl, dL_tidyCost_12, rfl⟩) dL_tidyCost_13 rfl dL_tidyCost_14 rfl rfl ⟨zle rfl, zle rfl⟩ ⟨_, X2, _, hS, rfl, rfl, fun v2 h2 => by cases h2⟩
set_option maxRecDepth 100000 in
set_option maxHeartbeats 4000000 in
theorem c_L_tidyStart {a0 : Int32} {a1 : Int32} {S : zRes → zX → Prop} (h : ZM G mX8_tidyStart 13 1 6 [.ref 0, .int a0, .int a1] (zw X Y O) (cOut Y O S)) (ho : ∀ r X2, S r X2 → okRes [eIOOBE, eIAE] r) : ZM G mL_tidyStart 14 1 6 [.ref 0, .int a0, .int a1, .ref 94] (zw X Y O) (wOut Y [eIOOBE, eIAE] S) := by
  refine ZM.goH pL rfl rfl (zle rfl) (zl := [some (.ref 0), some (.int a0), some (.int a1), some (.ref 94), none]) rfl ?_
  refine z_aload_n (i := 3) dL_tidyStart_0 rfl rfl (q := 1) rfl ?_
  refine z_iconst (v := 0) dL_tidyStart_1 rfl (q := 2) rfl ?_
  refine z_aload_n (i := 0) dL_tidyStart_2 rfl rfl (q := 3) rfl ?_
  refine z_iload_n (i := 1) dL_tidyStart_3 rfl rfl (q := 4) rfl ?_
  refine z_iload_n (i := 2) dL_tidyStart_4 rfl rfl (q := 5) rfl ?_
  refine z_callV (As := [_, _]) dL_tidyStart_5 kL_87 h (wo_x _ _ _) rfl rfl (zle rfl) ⟨zle rfl, zle rfl⟩ ⟨zle rfl, zle rfl⟩ (q := 8) rfl (fun rv w2 hw2 => ?_) (fun E w2 hw2 => ?_)
  · obtain ⟨X2, rfl, hS⟩ := hw2
    rcases ho _ _ hS with ⟨v, h9⟩ | ⟨E, _, h9⟩
    · cases h9
      refine z_i2l dL_tidyStart_8 (q := 9) rfl ?_
      refine z_last dL_tidyStart_9 (wout _ _ _) (zin (k := 0) (by decide) (by decide)) (q := 10) rfl ?_
      refine Z.eqw (wouts _ _ _ _) ?_
      refine z_goto (tgt := 21) dL_tidyStart_10 (by decide) ?_
      refine z_iconst (v := 0) dL_tidyStart_21 rfl (q := 22) rfl ?_
      exact z_iret dL_tidyStart_22 rfl ⟨zle rfl, zle rfl⟩ ⟨_, X2, _, hS, rfl, rfl, fun v2 h2 => by cases h2; rfl⟩
    · cases h9
  · obtain ⟨X2, rfl, hS⟩ := hw2
    rcases ho _ _ hS with ⟨v, h9⟩ | ⟨E2, hm, h9⟩
    · cases h9
    · cases h9
      simp only [List.mem_cons, List.mem_nil_iff, or_false, List.not_mem_nil] at hm
      rcases hm with rfl | rfl
      · exact zx_catch (name := "java/lang/IndexOutOfBoundsException") (pre := []) (x := ⟨0, 10, 13, 23⟩) (suf := [⟨0, 10, 17, 13⟩]) (v := 1) (i := 4) (p2 := 15) (p3 := 16) (ty := .int) rfl (fun z hz => by cases hz) (by decide) (by decide) wcl_23 wca_23 (by decide) (Or.inr ⟨dL_tidyStart_13, rfl⟩) dL_tidyStart_15 rfl dL_tidyStart_16 rfl rfl ⟨zle rfl, zle rfl⟩ ⟨_, X2, _, hS, rfl, rfl, fun v2 h2 => by cases h2⟩
      · exact zx_catch (name := "java/lang/IllegalArgumentException") (pre := [⟨0, 10, 13, 23⟩]) (x := ⟨0, 10, 17, 13⟩) (suf := []) (v := 2) (i := 4) (p2 := 19) (p3 := 20) (ty := .int) rfl (fun z hz => by
        simp only [List.mem_cons, List.mem_nil_iff, or_false, List.not_mem_nil] at hz
        rcases hz with rfl
        · exact Or.inr ⟨by decide, _, wcl_23, by decide⟩) (by decide) (by decide) wcl_13 wca_13 (by decide) (Or.inr ⟨dL_tidyStart_17, rfl⟩) dL_tidyStart_19 rfl dL_tidyStart_20 rfl rfl ⟨zle rfl, zle rfl⟩ ⟨_, X2, _, hS, rfl, rfl, fun v2 h2 => by cases h2⟩
set_option maxRecDepth 100000 in
set_option maxHeartbeats 4000000 in
theorem c_L_tidy {a0 : Int32} {S : zRes → zX → Prop} (h : ZM G mX8_tidy 13 1 6 [.ref 0, .int a0] (zw X Y O) (cOut Y O S)) (ho : ∀ r X2, S r X2 → okRes [eIAE] r) : ZM G mL_tidy 14 1 6 [.ref 0, .int a0, .ref 94] (zw X Y O) (wOut Y [eIAE] S) := by
  refine ZM.goH pL rfl rfl (zle rfl) (zl := [some (.ref 0), some (.int a0), some (.ref 94), none]) rfl ?_
  refine z_aload_n (i := 2) dL_tidy_0 rfl rfl (q := 1) rfl ?_
  refine z_iconst (v := 0) dL_tidy_1 rfl (q := 2) rfl ?_
  refine z_aload_n (i := 0) dL_tidy_2 rfl rfl (q := 3) rfl ?_
  refine z_iload_n (i := 1) dL_tidy_3 rfl rfl (q := 4) rfl ?_
  refine z_callV (As := [_]) dL_tidy_4 kL_90 h (wo_x _ _ _) rfl rfl (zle rfl) ⟨zle rfl, zle rfl⟩ ⟨zle rfl, zle rfl⟩ (q := 7) rfl (fun rv w2 hw2 => ?_) (fun E w2 hw2 => ?_)
  · obtain ⟨X2, rfl, hS⟩ := hw2
    rcases ho _ _ hS with ⟨v, h9⟩ | ⟨E, _, h9⟩
    · cases h9
      refine z_i2l dL_tidy_7 (q := 8) rfl ?_
      refine z_last dL_tidy_8 (wout _ _ _) (zin (k := 0) (by decide) (by decide)) (q := 9) rfl ?_
      refine Z.eqw (wouts _ _ _ _) ?_
      refine z_goto (tgt := 15) dL_tidy_9 (by decide) ?_
      refine z_iconst (v := 0) dL_tidy_15 rfl (q := 16) rfl ?_
      exact z_iret dL_tidy_16 rfl ⟨zle rfl, zle rfl⟩ ⟨_, X2, _, hS, rfl, rfl, fun v2 h2 => by cases h2; rfl⟩
    · cases h9
  · obtain ⟨X2, rfl, hS⟩ := hw2
    rcases ho _ _ hS with ⟨v, h9⟩ | ⟨E2, hm, h9⟩
    · cases h9
    · cases h9
      simp only [List.mem_cons, List.mem_nil_iff, or_false, List.not_mem_nil] at hm
      rcases hm with rfl
      · exact zx_catch (name := "java/lang/IllegalArgumentException") (pre := []) (x := ⟨0, 9, 12, 13⟩) (suf := []) (v := 1) (i := 3) (p2 := 13) (p3 := 14) (ty := .int) rfl (fun z hz => by cases hz) (by decide) (by decide) wcl_13 wca_13 (by decide) (Or.inl ⟨⟨3, by decide⟩, rfl, dL_tidy_12, rfl⟩) dL_tidy_13 rfl dL_tidy_14 rfl rfl ⟨zle rfl, zle rfl⟩ ⟨_, X2, _, hS, rfl, rfl, fun v2 h2 => by cases h2⟩
set_option maxRecDepth 100000 in
set_option maxHeartbeats 4000000 in
theorem c_L_evenCost {a0 : Int32} {S : zRes → zX → Prop} (h : ZM G mX8_evenCost 6 1 6 [.ref 0, .int a0] (zw X Y O) (cOut Y O S)) (ho : ∀ r X2, S r X2 → okRes [eIAE, eNSE] r) : ZM G mL_evenCost 7 1 6 [.ref 0, .int a0, .ref 94] (zw X Y O) (wOut Y [eIAE, eNSE] S) := by
  refine ZM.goH pL rfl rfl (zle rfl) (zl := [some (.ref 0), some (.int a0), some (.ref 94), none]) rfl ?_
  refine z_aload_n (i := 2) dL_evenCost_0 rfl rfl (q := 1) rfl ?_
  refine z_iconst (v := 0) dL_evenCost_1 rfl (q := 2) rfl ?_
  refine z_aload_n (i := 0) dL_evenCost_2 rfl rfl (q := 3) rfl ?_
  refine z_iload_n (i := 1) dL_evenCost_3 rfl rfl (q := 4) rfl ?_
  refine z_callV (As := [_]) dL_evenCost_4 kL_93 h (wo_x _ _ _) rfl rfl (zle rfl) ⟨zle rfl, zle rfl⟩ ⟨zle rfl, zle rfl⟩ (q := 7) rfl (fun rv w2 hw2 => ?_) (fun E w2 hw2 => ?_)
  · obtain ⟨X2, rfl, hS⟩ := hw2
    rcases ho _ _ hS with ⟨v, h9⟩ | ⟨E, _, h9⟩
    · cases h9
      refine z_i2l dL_evenCost_7 (q := 8) rfl ?_
      refine z_last dL_evenCost_8 (wout _ _ _) (zin (k := 0) (by decide) (by decide)) (q := 9) rfl ?_
      refine Z.eqw (wouts _ _ _ _) ?_
      refine z_goto (tgt := 18) dL_evenCost_9 (by decide) ?_
      refine z_iconst (v := 0) dL_evenCost_18 rfl (q := 19) rfl ?_
      exact z_iret dL_evenCost_19 rfl ⟨zle rfl, zle rfl⟩ ⟨_, X2, _, hS, rfl, rfl, fun v2 h2 => by cases h2; rfl⟩
    · cases h9
  · obtain ⟨X2, rfl, hS⟩ := hw2
    rcases ho _ _ hS with ⟨v, h9⟩ | ⟨E2, hm, h9⟩
    · cases h9
    · cases h9
      simp only [List.mem_cons, List.mem_nil_iff, or_false, List.not_mem_nil] at hm
      rcases hm with rfl | rfl
      · exact zx_catch (name := "java/lang/IllegalArgumentException") (pre := []) (x := ⟨0, 9, 12, 13⟩) (suf := [⟨0, 9, 15, 52⟩]) (v := 1) (i := 3) (p2 := 13) (p3 := 14) (ty := .int) rfl (fun z hz => by cases hz) (by decide) (by decide) wcl_13 wca_13 (by decide) (Or.inl ⟨⟨3, by decide⟩, rfl, dL_evenCost_12, rfl⟩) dL_evenCost_13 rfl dL_evenCost_14 rfl rfl ⟨zle rfl, zle rfl⟩ ⟨_, X2, _, hS, rfl, rfl, fun v2 h2 => by cases h2⟩
      · exact zx_catch (name := "java/util/NoSuchElementException") (pre := [⟨0, 9, 12, 13⟩]) (x := ⟨0, 9, 15, 52⟩) (suf := []) (v := 2) (i := 3) (p2 := 16) (p3 := 17) (ty := .int) rfl (fun z hz => by
        simp only [List.mem_cons, List.mem_nil_iff, or_false, List.not_mem_nil] at hz
        rcases hz with rfl
        · exact Or.inr ⟨by decide, _, wcl_13, by decide⟩) (by decide) (by decide) wcl_52 wca_52 (by decide) (Or.inl ⟨⟨3, by decide⟩, rfl, dL_evenCost_15, rfl⟩) dL_evenCost_16 rfl dL_evenCost_17 rfl rfl ⟨zle rfl, zle rfl⟩ ⟨_, X2, _, hS, rfl, rfl, fun v2 h2 => by cases h2⟩
set_option maxRecDepth 100000 in
set_option maxHeartbeats 4000000 in
theorem c_L_evenByAll {a0 : Int32} {S : zRes → zX → Prop} (h : ZM G mX8_evenByAll 6 1 6 [.ref 0, .int a0] (zw X Y O) (cOut Y O S)) (ho : ∀ r X2, S r X2 → okRes [eIAE, eNSE] r) : ZM G mL_evenByAll 7 1 6 [.ref 0, .int a0, .ref 94] (zw X Y O) (wOut Y [eIAE, eNSE] S) := by
  refine ZM.goH pL rfl rfl (zle rfl) (zl := [some (.ref 0), some (.int a0), some (.ref 94), none]) rfl ?_
  refine z_aload_n (i := 2) dL_evenByAll_0 rfl rfl (q := 1) rfl ?_
  refine z_iconst (v := 0) dL_evenByAll_1 rfl (q := 2) rfl ?_
  refine z_aload_n (i := 0) dL_evenByAll_2 rfl rfl (q := 3) rfl ?_
  refine z_iload_n (i := 1) dL_evenByAll_3 rfl rfl (q := 4) rfl ?_
  refine z_callV (As := [_]) dL_evenByAll_4 kL_96 h (wo_x _ _ _) rfl rfl (zle rfl) ⟨zle rfl, zle rfl⟩ ⟨zle rfl, zle rfl⟩ (q := 7) rfl (fun rv w2 hw2 => ?_) (fun E w2 hw2 => ?_)
  · obtain ⟨X2, rfl, hS⟩ := hw2
    rcases ho _ _ hS with ⟨v, h9⟩ | ⟨E, _, h9⟩
    · cases h9
      refine z_i2l dL_evenByAll_7 (q := 8) rfl ?_
      refine z_last dL_evenByAll_8 (wout _ _ _) (zin (k := 0) (by decide) (by decide)) (q := 9) rfl ?_
      refine Z.eqw (wouts _ _ _ _) ?_
      refine z_goto (tgt := 18) dL_evenByAll_9 (by decide) ?_
      refine z_iconst (v := 0) dL_evenByAll_18 rfl (q := 19) rfl ?_
      exact z_iret dL_evenByAll_19 rfl ⟨zle rfl, zle rfl⟩ ⟨_, X2, _, hS, rfl, rfl, fun v2 h2 => by cases h2; rfl⟩
    · cases h9
  · obtain ⟨X2, rfl, hS⟩ := hw2
    rcases ho _ _ hS with ⟨v, h9⟩ | ⟨E2, hm, h9⟩
    · cases h9
    · cases h9
      simp only [List.mem_cons, List.mem_nil_iff, or_false, List.not_mem_nil] at hm
      rcases hm with rfl | rfl
      · exact zx_catch (name := "java/lang/IllegalArgumentException") (pre := []) (x := ⟨0, 9, 12, 13⟩) (suf := [⟨0, 9, 15, 52⟩]) (v := 1) (i := 3) (p2 := 13) (p3 := 14) (ty := .int) rfl (fun z hz => by cases hz) (by decide) (by decide) wcl_13 wca_13 (by decide) (Or.inl ⟨⟨3, by decide⟩, rfl, dL_evenByAll_12, rfl⟩) dL_evenByAll_13 rfl dL_evenByAll_14 rfl rfl ⟨zle rfl, zle rfl⟩ ⟨_, X2, _, hS, rfl, rfl, fun v2 h2 => by cases h2⟩
      · exact zx_catch (name := "java/util/NoSuchElementException") (pre := [⟨0, 9, 12, 13⟩]) (x := ⟨0, 9, 15, 52⟩) (suf := []) (v := 2) (i := 3) (p2 := 16) (p3 := 17) (ty := .int) rfl (fun z hz => by
        simp only [List.mem_cons, List.mem_nil_iff, or_false, List.not_mem_nil] at hz
        rcases hz with rfl
        · exact Or.inr ⟨by decide, _, wcl_13, by decide⟩) (by decide) (by decide) wcl_52 wca_52 (by decide) (Or.inl ⟨⟨3, by decide⟩, rfl, dL_evenByAll_15, rfl⟩) dL_evenByAll_16 rfl dL_evenByAll_17 rfl rfl ⟨zle rfl, zle rfl⟩ ⟨_, X2, _, hS, rfl, rfl, fun v2 h2 => by cases h2⟩
set_option maxRecDepth 100000 in
set_option maxHeartbeats 4000000 in
theorem c_L_spread {a0 : Int32} {S : zRes → zX → Prop} (h : ZM G mX8_spread 6 1 6 [.ref 0, .int a0] (zw X Y O) (cOut Y O S)) (ho : ∀ r X2, S r X2 → okRes [eIAE, eNSE] r) : ZM G mL_spread 7 1 6 [.ref 0, .int a0, .ref 94] (zw X Y O) (wOut Y [eIAE, eNSE] S) := by
  refine ZM.goH pL rfl rfl (zle rfl) (zl := [some (.ref 0), some (.int a0), some (.ref 94), none]) rfl ?_
  refine z_aload_n (i := 2) dL_spread_0 rfl rfl (q := 1) rfl ?_
  refine z_iconst (v := 0) dL_spread_1 rfl (q := 2) rfl ?_
  refine z_aload_n (i := 0) dL_spread_2 rfl rfl (q := 3) rfl ?_
  refine z_iload_n (i := 1) dL_spread_3 rfl rfl (q := 4) rfl ?_
  refine z_callV (As := [_]) dL_spread_4 kL_99 h (wo_x _ _ _) rfl rfl (zle rfl) ⟨zle rfl, zle rfl⟩ ⟨zle rfl, zle rfl⟩ (q := 7) rfl (fun rv w2 hw2 => ?_) (fun E w2 hw2 => ?_)
  · obtain ⟨X2, rfl, hS⟩ := hw2
    rcases ho _ _ hS with ⟨v, h9⟩ | ⟨E, _, h9⟩
    · cases h9
      refine z_i2l dL_spread_7 (q := 8) rfl ?_
      refine z_last dL_spread_8 (wout _ _ _) (zin (k := 0) (by decide) (by decide)) (q := 9) rfl ?_
      refine Z.eqw (wouts _ _ _ _) ?_
      refine z_goto (tgt := 18) dL_spread_9 (by decide) ?_
      refine z_iconst (v := 0) dL_spread_18 rfl (q := 19) rfl ?_
      exact z_iret dL_spread_19 rfl ⟨zle rfl, zle rfl⟩ ⟨_, X2, _, hS, rfl, rfl, fun v2 h2 => by cases h2; rfl⟩
    · cases h9
  · obtain ⟨X2, rfl, hS⟩ := hw2
    rcases ho _ _ hS with ⟨v, h9⟩ | ⟨E2, hm, h9⟩
    · cases h9
    · cases h9
      simp only [List.mem_cons, List.mem_nil_iff, or_false, List.not_mem_nil] at hm
      rcases hm with rfl | rfl
      · exact zx_catch (name := "java/lang/IllegalArgumentException") (pre := []) (x := ⟨0, 9, 12, 13⟩) (suf := [⟨0, 9, 15, 52⟩]) (v := 1) (i := 3) (p2 := 13) (p3 := 14) (ty := .int) rfl (fun z hz => by cases hz) (by decide) (by decide) wcl_13 wca_13 (by decide) (Or.inl ⟨⟨3, by decide⟩, rfl, dL_spread_12, rfl⟩) dL_spread_13 rfl dL_spread_14 rfl rfl ⟨zle rfl, zle rfl⟩ ⟨_, X2, _, hS, rfl, rfl, fun v2 h2 => by cases h2⟩
      · exact zx_catch (name := "java/util/NoSuchElementException") (pre := [⟨0, 9, 12, 13⟩]) (x := ⟨0, 9, 15, 52⟩) (suf := []) (v := 2) (i := 3) (p2 := 16) (p3 := 17) (ty := .int) rfl (fun z hz => by
        simp only [List.mem_cons, List.mem_nil_iff, or_false, List.not_mem_nil] at hz
        rcases hz with rfl
        · exact Or.inr ⟨by decide, _, wcl_13, by decide⟩) (by decide) (by decide) wcl_52 wca_52 (by decide) (Or.inl ⟨⟨3, by decide⟩, rfl, dL_spread_15, rfl⟩) dL_spread_16 rfl dL_spread_17 rfl rfl ⟨zle rfl, zle rfl⟩ ⟨_, X2, _, hS, rfl, rfl, fun v2 h2 => by cases h2⟩
set_option maxRecDepth 100000 in
set_option maxHeartbeats 4000000 in
theorem c_L_guides {a0 : Int32} {S : zRes → zX → Prop} (h : ZM G mX8_guides 4 1 6 [.ref 0, .int a0] (zw X Y O) (cOut Y O S)) (ho : ∀ r X2, S r X2 → okRes [eIAE] r) : ZM G mL_guides 5 1 6 [.ref 0, .int a0, .ref 94] (zw X Y O) (wOut Y [eIAE] S) := by
  refine ZM.goH pL rfl rfl (zle rfl) (zl := [some (.ref 0), some (.int a0), some (.ref 94), none]) rfl ?_
  refine z_aload_n (i := 2) dL_guides_0 rfl rfl (q := 1) rfl ?_
  refine z_iconst (v := 0) dL_guides_1 rfl (q := 2) rfl ?_
  refine z_aload_n (i := 0) dL_guides_2 rfl rfl (q := 3) rfl ?_
  refine z_iload_n (i := 1) dL_guides_3 rfl rfl (q := 4) rfl ?_
  refine z_callV (As := [_]) dL_guides_4 kL_102 h (wo_x _ _ _) rfl rfl (zle rfl) ⟨zle rfl, zle rfl⟩ ⟨zle rfl, zle rfl⟩ (q := 7) rfl (fun rv w2 hw2 => ?_) (fun E w2 hw2 => ?_)
  · obtain ⟨X2, rfl, hS⟩ := hw2
    rcases ho _ _ hS with ⟨v, h9⟩ | ⟨E, _, h9⟩
    · cases h9
      refine z_i2l dL_guides_7 (q := 8) rfl ?_
      refine z_last dL_guides_8 (wout _ _ _) (zin (k := 0) (by decide) (by decide)) (q := 9) rfl ?_
      refine Z.eqw (wouts _ _ _ _) ?_
      refine z_goto (tgt := 15) dL_guides_9 (by decide) ?_
      refine z_iconst (v := 0) dL_guides_15 rfl (q := 16) rfl ?_
      exact z_iret dL_guides_16 rfl ⟨zle rfl, zle rfl⟩ ⟨_, X2, _, hS, rfl, rfl, fun v2 h2 => by cases h2; rfl⟩
    · cases h9
  · obtain ⟨X2, rfl, hS⟩ := hw2
    rcases ho _ _ hS with ⟨v, h9⟩ | ⟨E2, hm, h9⟩
    · cases h9
    · cases h9
      simp only [List.mem_cons, List.mem_nil_iff, or_false, List.not_mem_nil] at hm
      rcases hm with rfl
      · exact zx_catch (name := "java/lang/IllegalArgumentException") (pre := []) (x := ⟨0, 9, 12, 13⟩) (suf := []) (v := 1) (i := 3) (p2 := 13) (p3 := 14) (ty := .int) rfl (fun z hz => by cases hz) (by decide) (by decide) wcl_13 wca_13 (by decide) (Or.inl ⟨⟨3, by decide⟩, rfl, dL_guides_12, rfl⟩) dL_guides_13 rfl dL_guides_14 rfl rfl ⟨zle rfl, zle rfl⟩ ⟨_, X2, _, hS, rfl, rfl, fun v2 h2 => by cases h2⟩
set_option maxRecDepth 100000 in
set_option maxHeartbeats 4000000 in
theorem c_L_guideAt {a0 : Int32} {a1 : Int32} {S : zRes → zX → Prop} (h : ZM G mX8_guideAt 4 1 6 [.ref 0, .int a0, .int a1] (zw X Y O) (cOut Y O S)) (ho : ∀ r X2, S r X2 → okRes [eIAE, eNSE] r) : ZM G mL_guideAt 5 1 6 [.ref 0, .int a0, .int a1, .ref 94] (zw X Y O) (wOut Y [eIAE, eNSE] S) := by
  refine ZM.goH pL rfl rfl (zle rfl) (zl := [some (.ref 0), some (.int a0), some (.int a1), some (.ref 94), none]) rfl ?_
  refine z_aload_n (i := 3) dL_guideAt_0 rfl rfl (q := 1) rfl ?_
  refine z_iconst (v := 0) dL_guideAt_1 rfl (q := 2) rfl ?_
  refine z_aload_n (i := 0) dL_guideAt_2 rfl rfl (q := 3) rfl ?_
  refine z_iload_n (i := 1) dL_guideAt_3 rfl rfl (q := 4) rfl ?_
  refine z_iload_n (i := 2) dL_guideAt_4 rfl rfl (q := 5) rfl ?_
  refine z_callV (As := [_, _]) dL_guideAt_5 kL_105 h (wo_x _ _ _) rfl rfl (zle rfl) ⟨zle rfl, zle rfl⟩ ⟨zle rfl, zle rfl⟩ (q := 8) rfl (fun rv w2 hw2 => ?_) (fun E w2 hw2 => ?_)
  · obtain ⟨X2, rfl, hS⟩ := hw2
    rcases ho _ _ hS with ⟨v, h9⟩ | ⟨E, _, h9⟩
    · cases h9
      refine z_i2l dL_guideAt_8 (q := 9) rfl ?_
      refine z_last dL_guideAt_9 (wout _ _ _) (zin (k := 0) (by decide) (by decide)) (q := 10) rfl ?_
      refine Z.eqw (wouts _ _ _ _) ?_
      refine z_goto (tgt := 21) dL_guideAt_10 (by decide) ?_
      refine z_iconst (v := 0) dL_guideAt_21 rfl (q := 22) rfl ?_
      exact z_iret dL_guideAt_22 rfl ⟨zle rfl, zle rfl⟩ ⟨_, X2, _, hS, rfl, rfl, fun v2 h2 => by cases h2; rfl⟩
    · cases h9
  · obtain ⟨X2, rfl, hS⟩ := hw2
    rcases ho _ _ hS with ⟨v, h9⟩ | ⟨E2, hm, h9⟩
    · cases h9
    · cases h9
      simp only [List.mem_cons, List.mem_nil_iff, or_false, List.not_mem_nil] at hm
      rcases hm with rfl | rfl
      · exact zx_catch (name := "java/lang/IllegalArgumentException") (pre := []) (x := ⟨0, 10, 13, 13⟩) (suf := [⟨0, 10, 17, 52⟩]) (v := 1) (i := 4) (p2 := 15) (p3 := 16) (ty := .int) rfl (fun z hz => by cases hz) (by decide) (by decide) wcl_13 wca_13 (by decide) (Or.inr ⟨dL_guideAt_13, rfl⟩) dL_guideAt_15 rfl dL_guideAt_16 rfl rfl ⟨zle rfl, zle rfl⟩ ⟨_, X2, _, hS, rfl, rfl, fun v2 h2 => by cases h2⟩
      · exact zx_catch (name := "java/util/NoSuchElementException") (pre := [⟨0, 10, 13, 13⟩]) (x := ⟨0, 10, 17, 52⟩) (suf := []) (v := 2) (i := 4) (p2 := 19) (p3 := 20) (ty := .int) rfl (fun z hz => by
        simp only [List.mem_cons, List.mem_nil_iff, or_false, List.not_mem_nil] at hz
        rcases hz with rfl
        · exact Or.inr ⟨by decide, _, wcl_13, by decide⟩) (by decide) (by decide) wcl_52 wca_52 (by decide) (Or.inr ⟨dL_guideAt_17, rfl⟩) dL_guideAt_19 rfl dL_guideAt_20 rfl rfl ⟨zle rfl, zle rfl⟩ ⟨_, X2, _, hS, rfl, rfl, fun v2 h2 => by cases h2⟩
set_option maxRecDepth 100000 in
set_option maxHeartbeats 4000000 in
theorem c_L_distance {a0 : Int32} {a1 : Int32} {S : zRes → zX → Prop} (h : ZM G mX8_distance 4 1 6 [.ref 0, .int a0, .int a1] (zw X Y O) (cOut Y O S)) (ho : ∀ r X2, S r X2 → okRes [eIOOBE, eIAE] r) : ZM G mL_distance 5 1 6 [.ref 0, .int a0, .int a1, .ref 94] (zw X Y O) (wOut Y [eIOOBE, eIAE] S) := by
  refine ZM.goH pL rfl rfl (zle rfl) (zl := [some (.ref 0), some (.int a0), some (.int a1), some (.ref 94), none]) rfl ?_
  refine z_aload_n (i := 3) dL_distance_0 rfl rfl (q := 1) rfl ?_
  refine z_iconst (v := 0) dL_distance_1 rfl (q := 2) rfl ?_
  refine z_aload_n (i := 0) dL_distance_2 rfl rfl (q := 3) rfl ?_
  refine z_iload_n (i := 1) dL_distance_3 rfl rfl (q := 4) rfl ?_
  refine z_iload_n (i := 2) dL_distance_4 rfl rfl (q := 5) rfl ?_
  refine z_callV (As := [_, _]) dL_distance_5 kL_109 h (wo_x _ _ _) rfl rfl (zle rfl) ⟨zle rfl, zle rfl⟩ ⟨zle rfl, zle rfl⟩ (q := 8) rfl (fun rv w2 hw2 => ?_) (fun E w2 hw2 => ?_)
  · obtain ⟨X2, rfl, hS⟩ := hw2
    rcases ho _ _ hS with ⟨v, h9⟩ | ⟨E, _, h9⟩
    · cases h9
      refine z_i2l dL_distance_8 (q := 9) rfl ?_
      refine z_last dL_distance_9 (wout _ _ _) (zin (k := 0) (by decide) (by decide)) (q := 10) rfl ?_
      refine Z.eqw (wouts _ _ _ _) ?_
      refine z_goto (tgt := 21) dL_distance_10 (by decide) ?_
      refine z_iconst (v := 0) dL_distance_21 rfl (q := 22) rfl ?_
      exact z_iret dL_distance_22 rfl ⟨zle rfl, zle rfl⟩ ⟨_, X2, _, hS, rfl, rfl, fun v2 h2 => by cases h2; rfl⟩
    · cases h9
  · obtain ⟨X2, rfl, hS⟩ := hw2
    rcases ho _ _ hS with ⟨v, h9⟩ | ⟨E2, hm, h9⟩
    · cases h9
    · cases h9
      simp only [List.mem_cons, List.mem_nil_iff, or_false, List.not_mem_nil] at hm
      rcases hm with rfl | rfl
      · exact zx_catch (name := "java/lang/IndexOutOfBoundsException") (pre := []) (x := ⟨0, 10, 13, 23⟩) (suf := [⟨0, 10, 17, 13⟩]) (v := 1) (i := 4) (p2 := 15) (p3 := 16) (ty := .int) rfl (fun z hz => by cases hz) (by decide) (by decide) wcl_23 wca_23 (by decide) (Or.inr ⟨dL_distance_13, rfl⟩) dL_distance_15 rfl dL_distance_16 rfl rfl ⟨zle rfl, zle rfl⟩ ⟨_, X2, _, hS, rfl, rfl, fun v2 h2 => by cases h2⟩
      · exact zx_catch (name := "java/lang/IllegalArgumentException") (pre := [⟨0, 10, 13, 23⟩]) (x := ⟨0, 10, 17, 13⟩) (suf := []) (v := 2) (i := 4) (p2 := 19) (p3 := 20) (ty := .int) rfl (fun z hz => by
        simp only [List.mem_cons, List.mem_nil_iff, or_false, List.not_mem_nil] at hz
        rcases hz with rfl
        · exact Or.inr ⟨by decide, _, wcl_23, by decide⟩) (by decide) (by decide) wcl_13 wca_13 (by decide) (Or.inr ⟨dL_distance_17, rfl⟩) dL_distance_19 rfl dL_distance_20 rfl rfl ⟨zle rfl, zle rfl⟩ ⟨_, X2, _, hS, rfl, rfl, fun v2 h2 => by cases h2⟩
set_option maxRecDepth 100000 in
set_option maxHeartbeats 4000000 in
theorem c_L_groups {a0 : Int32} {S : zRes → zX → Prop} (h : ZM G mX8_groups 5 1 6 [.ref 0, .int a0] (zw X Y O) (cOut Y O S)) (ho : ∀ r X2, S r X2 → okRes [eIAE] r) : ZM G mL_groups 6 1 6 [.ref 0, .int a0, .ref 94] (zw X Y O) (wOut Y [eIAE] S) := by
  refine ZM.goH pL rfl rfl (zle rfl) (zl := [some (.ref 0), some (.int a0), some (.ref 94), none]) rfl ?_
  refine z_aload_n (i := 2) dL_groups_0 rfl rfl (q := 1) rfl ?_
  refine z_iconst (v := 0) dL_groups_1 rfl (q := 2) rfl ?_
  refine z_aload_n (i := 0) dL_groups_2 rfl rfl (q := 3) rfl ?_
  refine z_iload_n (i := 1) dL_groups_3 rfl rfl (q := 4) rfl ?_
  refine z_callV (As := [_]) dL_groups_4 kL_112 h (wo_x _ _ _) rfl rfl (zle rfl) ⟨zle rfl, zle rfl⟩ ⟨zle rfl, zle rfl⟩ (q := 7) rfl (fun rv w2 hw2 => ?_) (fun E w2 hw2 => ?_)
  · obtain ⟨X2, rfl, hS⟩ := hw2
    rcases ho _ _ hS with ⟨v, h9⟩ | ⟨E, _, h9⟩
    · cases h9
      refine z_i2l dL_groups_7 (q := 8) rfl ?_
      refine z_last dL_groups_8 (wout _ _ _) (zin (k := 0) (by decide) (by decide)) (q := 9) rfl ?_
      refine Z.eqw (wouts _ _ _ _) ?_
      refine z_goto (tgt := 15) dL_groups_9 (by decide) ?_
      refine z_iconst (v := 0) dL_groups_15 rfl (q := 16) rfl ?_
      exact z_iret dL_groups_16 rfl ⟨zle rfl, zle rfl⟩ ⟨_, X2, _, hS, rfl, rfl, fun v2 h2 => by cases h2; rfl⟩
    · cases h9
  · obtain ⟨X2, rfl, hS⟩ := hw2
    rcases ho _ _ hS with ⟨v, h9⟩ | ⟨E2, hm, h9⟩
    · cases h9
    · cases h9
      simp only [List.mem_cons, List.mem_nil_iff, or_false, List.not_mem_nil] at hm
      rcases hm with rfl
      · exact zx_catch (name := "java/lang/IllegalArgumentException") (pre := []) (x := ⟨0, 9, 12, 13⟩) (suf := []) (v := 1) (i := 3) (p2 := 13) (p3 := 14) (ty := .int) rfl (fun z hz => by cases hz) (by decide) (by decide) wcl_13 wca_13 (by decide) (Or.inl ⟨⟨3, by decide⟩, rfl, dL_groups_12, rfl⟩) dL_groups_13 rfl dL_groups_14 rfl rfl ⟨zle rfl, zle rfl⟩ ⟨_, X2, _, hS, rfl, rfl, fun v2 h2 => by cases h2⟩
set_option maxRecDepth 100000 in
set_option maxHeartbeats 4000000 in
theorem c_L_groupsByLinks {a0 : Int32} {S : zRes → zX → Prop} (h : ZM G mX8_groupsByLinks 4 1 6 [.ref 0, .int a0] (zw X Y O) (cOut Y O S)) (ho : ∀ r X2, S r X2 → okRes [eIAE] r) : ZM G mL_groupsByLinks 5 1 6 [.ref 0, .int a0, .ref 94] (zw X Y O) (wOut Y [eIAE] S) := by
  refine ZM.goH pL rfl rfl (zle rfl) (zl := [some (.ref 0), some (.int a0), some (.ref 94), none]) rfl ?_
  refine z_aload_n (i := 2) dL_groupsByLinks_0 rfl rfl (q := 1) rfl ?_
  refine z_iconst (v := 0) dL_groupsByLinks_1 rfl (q := 2) rfl ?_
  refine z_aload_n (i := 0) dL_groupsByLinks_2 rfl rfl (q := 3) rfl ?_
  refine z_iload_n (i := 1) dL_groupsByLinks_3 rfl rfl (q := 4) rfl ?_
  refine z_callV (As := [_]) dL_groupsByLinks_4 kL_115 h (wo_x _ _ _) rfl rfl (zle rfl) ⟨zle rfl, zle rfl⟩ ⟨zle rfl, zle rfl⟩ (q := 7) rfl (fun rv w2 hw2 => ?_) (fun E w2 hw2 => ?_)
  · obtain ⟨X2, rfl, hS⟩ := hw2
    rcases ho _ _ hS with ⟨v, h9⟩ | ⟨E, _, h9⟩
    · cases h9
      refine z_i2l dL_groupsByLinks_7 (q := 8) rfl ?_
      refine z_last dL_groupsByLinks_8 (wout _ _ _) (zin (k := 0) (by decide) (by decide)) (q := 9) rfl ?_
      refine Z.eqw (wouts _ _ _ _) ?_
      refine z_goto (tgt := 15) dL_groupsByLinks_9 (by decide) ?_
      refine z_iconst (v := 0) dL_groupsByLinks_15 rfl (q := 16) rfl ?_
      exact z_iret dL_groupsByLinks_16 rfl ⟨zle rfl, zle rfl⟩ ⟨_, X2, _, hS, rfl, rfl, fun v2 h2 => by cases h2; rfl⟩
    · cases h9
  · obtain ⟨X2, rfl, hS⟩ := hw2
    rcases ho _ _ hS with ⟨v, h9⟩ | ⟨E2, hm, h9⟩
    · cases h9
    · cases h9
      simp only [List.mem_cons, List.mem_nil_iff, or_false, List.not_mem_nil] at hm
      rcases hm with rfl
      · exact zx_catch (name := "java/lang/IllegalArgumentException") (pre := []) (x := ⟨0, 9, 12, 13⟩) (suf := []) (v := 1) (i := 3) (p2 := 13) (p3 := 14) (ty := .int) rfl (fun z hz => by cases hz) (by decide) (by decide) wcl_13 wca_13 (by decide) (Or.inl ⟨⟨3, by decide⟩, rfl, dL_groupsByLinks_12, rfl⟩) dL_groupsByLinks_13 rfl dL_groupsByLinks_14 rfl rfl ⟨zle rfl, zle rfl⟩ ⟨_, X2, _, hS, rfl, rfl, fun v2 h2 => by cases h2⟩
set_option maxRecDepth 100000 in
set_option maxHeartbeats 4000000 in
theorem c_L_groupOf {a0 : Int32} {a1 : Int32} {S : zRes → zX → Prop} (h : ZM G mX8_groupOf 5 1 6 [.ref 0, .int a0, .int a1] (zw X Y O) (cOut Y O S)) (ho : ∀ r X2, S r X2 → okRes [eIOOBE, eIAE] r) : ZM G mL_groupOf 6 1 6 [.ref 0, .int a0, .int a1, .ref 94] (zw X Y O) (wOut Y [eIOOBE, eIAE] S) := by
  refine ZM.goH pL rfl rfl (zle rfl) (zl := [some (.ref 0), some (.int a0), some (.int a1), some (.ref 94), none]) rfl ?_
  refine z_aload_n (i := 3) dL_groupOf_0 rfl rfl (q := 1) rfl ?_
  refine z_iconst (v := 0) dL_groupOf_1 rfl (q := 2) rfl ?_
  refine z_aload_n (i := 0) dL_groupOf_2 rfl rfl (q := 3) rfl ?_
  refine z_iload_n (i := 1) dL_groupOf_3 rfl rfl (q := 4) rfl ?_
  refine z_iload_n (i := 2) dL_groupOf_4 rfl rfl (q := 5) rfl ?_
  refine z_callV (As := [_, _]) dL_groupOf_5 kL_118 h (wo_x _ _ _) rfl rfl (zle rfl) ⟨zle rfl, zle rfl⟩ ⟨zle rfl, zle rfl⟩ (q := 8) rfl (fun rv w2 hw2 => ?_) (fun E w2 hw2 => ?_)
  · obtain ⟨X2, rfl, hS⟩ := hw2
    rcases ho _ _ hS with ⟨v, h9⟩ | ⟨E, _, h9⟩
    · cases h9
      refine z_i2l dL_groupOf_8 (q := 9) rfl ?_
      refine z_last dL_groupOf_9 (wout _ _ _) (zin (k := 0) (by decide) (by decide)) (q := 10) rfl ?_
      refine Z.eqw (wouts _ _ _ _) ?_
      refine z_goto (tgt := 21) dL_groupOf_10 (by decide) ?_
      refine z_iconst (v := 0) dL_groupOf_21 rfl (q := 22) rfl ?_
      exact z_iret dL_groupOf_22 rfl ⟨zle rfl, zle rfl⟩ ⟨_, X2, _, hS, rfl, rfl, fun v2 h2 => by cases h2; rfl⟩
    · cases h9
  · obtain ⟨X2, rfl, hS⟩ := hw2
    rcases ho _ _ hS with ⟨v, h9⟩ | ⟨E2, hm, h9⟩
    · cases h9
    · cases h9
      simp only [List.mem_cons, List.mem_nil_iff, or_false, List.not_mem_nil] at hm
      rcases hm with rfl | rfl
      · exact zx_catch (name := "java/lang/IndexOutOfBoundsException") (pre := []) (x := ⟨0, 10, 13, 23⟩) (suf := [⟨0, 10, 17, 13⟩]) (v := 1) (i := 4) (p2 := 15) (p3 := 16) (ty := .int) rfl (fun z hz => by cases hz) (by decide) (by decide) wcl_23 wca_23 (by decide) (Or.inr ⟨dL_groupOf_13, rfl⟩) dL_groupOf_15 rfl dL_groupOf_16 rfl rfl ⟨zle rfl, zle rfl⟩ ⟨_, X2, _, hS, rfl, rfl, fun v2 h2 => by cases h2⟩
      · exact zx_catch (name := "java/lang/IllegalArgumentException") (pre := [⟨0, 10, 13, 23⟩]) (x := ⟨0, 10, 17, 13⟩) (suf := []) (v := 2) (i := 4) (p2 := 19) (p3 := 20) (ty := .int) rfl (fun z hz => by
        simp only [List.mem_cons, List.mem_nil_iff, or_false, List.not_mem_nil] at hz
        rcases hz with rfl
        · exact Or.inr ⟨by decide, _, wcl_23, by decide⟩) (by decide) (by decide) wcl_13 wca_13 (by decide) (Or.inr ⟨dL_groupOf_17, rfl⟩) dL_groupOf_19 rfl dL_groupOf_20 rfl rfl ⟨zle rfl, zle rfl⟩ ⟨_, X2, _, hS, rfl, rfl, fun v2 h2 => by cases h2⟩
end
