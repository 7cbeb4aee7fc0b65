section
variable {G : zG} {X X1 : zX} {Y : zY} {O : zO}
set_option maxRecDepth 100000 in
set_option maxHeartbeats 4000000 in
theorem z_X9_tid_35 {n nw t : Nat} {s mm : Nat → Int32} {cc : Nat → Nat} (hI : inv X n nw) (hR : rel X Y n nw) (ht : t < 2) (hm : ∀ j, j < n → mm j = nI (cc j) ∧ cc j ≤ 10) : ∀ (m v : Nat) (p : Nat → Nat) (Y2 : zY) (e3 e4 e5 : Option Value), v + 1 + m = pr cc 0 n → (∀ j, j < n → p j < cc j) → vl cc p 0 n = v → TS Y Y2 s mm → (∀ j, j < n → Y2.1 11 j = nI (p j)) → tbI X t n nw s (pQ n cc v) Y2 → Z G mX9_findTidiest (zrm 4 0 0) 0 0 35 [some (.ref 77), some (.int (nI t)), some (.int 1), e3, e4, e5] [] (zw X1 Y2 O) (fun r w => r = .inl none ∧ ∃ Y3, w = zw X1 Y3 O ∧ TS Y Y3 s mm ∧ tbI X t n nw s (pQ n cc (pr cc 0 n)) Y3) := by
  intro m
  induction m with
  | zero =>
    intro v p Y2 e3 e4 e5 hm2 hp hv hT htr hB
    refine z_iload_n (i := 2) dX9_findTidiest_35 rfl rfl (q := 36) rfl ?_
    refine z_if_eq (tgt := 174) dX9_findTidiest_36 (by decide) (q := 39) rfl (fun h36 => absurd h36 (by decide)) (fun h36 => ?_)
    refine z_iconst (v := 0) dX9_findTidiest_39 rfl (q := 40) rfl ?_
    refine z_istore_n (i := 3) dX9_findTidiest_40 rfl (zle rfl) rfl (q := 41) rfl ?_
    refine Z.eqw (w2 := zw X1 (yarr Y2 12 (Y2.1 12)) O) (by rw [yarr_self]) ?_
    refine z_X9_tid_41 (p := p) (rel_kY hR hT.1) (fun j hj => by have h1 := hp j hj; have h2 := (hm j hj).2; omega) htr n 0 _ (by omega) (fun j hj => absurd hj (by omega)) (fun f hf => ?_)
    rw [hT.2.1] at hf
    exact z_X9_tid_77 hI hR ht hm hp hv hT htr hB hf (fun p2 Y5 hlt hp2 hv2 hT2 htr2 hB2 a b c => absurd hlt (by omega))
  | succ m ih =>
    intro v p Y2 e3 e4 e5 hm2 hp hv hT htr hB
    refine z_iload_n (i := 2) dX9_findTidiest_35 rfl rfl (q := 36) rfl ?_
    refine z_if_eq (tgt := 174) dX9_findTidiest_36 (by decide) (q := 39) rfl (fun h36 => absurd h36 (by decide)) (fun h36 => ?_)
    refine z_iconst (v := 0) dX9_findTidiest_39 rfl (q := 40) rfl ?_
    refine z_istore_n (i := 3) dX9_findTidiest_40 rfl (zle rfl) rfl (q := 41) rfl ?_
    refine Z.eqw (w2 := zw X1 (yarr Y2 12 (Y2.1 12)) O) (by rw [yarr_self]) ?_
    refine z_X9_tid_41 (p := p) (rel_kY hR hT.1) (fun j hj => by have h1 := hp j hj; have h2 := (hm j hj).2; omega) htr n 0 _ (by omega) (fun j hj => absurd hj (by omega)) (fun f hf => ?_)
    rw [hT.2.1] at hf
    exact z_X9_tid_77 hI hR ht hm hp hv hT htr hB hf (fun p2 Y5 hlt hp2 hv2 hT2 htr2 hB2 a b c => ih (v + 1) p2 Y5 a b c (by omega) hp2 hv2 hT2 htr2 hB2)
set_option maxRecDepth 100000 in
set_option maxHeartbeats 4000000 in
theorem z_X9_tid_12 {n nw t : Nat} {e3 e4 e5 : Option Value} {P : zRes → zWorld → Prop} (hR : rel X Y n nw) : ∀ (m i : Nat) (f : Nat → Int32), i + m = n → (∀ j, j < i → f j = (fun _ => (0 : Int32)) j) → (∀ f, (∀ j, j < n → f j = (fun _ => (0 : Int32)) j) → Z G mX9_findTidiest (zrm 4 0 0) 0 0 33 [some (.ref 77), some (.int (nI t)), some (.int (nI n)), e3, e4, e5] [] (zw X1 (yarr Y 11 f) O) P) → Z G mX9_findTidiest (zrm 4 0 0) 0 0 12 [some (.ref 77), some (.int (nI t)), some (.int (nI i)), e3, e4, e5] [] (zw X1 (yarr Y 11 f) O) P := by
  have h4 := rel_4 hR
  intro m
  induction m with
  | zero =>
    intro i f hi hf hx
    refine z_iload_n (i := 2) dX9_findTidiest_12 rfl rfl (q := 13) rfl ?_
    refine z_aload_n (i := 0) dX9_findTidiest_13 rfl rfl (q := 14) rfl ?_
    refine z_get dX9_findTidiest_14 fX9_64 (wm _ _ _) rfl (q := 17) rfl ?_
    refine Z.eqst (st2 := [.int (nI n), .int (nI i)]) (congrArg (fun x => [Value.int x, Value.int (nI i)]) hR.1) ?_
    refine z_icmp_ge (tgt := 33) dX9_findTidiest_17 (by decide) (q := 20) rfl (fun h17 => ?_) (fun h17 => absurd (zge_t (by omega)) h17)
    rw [show i = n by omega] at hf ⊢
    exact hx f hf
  | succ m ih =>
    intro i f hi hf hx
    refine z_iload_n (i := 2) dX9_findTidiest_12 rfl rfl (q := 13) rfl ?_
    refine z_aload_n (i := 0) dX9_findTidiest_13 rfl rfl (q := 14) rfl ?_
    refine z_get dX9_findTidiest_14 fX9_64 (wm _ _ _) rfl (q := 17) rfl ?_
    refine Z.eqst (st2 := [.int (nI n), .int (nI i)]) (congrArg (fun x => [Value.int x, Value.int (nI i)]) hR.1) ?_
    refine z_icmp_ge (tgt := 33) dX9_findTidiest_17 (by decide) (q := 20) rfl (fun h17 => absurd h17 (zge_f (by omega) (by omega))) (fun h17 => ?_)
    refine z_aload_n (i := 0) dX9_findTidiest_20 rfl rfl (q := 21) rfl ?_
    refine z_get dX9_findTidiest_21 fX9_45 (wm _ _ _) rfl (q := 24) rfl ?_
    refine z_iload_n (i := 2) dX9_findTidiest_24 rfl rfl (q := 25) rfl ?_
    refine z_iconst (v := 0) dX9_findTidiest_25 rfl (q := 26) rfl ?_
    refine z_iast dX9_findTidiest_26 (wma_tried _ _ _) (zin (by omega) (by decide)) (q := 27) rfl ?_
    refine Z.eqw (wms_tried _ _ _ _) ?_
    rw [nI_clamp (by omega), yarr_yarr, yarr_f]
    refine z_iinc dX9_findTidiest_27 rfl rfl (zle rfl) rfl (q := 30) rfl ?_
    refine z_goto (tgt := 12) dX9_findTidiest_30 (by decide) ?_
    refine Z.eql (zl2 := [some (.ref 77), some (.int (nI t)), some (.int (nI (i + 1))), _, _, _]) (by first | (rw [← nI_1 i]; done) | (rw [← nI_1 i]; rfl)) ?_
    exact ih (i + 1) _ (by omega) (ext_upd (g := fun _ => 0) hf) hx
set_option maxRecDepth 100000 in
set_option maxHeartbeats 4000000 in
theorem vl_0 {c : Nat → Nat} : ∀ (m k : Nat), vl c (fun _ => 0) k m = 0
  | 0, _ => rfl
  | m + 1, k => by rw [vl, vl_0 m (k + 1)]; rfl
/- the snaps of a search and their numbers -/
set_option maxRecDepth 100000 in
set_option maxHeartbeats 4000000 in
def snC (X : zX) (t n : Nat) (s mm : Nat → Int32) (cc : Nat → Nat) : Prop := ∀ k, k < n → cc k ≤ 10 ∧ 1 ≤ cc k ∧ snS s mm k (cc k) (isSnap (X.2.1 (2 * t)) (X.2.1 (2 * t + 1)) n k)
set_option maxRecDepth 100000 in
set_option maxHeartbeats 4000000 in
theorem snC_of {t n : Nat} {s mm : Nat → Int32} (h : ∀ k, k < n → snK X t n k s mm) : ∃ cc, snC X t n s mm cc := by
  have h2 : ∀ k, ∃ c, k < n → c ≤ 10 ∧ 1 ≤ c ∧ snS s mm k c (isSnap (X.2.1 (2 * t)) (X.2.1 (2 * t + 1)) n k) := fun k => by
    rcases Nat.lt_or_ge k n with h3 | h3
    · obtain ⟨c, h4⟩ := h k h3
      exact ⟨c, fun _ => h4⟩
    · exact ⟨0, fun h4 => absurd h4 (by omega)⟩
  exact ⟨fun k => Classical.choose (h2 k), fun k hk => Classical.choose_spec (h2 k) hk⟩
set_option maxRecDepth 100000 in
set_option maxHeartbeats 4000000 in
theorem td_final {n nw t : Nat} {s mm : Nat → Int32} {cc : Nat → Nat} {Y3 : zY} {B : bst} (hI : inv X n nw) (ht : t < 2) (hK : snC X t n s mm cc) (hb : tbI X t n nw s (pQ n cc (pr cc 0 n)) Y3) (hB : tdR X t n nw B) : Y3.2.1 4 = nI B.1 ∧ Y3.2.1 3 = nI B.2.1 ∧ ∀ j, j < n → Y3.1 13 j = nI (B.2.2 j) := by
  have hE : ∀ E, tidyL X t n E → ∃ p, pQ n cc (pr cc 0 n) p ∧ ∀ j, j < n → Lay s p j = E j := fun E hE => by
    have h2 : ∀ k, ∃ i, k < n → i < cc k ∧ s (10 * k + i) = E k := fun k => by
      rcases Nat.lt_or_ge k n with h3 | h3
      · obtain ⟨i, h4, h5⟩ := (hK k h3).2.2.2.2.2 (E k) (hE.1 k h3)
        exact ⟨i, fun _ => ⟨h4, h5⟩⟩
      · exact ⟨0, fun h4 => absurd h4 (by omega)⟩
    have h3 : ∀ j, j < n → Classical.choose (h2 j) < cc j := fun j hj => (Classical.choose_spec (h2 j) hj).1
    exact ⟨fun k => Classical.choose (h2 k), ⟨h3, vl_lt n 0 (fun j _ hj => h3 j (by omega))⟩, fun j hj => (Classical.choose_spec (h2 j) hj).2⟩
  obtain ⟨D, d1, d2, d3, d4⟩ := td_top hI ht hB
  obtain ⟨p, hp, e⟩ := hE _ d2.1
  rcases hb with ⟨_, h⟩ | ⟨_, p0, q1, q2, q3, q4, q5, q6⟩
  · exact absurd (allow_congr (fun j hj => (e j hj).symm) d2.1.2) (h p hp)
  · have htop : top X t n nw (Lay s p0) := by
      refine ⟨⟨fun k hk => (hK k hk).2.2.2.2.1 (p0 k) (q1.1 k hk), q2⟩, fun E hE2 hbt => ?_⟩
      obtain ⟨p2, hp2, e2⟩ := hE E hE2
      exact q6 p2 hp2 (allow_congr (fun j hj => (e2 j hj).symm) hE2.2) (btr_congr hI (fun j hj => (e2 j hj).symm) (fun _ _ => rfl) hbt)
    obtain ⟨u1, u2, u3⟩ := top_uniq htop d2
    refine ⟨by rw [q4, u1, d3], by rw [q5, u2, d4], fun j hj => ?_⟩
    rw [q3 j hj, u3 j hj, (d1 j hj).1]
/- what findTidiest leaves -/
set_option maxRecDepth 100000 in
set_option maxHeartbeats 4000000 in
def FT (Y Y3 : zY) (n : Nat) (B : bst) : Prop := keepY Y Y3 ∧ Y3.2.1 0 = Y.2.1 0 ∧ Y3.2.1 4 = nI B.1 ∧ Y3.2.1 3 = nI B.2.1 ∧ ∀ j, j < n → Y3.1 13 j = nI (B.2.2 j)
set_option maxRecDepth 100000 in
set_option maxHeartbeats 4000000 in
theorem TS_ysn (Y : zY) (s mm : Nat → Int32) : TS Y (ysn Y s mm) s mm := ⟨keepY_arr (keepY_arr (keepY_refl Y) (by decide) s) (by decide) mm, rfl, rfl, rfl⟩
set_option maxRecDepth 100000 in
set_option maxHeartbeats 4000000 in
theorem c_X9_findTidiest {n nw t : Nat} {B : bst} (hI : inv X n nw) (hR : rel X Y n nw) (ht : t < 2) (hB : tdR X t n nw B) : ZM G mX9_findTidiest 4 0 0 [.ref 77, .int (nI t)] (zw X1 Y O) (fun r w => r = .inl none ∧ ∃ Y3, w = zw X1 Y3 O ∧ FT Y Y3 n B) := by
  refine ZM.go pX9 rfl rfl (zle rfl) (zl := [some (.ref 77), some (.int (nI t)), none, none, none, none]) rfl ?_
  refine z_aload_n (i := 0) dX9_findTidiest_0 rfl rfl (q := 1) rfl ?_
  refine z_iload_n (i := 1) dX9_findTidiest_1 rfl rfl (q := 2) rfl ?_
  refine z_callV (As := [_]) dX9_findTidiest_2 kX9_156 (c_X9_findSnaps hI hR ht) (wm _ _ _) rfl rfl (zle rfl) ⟨zle rfl, zle rfl⟩ ⟨zle rfl, zle rfl⟩ (q := 5) rfl (fun rv w2 hw2 => ?_) (fun E w2 h9 => by cases h9.1)
  obtain ⟨h9, s, mm, rfl, hK⟩ := hw2
  cases h9
  obtain ⟨cc, hC⟩ := snC_of hK
  refine z_aload_n (i := 0) dX9_findTidiest_5 rfl rfl (q := 6) rfl ?_
  refine z_iconst (v := 0) dX9_findTidiest_6 rfl (q := 7) rfl ?_
  refine z_put dX9_findTidiest_7 fX9_159 (wm _ _ _) (zle rfl) zfit_0 (q := 10) rfl ?_
  refine Z.eqw (wmi_isFound _ _ _ _) ?_
  refine z_iconst (v := 0) dX9_findTidiest_10 rfl (q := 11) rfl ?_
  refine z_istore_n (i := 2) dX9_findTidiest_11 rfl (zle rfl) rfl (q := 12) rfl ?_
  have hT0 : TS Y (yint (ysn Y s mm) 6 0) s mm := TS_int (TS_ysn Y s mm) (by decide) 0
  refine Z.eqw (w2 := zw X1 (yarr (yint (ysn Y s mm) 6 0) 11 ((yint (ysn Y s mm) 6 0).1 11)) O) (by rw [yarr_self]) ?_
  refine z_X9_tid_12 (rel_kY hR hT0.1) n 0 _ (by omega) (fun j hj => absurd hj (by omega)) (fun f hf => ?_)
  refine z_iconst (v := 1) dX9_findTidiest_33 rfl (q := 34) rfl ?_
  refine z_istore_n (i := 2) dX9_findTidiest_34 rfl (zle rfl) rfl (q := 35) rfl ?_
  have hp0 : ∀ j, j < n → (fun _ => 0 : Nat → Nat) j < cc j := fun j hj => (hC j hj).2.1
  have hpr := vl_lt (c := cc) n 0 (fun j _ hj => hp0 j (by omega))
  rw [vl_0] at hpr
  refine Z.mono (z_X9_tid_35 hI hR ht (fun j hj => ⟨(hC j hj).2.2.1, (hC j hj).1⟩) (pr cc 0 n - 1) 0 (fun _ => 0) _ _ _ _ (by omega) hp0 (vl_0 n 0) (TS_arr hT0 (by decide) f) hf (Or.inl ⟨rfl, fun p hp => absurd hp.2 (Nat.not_lt_zero _)⟩)) (fun r w h9 => ?_)
  obtain ⟨h8, Y3, h7, h6, h5⟩ := h9
  exact ⟨h8, Y3, h7, h6.1, h6.2.2.2, td_final hI ht hC h5 hB⟩
set_option maxRecDepth 100000 in
set_option maxHeartbeats 4000000 in
theorem c_X9_tidies {n nw t : Nat} {B : bst} (hI : inv X n nw) (hR : rel X Y n nw) (ht : t < 2) (hB : tdR X t n nw B) : ZM G mX9_tidies 5 0 0 [.ref 77, .int (zch t)] (zw X1 Y O) (fun r w => r = .inl (some (.int 1)) ∧ ∃ Y3, w = zw X1 Y3 O ∧ FT (yint Y 0 0) Y3 n B) := by
  have h4 := rel_4 hR
  have hR0 : rel X (yint Y 0 0) n nw := rel_thr hR 0
  refine ZM.go pX9 rfl rfl (zle rfl) (zl := [some (.ref 77), some (.int (zch t))]) rfl ?_
  refine z_aload_n (i := 0) dX9_tidies_0 rfl rfl (q := 1) rfl ?_
  refine z_iconst (v := 0) dX9_tidies_1 rfl (q := 2) rfl ?_
  refine z_put dX9_tidies_2 fX9_60 (wm _ _ _) (zle rfl) (zfit_int _) (q := 5) rfl ?_
  refine Z.eqw (wmi_thrown _ _ _ _) ?_
  refine z_aload_n (i := 0) dX9_tidies_5 rfl rfl (q := 6) rfl ?_
  refine z_iload_n (i := 1) dX9_tidies_6 rfl rfl (q := 7) rfl ?_
  refine z_callSF (As := [_]) dX9_tidies_7 kX9_101 (c_X9_axisOf ht) rfl (zle rfl) ⟨zle rfl, zle rfl⟩ ⟨zle rfl, zle rfl⟩ (q := 10) rfl ?_
  refine z_iconst (v := (-1)) dX9_tidies_10 rfl (q := 11) rfl ?_
  refine z_icmp_ne (tgt := 18) dX9_tidies_11 (by decide) (q := 14) rfl (fun h11 => ?_) (fun h11 => absurd h11 (nI_m1 (by omega)))
  refine z_iconst (v := 0) dX9_tidies_18 rfl (q := 19) rfl ?_
  refine z_iconst (v := 1) dX9_tidies_19 rfl (q := 20) rfl ?_
  refine z_callVF (As := [_, _]) dX9_tidies_20 kX9_89 (c_X9_fails_f rfl) (wm _ _ _) rfl rfl (zle rfl) ⟨zle rfl, zle rfl⟩ ⟨zle rfl, zle rfl⟩ (q := 23) rfl ?_
  refine z_if_eq (tgt := 28) dX9_tidies_23 (by decide) (q := 26) rfl (fun h23 => ?_) (fun h23 => absurd h23 (by decide))
  refine z_aload_n (i := 0) dX9_tidies_28 rfl rfl (q := 29) rfl ?_
  refine z_iload_n (i := 1) dX9_tidies_29 rfl rfl (q := 30) rfl ?_
  refine z_callSF (As := [_]) dX9_tidies_30 kX9_101 (c_X9_axisOf ht) rfl (zle rfl) ⟨zle rfl, zle rfl⟩ ⟨zle rfl, zle rfl⟩ (q := 33) rfl ?_
  refine z_callV (As := [_]) dX9_tidies_33 kX9_189 (c_X9_findTidiest hI hR0 ht hB) (wm _ _ _) rfl rfl (zle rfl) ⟨zle rfl, zle rfl⟩ ⟨zle rfl, zle rfl⟩ (q := 36) rfl (fun rv w2 hw2 => ?_) (fun E w2 h9 => by cases h9.1)
  obtain ⟨h9, Y3, rfl, hF⟩ := hw2
  cases h9
  refine z_iconst (v := 1) dX9_tidies_36 rfl (q := 37) rfl ?_
  exact z_zret dX9_tidies_37 rfl (by first | rfl | assumption | decide) ⟨zle rfl, zle rfl⟩ ⟨rfl, Y3, rfl, hF⟩
set_option maxRecDepth 100000 in
set_option maxHeartbeats 4000000 in
theorem c_X9_tidies_ax {n nw : Nat} {c : Int32} (hR : rel X Y n nw) (h1 : ¬ c = 120) (h2 : ¬ c = 121) : ZM G mX9_tidies 5 0 0 [.ref 77, .int c] (zw X1 Y O) (mR X1 O (0) (yth Y 1)) := by
  have h4 := rel_4 hR
  have hR0 : rel X (yint Y 0 0) n nw := rel_thr hR 0
  refine ZM.go pX9 rfl rfl (zle rfl) (zl := [some (.ref 77), some (.int c)]) rfl ?_
  refine z_aload_n (i := 0) dX9_tidies_0 rfl rfl (q := 1) rfl ?_
  refine z_iconst (v := 0) dX9_tidies_1 rfl (q := 2) rfl ?_
  refine z_put dX9_tidies_2 fX9_60 (wm _ _ _) (zle rfl) (zfit_int _) (q := 5) rfl ?_
  refine Z.eqw (wmi_thrown _ _ _ _) ?_
  refine z_aload_n (i := 0) dX9_tidies_5 rfl rfl (q := 6) rfl ?_
  refine z_iload_n (i := 1) dX9_tidies_6 rfl rfl (q := 7) rfl ?_
  refine z_callSF (As := [_]) dX9_tidies_7 kX9_101 (c_X9_axisOf_no h1 h2) rfl (zle rfl) ⟨zle rfl, zle rfl⟩ ⟨zle rfl, zle rfl⟩ (q := 10) rfl ?_
  refine z_iconst (v := (-1)) dX9_tidies_10 rfl (q := 11) rfl ?_
  refine z_icmp_ne (tgt := 18) dX9_tidies_11 (by decide) (q := 14) rfl (fun h11 => absurd h11 (by decide)) (fun h11 => ?_)
  refine z_iconst (v := 1) dX9_tidies_14 rfl (q := 15) rfl ?_
  refine z_goto (tgt := 19) dX9_tidies_15 (by decide) ?_
  refine z_iconst (v := 1) dX9_tidies_19 rfl (q := 20) rfl ?_
  refine z_callVF (As := [_, _]) dX9_tidies_20 kX9_89 (c_X9_fails_t rfl (by decide)) (wm _ _ _) rfl rfl (zle rfl) ⟨zle rfl, zle rfl⟩ ⟨zle rfl, zle rfl⟩ (q := 23) rfl ?_
  refine z_if_eq (tgt := 28) dX9_tidies_23 (by decide) (q := 26) rfl (fun h23 => absurd h23 (by decide)) (fun h23 => ?_)
  refine z_iconst (v := 0) dX9_tidies_26 rfl (q := 27) rfl ?_
  exact z_zret dX9_tidies_27 rfl (by first | rfl | assumption | decide) ⟨zle rfl, zle rfl⟩ ⟨rfl, rfl⟩
set_option maxRecDepth 100000 in
set_option maxHeartbeats 4000000 in
theorem c_X9_bestStrength {n nw t : Nat} {B : bst} (hI : inv X n nw) (hR : rel X Y n nw) (ht : t < 2) (hB : tdR X t n nw B) : ZM G mX9_bestStrength 6 0 0 [.ref 77, .int (zch t)] (zw X1 Y O) (fun r w => ∃ Y3, r = .inl (some (.int (nI (B.1)))) ∧ w = zw X1 Y3 O ∧ FT (yint Y 0 0) Y3 n B) := by
  refine ZM.go pX9 rfl rfl (zle rfl) (zl := [some (.ref 77), some (.int (zch t))]) rfl ?_
  refine z_aload_n (i := 0) dX9_bestStrength_0 rfl rfl (q := 1) rfl ?_
  refine z_iload_n (i := 1) dX9_bestStrength_1 rfl rfl (q := 2) rfl ?_
  refine z_callV (As := [_]) dX9_bestStrength_2 kX9_192 (c_X9_tidies hI hR ht hB) (wm _ _ _) rfl rfl (zle rfl) ⟨zle rfl, zle rfl⟩ ⟨zle rfl, zle rfl⟩ (q := 5) rfl (fun rv w2 hw2 => ?_) (fun E w2 h9 => by cases h9.1)
  obtain ⟨h9, Y3, rfl, hF⟩ := hw2
  cases h9
  refine z_if_eq (tgt := 15) dX9_bestStrength_5 (by decide) (q := 8) rfl (fun h5 => absurd h5 (by decide)) (fun h5 => ?_)
  refine z_aload_n (i := 0) dX9_bestStrength_8 rfl rfl (q := 9) rfl ?_
  refine z_get dX9_bestStrength_9 fX9_166 (wm _ _ _) rfl (q := 12) rfl ?_
  refine z_goto (tgt := 16) dX9_bestStrength_12 (by decide) ?_
  exact z_iret dX9_bestStrength_16 rfl ⟨zle rfl, zle rfl⟩ ⟨Y3, by rw [hF.2.2.1], rfl, hF⟩
set_option maxRecDepth 100000 in
set_option maxHeartbeats 4000000 in
theorem c_X9_bestStrength_ax {n nw : Nat} {c : Int32} (hR : rel X Y n nw) (h1 : ¬ c = 120) (h2 : ¬ c = 121) : ZM G mX9_bestStrength 6 0 0 [.ref 77, .int c] (zw X1 Y O) (mR X1 O (0) (yth Y 1)) := by
  refine ZM.go pX9 rfl rfl (zle rfl) (zl := [some (.ref 77), some (.int c)]) rfl ?_
  refine z_aload_n (i := 0) dX9_bestStrength_0 rfl rfl (q := 1) rfl ?_
  refine z_iload_n (i := 1) dX9_bestStrength_1 rfl rfl (q := 2) rfl ?_
  refine z_callVF (As := [_]) dX9_bestStrength_2 kX9_192 (c_X9_tidies_ax hR h1 h2) (wm _ _ _) rfl rfl (zle rfl) ⟨zle rfl, zle rfl⟩ ⟨zle rfl, zle rfl⟩ (q := 5) rfl ?_
  refine z_if_eq (tgt := 15) dX9_bestStrength_5 (by decide) (q := 8) rfl (fun h5 => ?_) (fun h5 => absurd h5 (by decide))
  refine z_iconst (v := 0) dX9_bestStrength_15 rfl (q := 16) rfl ?_
  exact z_iret dX9_bestStrength_16 rfl ⟨zle rfl, zle rfl⟩ ⟨rfl, rfl⟩
set_option maxRecDepth 100000 in
set_option maxHeartbeats 4000000 in
theorem c_X9_tidyCost {n nw t : Nat} {B : bst} (hI : inv X n nw) (hR : rel X Y n nw) (ht : t < 2) (hB : tdR X t n nw B) : ZM G mX9_tidyCost 6 0 0 [.ref 77, .int (zch t)] (zw X1 Y O) (fun r w => ∃ Y3, r = .inl (some (.int (nI (B.2.1)))) ∧ w = zw X1 Y3 O ∧ FT (yint Y 0 0) Y3 n B) := by
  refine ZM.go pX9 rfl rfl (zle rfl) (zl := [some (.ref 77), some (.int (zch t))]) rfl ?_
  refine z_aload_n (i := 0) dX9_tidyCost_0 rfl rfl (q := 1) rfl ?_
  refine z_iload_n (i := 1) dX9_tidyCost_1 rfl rfl (q := 2) rfl ?_
  refine z_callV (As := [_]) dX9_tidyCost_2 kX9_192 (c_X9_tidies hI hR ht hB) (wm _ _ _) rfl rfl (zle rfl) ⟨zle rfl, zle rfl⟩ ⟨zle rfl, zle rfl⟩ (q := 5) rfl (fun rv w2 hw2 => ?_) (fun E w2 h9 => by cases h9.1)
  obtain ⟨h9, Y3, rfl, hF⟩ := hw2
  cases h9
  refine z_if_eq (tgt := 15) dX9_tidyCost_5 (by decide) (q := 8) rfl (fun h5 => absurd h5 (by decide)) (fun h5 => ?_)
  refine z_aload_n (i := 0) dX9_tidyCost_8 rfl rfl (q := 9) rfl ?_
  refine z_get dX9_tidyCost_9 fX9_163 (wm _ _ _) rfl (q := 12) rfl ?_
  refine z_goto (tgt := 16) dX9_tidyCost_12 (by decide) ?_
  exact z_iret dX9_tidyCost_16 rfl ⟨zle rfl, zle rfl⟩ ⟨Y3, by rw [hF.2.2.2.1], rfl, hF⟩
set_option maxRecDepth 100000 in
set_option maxHeartbeats 4000000 in
theorem c_X9_tidyCost_ax {n nw : Nat} {c : Int32} (hR : rel X Y n nw) (h1 : ¬ c = 120) (h2 : ¬ c = 121) : ZM G mX9_tidyCost 6 0 0 [.ref 77, .int c] (zw X1 Y O) (mR X1 O (0) (yth Y 1)) := by
  refine ZM.go pX9 rfl rfl (zle rfl) (zl := [some (.ref 77), some (.int c)]) rfl ?_
  refine z_aload_n (i := 0) dX9_tidyCost_0 rfl rfl (q := 1) rfl ?_
  refine z_iload_n (i := 1) dX9_tidyCost_1 rfl rfl (q := 2) rfl ?_
  refine z_callVF (As := [_]) dX9_tidyCost_2 kX9_192 (c_X9_tidies_ax hR h1 h2) (wm _ _ _) rfl rfl (zle rfl) ⟨zle rfl, zle rfl⟩ ⟨zle rfl, zle rfl⟩ (q := 5) rfl ?_
  refine z_if_eq (tgt := 15) dX9_tidyCost_5 (by decide) (q := 8) rfl (fun h5 => ?_) (fun h5 => absurd h5 (by decide))
  refine z_iconst (v := 0) dX9_tidyCost_15 rfl (q := 16) rfl ?_
  exact z_iret dX9_tidyCost_16 rfl ⟨zle rfl, zle rfl⟩ ⟨rfl, rfl⟩
set_option maxRecDepth 100000 in
set_option maxHeartbeats 4000000 in
theorem c_X9_bestByAll {n nw t : Nat} {B : bst} (hI : inv X n nw) (hR : rel X Y n nw) (ht : t < 2) (hB : tdR X t n nw B) : ZM G mX9_bestByAll 7 0 0 [.ref 77, .int (zch t)] (zw X1 Y O) (fun r w => ∃ Y3, r = .inl (some (.int (nI B.1))) ∧ w = zw X1 Y3 O ∧ FT (yint Y 0 0) Y3 n B) := by
  refine ZM.go pX9 rfl rfl (zle rfl) (zl := [some (.ref 77), some (.int (zch t))]) rfl ?_
  refine z_aload_n (i := 0) dX9_bestByAll_0 rfl rfl (q := 1) rfl ?_
  refine z_iload_n (i := 1) dX9_bestByAll_1 rfl rfl (q := 2) rfl ?_
  refine z_callV (As := [_]) dX9_bestByAll_2 kX9_196 (c_X9_bestStrength hI hR ht hB) (wm _ _ _) rfl rfl (zle rfl) ⟨zle rfl, zle rfl⟩ ⟨zle rfl, zle rfl⟩ (q := 5) rfl (fun rv w2 hw2 => ?_) (fun E w2 h9 => by obtain ⟨_, h9, _⟩ := h9; cases h9)
  obtain ⟨Y3, h9, rfl, hF⟩ := hw2
  cases h9
  exact z_iret dX9_bestByAll_5 rfl ⟨zle rfl, zle rfl⟩ ⟨Y3, rfl, rfl, hF⟩
set_option maxRecDepth 100000 in
set_option maxHeartbeats 4000000 in
theorem c_X9_bestByAll_ax {n nw : Nat} {c : Int32} (hR : rel X Y n nw) (h1 : ¬ c = 120) (h2 : ¬ c = 121) : ZM G mX9_bestByAll 7 0 0 [.ref 77, .int c] (zw X1 Y O) (mR X1 O (0) (yth Y 1)) := by
  refine ZM.go pX9 rfl rfl (zle rfl) (zl := [some (.ref 77), some (.int c)]) rfl ?_
  refine z_aload_n (i := 0) dX9_bestByAll_0 rfl rfl (q := 1) rfl ?_
  refine z_iload_n (i := 1) dX9_bestByAll_1 rfl rfl (q := 2) rfl ?_
  refine z_callVF (As := [_]) dX9_bestByAll_2 kX9_196 (c_X9_bestStrength_ax hR h1 h2) (wm _ _ _) rfl rfl (zle rfl) ⟨zle rfl, zle rfl⟩ ⟨zle rfl, zle rfl⟩ (q := 5) rfl ?_
  exact z_iret dX9_bestByAll_5 rfl ⟨zle rfl, zle rfl⟩ ⟨rfl, rfl⟩
set_option maxRecDepth 100000 in
set_option maxHeartbeats 4000000 in
theorem c_X9_tidyStart {n nw t k : Nat} {B : bst} (hI : inv X n nw) (hR : rel X Y n nw) (hk : k < n) (ht : t < 2) (hB : tdR X t n nw B) : ZM G mX9_tidyStart 5 0 0 [.ref 77, .int (nI k), .int (zch t)] (zw X1 Y O) (fun r w => ∃ Y3, r = .inl (some (.int (nI (B.2.2 k)))) ∧ w = zw X1 Y3 O ∧ FT (yint Y 0 0) Y3 n B) := by
  have h4 := rel_4 hR
  have hR0 : rel X (yint Y 0 0) n nw := rel_thr hR 0
  refine ZM.go pX9 rfl rfl (zle rfl) (zl := [some (.ref 77), some (.int (nI k)), some (.int (zch t))]) rfl ?_
  refine z_aload_n (i := 0) dX9_tidyStart_0 rfl rfl (q := 1) rfl ?_
  refine z_iconst (v := 0) dX9_tidyStart_1 rfl (q := 2) rfl ?_
  refine z_put dX9_tidyStart_2 fX9_60 (wm _ _ _) (zle rfl) (zfit_int _) (q := 5) rfl ?_
  refine Z.eqw (wmi_thrown _ _ _ _) ?_
  refine z_aload_n (i := 0) dX9_tidyStart_5 rfl rfl (q := 6) rfl ?_
  refine z_aload_n (i := 0) dX9_tidyStart_6 rfl rfl (q := 7) rfl ?_
  refine z_iload_n (i := 1) dX9_tidyStart_7 rfl rfl (q := 8) rfl ?_
  refine z_callVF (As := [_]) dX9_tidyStart_8 kX9_97 (c_X9_noShape_in hR0 hk) (wm _ _ _) rfl rfl (zle rfl) ⟨zle rfl, zle rfl⟩ ⟨zle rfl, zle rfl⟩ (q := 11) rfl ?_
  refine z_iconst (v := 1) dX9_tidyStart_11 rfl (q := 12) rfl ?_
  refine z_callVF (As := [_, _]) dX9_tidyStart_12 kX9_89 (c_X9_fails_f rfl) (wm _ _ _) rfl rfl (zle rfl) ⟨zle rfl, zle rfl⟩ ⟨zle rfl, zle rfl⟩ (q := 15) rfl ?_
  refine z_if_ne (tgt := 39) dX9_tidyStart_15 (by decide) (q := 18) rfl (fun h15 => absurd h15 (by decide)) (fun h15 => ?_)
  refine z_aload_n (i := 0) dX9_tidyStart_18 rfl rfl (q := 19) rfl ?_
  refine z_iload_n (i := 2) dX9_tidyStart_19 rfl rfl (q := 20) rfl ?_
  refine z_callSF (As := [_]) dX9_tidyStart_20 kX9_101 (c_X9_axisOf ht) rfl (zle rfl) ⟨zle rfl, zle rfl⟩ ⟨zle rfl, zle rfl⟩ (q := 23) rfl ?_
  refine z_iconst (v := (-1)) dX9_tidyStart_23 rfl (q := 24) rfl ?_
  refine z_icmp_ne (tgt := 31) dX9_tidyStart_24 (by decide) (q := 27) rfl (fun h24 => ?_) (fun h24 => absurd h24 (nI_m1 (by omega)))
  refine z_iconst (v := 0) dX9_tidyStart_31 rfl (q := 32) rfl ?_
  refine z_iconst (v := 2) dX9_tidyStart_32 rfl (q := 33) rfl ?_
  refine z_callVF (As := [_, _]) dX9_tidyStart_33 kX9_89 (c_X9_fails_f rfl) (wm _ _ _) rfl rfl (zle rfl) ⟨zle rfl, zle rfl⟩ ⟨zle rfl, zle rfl⟩ (q := 36) rfl ?_
  refine z_if_eq (tgt := 41) dX9_tidyStart_36 (by decide) (q := 39) rfl (fun h36 => ?_) (fun h36 => absurd h36 (by decide))
  refine z_aload_n (i := 0) dX9_tidyStart_41 rfl rfl (q := 42) rfl ?_
  refine z_iload_n (i := 2) dX9_tidyStart_42 rfl rfl (q := 43) rfl ?_
  refine z_callSF (As := [_]) dX9_tidyStart_43 kX9_101 (c_X9_axisOf ht) rfl (zle rfl) ⟨zle rfl, zle rfl⟩ ⟨zle rfl, zle rfl⟩ (q := 46) rfl ?_
  refine z_callV (As := [_]) dX9_tidyStart_46 kX9_189 (c_X9_findTidiest hI hR0 ht hB) (wm _ _ _) rfl rfl (zle rfl) ⟨zle rfl, zle rfl⟩ ⟨zle rfl, zle rfl⟩ (q := 49) rfl (fun rv w2 hw2 => ?_) (fun E w2 h9 => by cases h9.1)
  obtain ⟨h9, Y3, rfl, hF⟩ := hw2
  cases h9
  refine z_aload_n (i := 0) dX9_tidyStart_49 rfl rfl (q := 50) rfl ?_
  refine z_get dX9_tidyStart_50 fX9_51 (wm _ _ _) rfl (q := 53) rfl ?_
  refine z_iload_n (i := 1) dX9_tidyStart_53 rfl rfl (q := 54) rfl ?_
  refine z_iald dX9_tidyStart_54 (wma_best _ _ _) (zin (by omega) (by decide)) (q := 55) rfl ?_
  rw [nI_clamp (by omega), hF.2.2.2.2 k hk]
  exact z_iret dX9_tidyStart_55 rfl ⟨zle rfl, zle rfl⟩ ⟨Y3, rfl, rfl, hF⟩
set_option maxRecDepth 100000 in
set_option maxHeartbeats 4000000 in
theorem c_X9_tidyStart_out {n nw : Nat} {s : Int32} (hR : rel X Y n nw) (h : s < 0 ∨ nI n ≤ s) {c : Int32} : ZM G mX9_tidyStart 5 0 0 [.ref 77, .int s, .int c] (zw X1 Y O) (mR X1 O (0) (yth Y 1)) := by
  have h4 := rel_4 hR
  have hR0 : rel X (yint Y 0 0) n nw := rel_thr hR 0
  refine ZM.go pX9 rfl rfl (zle rfl) (zl := [some (.ref 77), some (.int s), some (.int c)]) rfl ?_
  refine z_aload_n (i := 0) dX9_tidyStart_0 rfl rfl (q := 1) rfl ?_
  refine z_iconst (v := 0) dX9_tidyStart_1 rfl (q := 2) rfl ?_
  refine z_put dX9_tidyStart_2 fX9_60 (wm _ _ _) (zle rfl) (zfit_int _) (q := 5) rfl ?_
  refine Z.eqw (wmi_thrown _ _ _ _) ?_
  refine z_aload_n (i := 0) dX9_tidyStart_5 rfl rfl (q := 6) rfl ?_
  refine z_aload_n (i := 0) dX9_tidyStart_6 rfl rfl (q := 7) rfl ?_
  refine z_iload_n (i := 1) dX9_tidyStart_7 rfl rfl (q := 8) rfl ?_
  refine z_callVF (As := [_]) dX9_tidyStart_8 kX9_97 (c_X9_noShape_out hR0 h) (wm _ _ _) rfl rfl (zle rfl) ⟨zle rfl, zle rfl⟩ ⟨zle rfl, zle rfl⟩ (q := 11) rfl ?_
  refine z_iconst (v := 1) dX9_tidyStart_11 rfl (q := 12) rfl ?_
  refine z_callVF (As := [_, _]) dX9_tidyStart_12 kX9_89 (c_X9_fails_t rfl (by decide)) (wm _ _ _) rfl rfl (zle rfl) ⟨zle rfl, zle rfl⟩ ⟨zle rfl, zle rfl⟩ (q := 15) rfl ?_
  refine z_if_ne (tgt := 39) dX9_tidyStart_15 (by decide) (q := 18) rfl (fun h15 => ?_) (fun h15 => absurd h15 (by decide))
  refine z_iconst (v := 0) dX9_tidyStart_39 rfl (q := 40) rfl ?_
  exact z_iret dX9_tidyStart_40 rfl ⟨zle rfl, zle rfl⟩ ⟨rfl, rfl⟩
set_option maxRecDepth 100000 in
set_option maxHeartbeats 4000000 in
theorem c_X9_tidyStart_ax {n nw k : Nat} (hR : rel X Y n nw) (hk : k < n) {c : Int32} (h1 : ¬ c = 120) (h2 : ¬ c = 121) : ZM G mX9_tidyStart 5 0 0 [.ref 77, .int (nI k), .int c] (zw X1 Y O) (mR X1 O (0) (yth Y 2)) := by
  have h4 := rel_4 hR
  have hR0 : rel X (yint Y 0 0) n nw := rel_thr hR 0
  refine ZM.go pX9 rfl rfl (zle rfl) (zl := [some (.ref 77), some (.int (nI k)), some (.int c)]) rfl ?_
  refine z_aload_n (i := 0) dX9_tidyStart_0 rfl rfl (q := 1) rfl ?_
  refine z_iconst (v := 0) dX9_tidyStart_1 rfl (q := 2) rfl ?_
  refine z_put dX9_tidyStart_2 fX9_60 (wm _ _ _) (zle rfl) (zfit_int _) (q := 5) rfl ?_
  refine Z.eqw (wmi_thrown _ _ _ _) ?_
  refine z_aload_n (i := 0) dX9_tidyStart_5 rfl rfl (q := 6) rfl ?_
  refine z_aload_n (i := 0) dX9_tidyStart_6 rfl rfl (q := 7) rfl ?_
  refine z_iload_n (i := 1) dX9_tidyStart_7 rfl rfl (q := 8) rfl ?_
  refine z_callVF (As := [_]) dX9_tidyStart_8 kX9_97 (c_X9_noShape_in hR0 hk) (wm _ _ _) rfl rfl (zle rfl) ⟨zle rfl, zle rfl⟩ ⟨zle rfl, zle rfl⟩ (q := 11) rfl ?_
  refine z_iconst (v := 1) dX9_tidyStart_11 rfl (q := 12) rfl ?_
  refine z_callVF (As := [_, _]) dX9_tidyStart_12 kX9_89 (c_X9_fails_f rfl) (wm _ _ _) rfl rfl (zle rfl) ⟨zle rfl, zle rfl⟩ ⟨zle rfl, zle rfl⟩ (q := 15) rfl ?_
  refine z_if_ne (tgt := 39) dX9_tidyStart_15 (by decide) (q := 18) rfl (fun h15 => absurd h15 (by decide)) (fun h15 => ?_)
  refine z_aload_n (i := 0) dX9_tidyStart_18 rfl rfl (q := 19) rfl ?_
  refine z_iload_n (i := 2) dX9_tidyStart_19 rfl rfl (q := 20) rfl ?_
  refine z_callSF (As := [_]) dX9_tidyStart_20 kX9_101 (c_X9_axisOf_no h1 h2) rfl (zle rfl) ⟨zle rfl, zle rfl⟩ ⟨zle rfl, zle rfl⟩ (q := 23) rfl ?_
  refine z_iconst (v := (-1)) dX9_tidyStart_23 rfl (q := 24) rfl ?_
  refine z_icmp_ne (tgt := 31) dX9_tidyStart_24 (by decide) (q := 27) rfl (fun h24 => absurd h24 (by decide)) (fun h24 => ?_)
  refine z_iconst (v := 1) dX9_tidyStart_27 rfl (q := 28) rfl ?_
  refine z_goto (tgt := 32) dX9_tidyStart_28 (by decide) ?_
  refine z_iconst (v := 2) dX9_tidyStart_32 rfl (q := 33) rfl ?_
  refine z_callVF (As := [_, _]) dX9_tidyStart_33 kX9_89 (c_X9_fails_t rfl (by decide)) (wm _ _ _) rfl rfl (zle rfl) ⟨zle rfl, zle rfl⟩ ⟨zle rfl, zle rfl⟩ (q := 36) rfl ?_
  refine z_if_eq (tgt := 41) dX9_tidyStart_36 (by decide) (q := 39) rfl (fun h36 => absurd h36 (by decide)) (fun h36 => ?_)
  refine z_iconst (v := 0) dX9_tidyStart_39 rfl (q := 40) rfl ?_
  exact z_iret dX9_tidyStart_40 rfl ⟨zle rfl, zle rfl⟩ ⟨rfl, rfl⟩
set_option maxRecDepth 100000 in
set_option maxHeartbeats 4000000 in
def mvF (Y : zY) (t i : Nat) (f : Nat → Int32) : Prop := (∀ j, j < i → f (2 * j + t) = Y.1 13 j) ∧ ∀ j, f (2 * j + (1 - t)) = Y.1 0 (2 * j + (1 - t))
set_option maxRecDepth 100000 in
set_option maxHeartbeats 4000000 in
theorem mvF_step {t i : Nat} {f : Nat → Int32} (ht : t < 2) (h : mvF Y t i f) : mvF Y t (i + 1) (upd f (2 * i + t) (Y.1 13 i)) := by
  refine ⟨fun j hj => ?_, fun j => ?_⟩
  · by_cases e : j = i
    · subst e; exact pk_us
    · rw [pk_un (by omega)]; exact h.1 j (by omega)
  · rw [pk_un (by omega)]; exact h.2 j
set_option maxRecDepth 100000 in
set_option maxHeartbeats 4000000 in
theorem z_X9_movesToBest_2 {n nw t : Nat} (hR : rel X Y n nw) (ht : t < 2) : ∀ (m i : Nat) (f : Nat → Int32), i + m = n → mvF Y t i f → Z G mX9_movesToBest (zrm 0 0 0) 0 0 2 [some (.ref 77), some (.int (nI t)), some (.int (nI i))] [] (zw X1 (yarr Y 0 f) O) (fun r w => r = .inl none ∧ ∃ f, w = zw X1 (ymv (yarr Y 0 f) (Y.2.2 + (Y.2.1 3).toInt64)) O ∧ mvF Y t n f) := by
  intro m
  induction m with
  | zero =>
    intro i f hi hf
    have h4 := rel_4 hR
    refine z_iload_n (i := 2) dX9_movesToBest_2 rfl rfl (q := 3) rfl ?_
    refine z_aload_n (i := 0) dX9_movesToBest_3 rfl rfl (q := 4) rfl ?_
    refine z_get dX9_movesToBest_4 fX9_64 (wm _ _ _) rfl (q := 7) rfl ?_
    refine Z.eqst (st2 := [.int (nI n), .int (nI i)]) (congrArg (fun x => [Value.int x, Value.int (nI i)]) hR.1) ?_
    refine z_icmp_ge (tgt := 32) dX9_movesToBest_7 (by decide) (q := 10) rfl (fun h7 => ?_) (fun h7 => absurd (zge_t (by omega)) h7)
    refine z_aload_n (i := 0) dX9_movesToBest_32 rfl rfl (q := 33) rfl ?_
    refine z_dup dX9_movesToBest_33 rfl (q := 34) rfl ?_
    refine z_get dX9_movesToBest_34 fX9_112 (wm _ _ _) rfl (q := 37) rfl ?_
    refine z_aload_n (i := 0) dX9_movesToBest_37 rfl rfl (q := 38) rfl ?_
    refine z_get dX9_movesToBest_38 fX9_163 (wm _ _ _) rfl (q := 41) rfl ?_
    refine z_i2l dX9_movesToBest_41 (q := 42) rfl ?_
    refine z_ladd dX9_movesToBest_42 (q := 43) rfl ?_
    refine z_put dX9_movesToBest_43 fX9_112 (wm _ _ _) (zle rfl) (zfit_long _) (q := 46) rfl ?_
    refine Z.eqw (wmi_moved _ _ _ _) ?_
    exact z_vret dX9_movesToBest_46 rfl ⟨zle rfl, zle rfl⟩ ⟨rfl, f, rfl, by rw [show n = i by omega]; exact hf⟩
  | succ m ih =>
    intro i f hi hf
    have h4 := rel_4 hR
    refine z_iload_n (i := 2) dX9_movesToBest_2 rfl rfl (q := 3) rfl ?_
    refine z_aload_n (i := 0) dX9_movesToBest_3 rfl rfl (q := 4) rfl ?_
    refine z_get dX9_movesToBest_4 fX9_64 (wm _ _ _) rfl (q := 7) rfl ?_
    refine Z.eqst (st2 := [.int (nI n), .int (nI i)]) (congrArg (fun x => [Value.int x, Value.int (nI i)]) hR.1) ?_
    refine z_icmp_ge (tgt := 32) dX9_movesToBest_7 (by decide) (q := 10) rfl (fun h7 => absurd h7 (zge_f (by omega) (by omega))) (fun h7 => ?_)
    refine z_aload_n (i := 0) dX9_movesToBest_10 rfl rfl (q := 11) rfl ?_
    refine z_get dX9_movesToBest_11 fX9_7 (wm _ _ _) rfl (q := 14) rfl ?_
    refine z_iconst (v := 2) dX9_movesToBest_14 rfl (q := 15) rfl ?_
    refine z_iload_n (i := 2) dX9_movesToBest_15 rfl rfl (q := 16) rfl ?_
    refine z_imul dX9_movesToBest_16 (q := 17) rfl ?_
    refine z_iload_n (i := 1) dX9_movesToBest_17 rfl rfl (q := 18) rfl ?_
    refine z_iadd dX9_movesToBest_18 (q := 19) rfl ?_
    rw [ix2]
    refine z_aload_n (i := 0) dX9_movesToBest_19 rfl rfl (q := 20) rfl ?_
    refine z_get dX9_movesToBest_20 fX9_51 (wm _ _ _) rfl (q := 23) rfl ?_
    refine z_iload_n (i := 2) dX9_movesToBest_23 rfl rfl (q := 24) rfl ?_
    refine z_iald dX9_movesToBest_24 (wma_best _ _ _) (zin (by omega) (by decide)) (q := 25) rfl ?_
    rw [nI_clamp (by omega)]
    refine z_iast dX9_movesToBest_25 (wma_start _ _ _) (zin (k := 2 * i + t) (by omega) (by decide)) (q := 26) rfl ?_
    refine Z.eqw (wms_start _ _ _ _) ?_
    rw [nI_clamp (by omega), yarr_yarr, yarr_f]
    refine z_iinc dX9_movesToBest_26 rfl rfl (zle rfl) rfl (q := 29) rfl ?_
    refine z_goto (tgt := 2) dX9_movesToBest_29 (by decide) ?_
    refine Z.eql (zl2 := [some (.ref 77), some (.int (nI t)), some (.int (nI (i + 1)))]) (by first | (rw [← nI_1 i]; done) | (rw [← nI_1 i]; rfl)) ?_
    exact ih (i + 1) _ (by omega) (mvF_step ht hf)
set_option maxRecDepth 100000 in
set_option maxHeartbeats 4000000 in
theorem c_X9_movesToBest {n nw t : Nat} (hR : rel X Y n nw) (ht : t < 2) : ZM G mX9_movesToBest 0 0 0 [.ref 77, .int (nI t)] (zw X1 Y O) (fun r w => r = .inl none ∧ ∃ f, w = zw X1 (ymv (yarr Y 0 f) (Y.2.2 + (Y.2.1 3).toInt64)) O ∧ mvF Y t n f) := by
  refine ZM.go pX9 rfl rfl (zle rfl) (zl := [some (.ref 77), some (.int (nI t)), none]) rfl ?_
  refine z_iconst (v := 0) dX9_movesToBest_0 rfl (q := 1) rfl ?_
  refine z_istore_n (i := 2) dX9_movesToBest_1 rfl (zle rfl) rfl (q := 2) rfl ?_
  refine Z.eqw (w2 := zw X1 (yarr Y 0 (Y.1 0)) O) (by rw [yarr_self]) ?_
  exact z_X9_movesToBest_2 hR ht n 0 _ (by omega) ⟨fun j hj => absurd hj (by omega), fun j => rfl⟩
/- the slides behind a move of all shapes -/
set_option maxRecDepth 100000 in
set_option maxHeartbeats 4000000 in
theorem rel_mv {n nw t c : Nat} {D : Nat → Nat} {X3 : zX} {Y3 : zY} {f : Nat → Int32} (hR : rel X Y n nw) (ht : t < 2) (hk : keepY Y Y3) (hf : mvF Y3 t n f) (hD : ∀ j, j < n → Y3.1 13 j = nI (D j)) (hc : Y3.2.1 3 = nI c) (hm : mvR X t n D c X3) : rel X3 (ymv (yarr Y3 0 f) (Y3.2.2 + (Y3.2.1 3).toInt64)) n nw := by
  have hR3 := rel_kY hR hk
  obtain ⟨h1, h2, h3, h4, h5, h6, h7, h8, h9⟩ := hR3
  obtain ⟨m1, m2, m3, m4⟩ := hm
  refine ⟨h1, h2, fun k hk => ?_, h4, fun w hw => ?_, h6, ?_, h8, h9⟩
  · have h := h3 k hk
    have d := hf.1 k hk
    have e := hf.2 k
    rw [hD k hk] at d
    rcases (show t = 0 ∨ t = 1 by omega) with rfl | rfl
    · refine ⟨?_, ?_, ?_, ?_, ?_, ?_⟩
      · exact (show f (2 * k) = X3.2.1 0 k from (show f (2 * k) = _ from d).trans (m3 k hk).symm)
      · rw [(m1 2 (by decide) (by decide)).2]; exact (show f (2 * k + 1) = _ from e).trans h.2.1
      · rw [(m1 1 (by decide) (by decide)).2]; exact h.2.2.1
      · rw [(m1 3 (by decide) (by decide)).2]; exact h.2.2.2.1
      · rw [(m1 5 (by decide) (by decide)).2]; exact h.2.2.2.2.1
      · rw [(m1 4 (by decide) (by decide)).2]; exact h.2.2.2.2.2
    · refine ⟨?_, ?_, ?_, ?_, ?_, ?_⟩
      · rw [(m1 0 (by decide) (by decide)).2]; exact (show f (2 * k) = _ from e).trans h.1
      · exact (show f (2 * k + 1) = X3.2.1 2 k from (show f (2 * k + 1) = _ from d).trans (m3 k hk).symm)
      · rw [(m1 1 (by decide) (by decide)).2]; exact h.2.2.1
      · rw [(m1 3 (by decide) (by decide)).2]; exact h.2.2.2.1
      · rw [(m1 5 (by decide) (by decide)).2]; exact h.2.2.2.2.1
      · rw [(m1 4 (by decide) (by decide)).2]; exact h.2.2.2.2.2
  · have h := h5 w hw
    rw [(m1 6 (by decide) (by omega)).2, (m1 7 (by decide) (by omega)).2, (m1 8 (by decide) (by omega)).2, (m1 9 (by decide) (by omega)).2, (m1 10 (by decide) (by omega)).2]
    exact h
  · show Y3.2.2 + (Y3.2.1 3).toInt64 = X3.2.2.2
    rw [m4, hc, h7]
set_option maxRecDepth 100000 in
set_option maxHeartbeats 4000000 in
theorem c_X9_tidy {n nw t : Nat} {B : bst} (hI : inv X n nw) (hR : rel X Y n nw) (ht : t < 2) (hB : tdR X t n nw B) : ZM G mX9_tidy 6 0 0 [.ref 77, .int (zch t)] (zw X1 Y O) (fun r w => ∃ Y4, r = .inl (some (.int (nI B.2.1))) ∧ w = zw X1 Y4 O ∧ Y4.2.1 0 = 0 ∧ ∀ X3, mvR X t n B.2.2 B.2.1 X3 → rel X3 Y4 n nw) := by
  refine ZM.go pX9 rfl rfl (zle rfl) (zl := [some (.ref 77), some (.int (zch t))]) rfl ?_
  refine z_aload_n (i := 0) dX9_tidy_0 rfl rfl (q := 1) rfl ?_
  refine z_iload_n (i := 1) dX9_tidy_1 rfl rfl (q := 2) rfl ?_
  refine z_callV (As := [_]) dX9_tidy_2 kX9_192 (c_X9_tidies hI hR ht hB) (wm _ _ _) rfl rfl (zle rfl) ⟨zle rfl, zle rfl⟩ ⟨zle rfl, zle rfl⟩ (q := 5) rfl (fun rv w2 hw2 => ?_) (fun E w2 h9 => by cases h9.1)
  obtain ⟨h9, Y3, rfl, hF⟩ := hw2
  cases h9
  refine z_if_ne (tgt := 10) dX9_tidy_5 (by decide) (q := 8) rfl (fun h5 => ?_) (fun h5 => absurd h5 (by decide))
  refine z_aload_n (i := 0) dX9_tidy_10 rfl rfl (q := 11) rfl ?_
  refine z_iload_n (i := 1) dX9_tidy_11 rfl rfl (q := 12) rfl ?_
  refine z_callSF (As := [_]) dX9_tidy_12 kX9_101 (c_X9_axisOf ht) rfl (zle rfl) ⟨zle rfl, zle rfl⟩ ⟨zle rfl, zle rfl⟩ (q := 15) rfl ?_
  refine z_callV (As := [_]) dX9_tidy_15 kX9_199 (c_X9_movesToBest (rel_kY (rel_thr hR 0) hF.1) ht) (wm _ _ _) rfl rfl (zle rfl) ⟨zle rfl, zle rfl⟩ ⟨zle rfl, zle rfl⟩ (q := 18) rfl (fun rv w2 hw2 => ?_) (fun E w2 h9 => by cases h9.1)
  obtain ⟨h9, f, rfl, hf⟩ := hw2
  cases h9
  refine z_aload_n (i := 0) dX9_tidy_18 rfl rfl (q := 19) rfl ?_
  refine z_get dX9_tidy_19 fX9_163 (wm _ _ _) rfl (q := 22) rfl ?_
  exact z_iret dX9_tidy_22 rfl ⟨zle rfl, zle rfl⟩ ⟨_, by rw [← hF.2.2.2.1]; rfl, rfl, hF.2.1, fun X3 hm => rel_mv (rel_thr hR 0) ht hF.1 hf hF.2.2.2.2 hF.2.2.2.1 hm⟩
set_option maxRecDepth 100000 in
set_option maxHeartbeats 4000000 in
theorem c_X9_tidy_ax {n nw : Nat} {c : Int32} (hR : rel X Y n nw) (h1 : ¬ c = 120) (h2 : ¬ c = 121) : ZM G mX9_tidy 6 0 0 [.ref 77, .int c] (zw X1 Y O) (mR X1 O (0) (yth Y 1)) := by
  refine ZM.go pX9 rfl rfl (zle rfl) (zl := [some (.ref 77), some (.int c)]) rfl ?_
  refine z_aload_n (i := 0) dX9_tidy_0 rfl rfl (q := 1) rfl ?_
  refine z_iload_n (i := 1) dX9_tidy_1 rfl rfl (q := 2) rfl ?_
  refine z_callVF (As := [_]) dX9_tidy_2 kX9_192 (c_X9_tidies_ax hR h1 h2) (wm _ _ _) rfl rfl (zle rfl) ⟨zle rfl, zle rfl⟩ ⟨zle rfl, zle rfl⟩ (q := 5) rfl ?_
  refine z_if_ne (tgt := 10) dX9_tidy_5 (by decide) (q := 8) rfl (fun h5 => absurd h5 (by decide)) (fun h5 => ?_)
  refine z_iconst (v := 0) dX9_tidy_8 rfl (q := 9) rfl ?_
  exact z_iret dX9_tidy_9 rfl ⟨zle rfl, zle rfl⟩ ⟨rfl, rfl⟩
end
