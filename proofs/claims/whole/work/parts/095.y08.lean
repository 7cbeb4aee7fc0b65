section
variable {G : zG} {X X1 : zX} {Y : zY} {O : zO}
set_option maxRecDepth 100000 in
set_option maxHeartbeats 4000000 in
theorem php : ∀ (d c : Nat) (h : Nat → Nat), (∀ j, j < c → h j < d) → (∀ a b, a < b → b < c → h a ≠ h b) → c ≤ d
  | 0, 0, _, _, _ => Nat.le_refl _
  | 0, c + 1, h, h1, _ => absurd (h1 0 (by omega)) (by omega)
  | d + 1, 0, _, _, _ => by omega
  | d + 1, c + 1, h, h1, h2 => by
    have ih := php d c (fun j => if h j = d then h c else h j) (fun j hj => by
      have h3 := h1 j (by omega)
      have h4 := h1 c (by omega)
      have h5 := h2 j c hj (by omega)
      show (if h j = d then h c else h j) < d
      split <;> omega) (fun a b hab hb => by
      have h3 := h2 a c (by omega) (by omega)
      have h4 := h2 b c hb (by omega)
      have h5 := h2 a b hab (by omega)
      show (if h a = d then h c else h a) ≠ (if h b = d then h c else h b)
      split <;> split <;> omega)
    omega
/- a list without doubles, by its values -/
set_option maxRecDepth 100000 in
set_option maxHeartbeats 4000000 in
def dset (f : Nat → Int32) (c : Nat) (p : Int32 → Prop) : Prop := (∀ a b, a < b → b < c → f a ≠ f b) ∧ (∀ j, j < c → p (f j)) ∧ ∀ v, p v → ∃ j, j < c ∧ f j = v
set_option maxRecDepth 100000 in
set_option maxHeartbeats 4000000 in
theorem dset_le {f g : Nat → Int32} {c d : Nat} {p : Int32 → Prop} (h : dset f c p) (h2 : dset g d p) : c ≤ d := by
  have h3 : ∀ i, ∃ j, i < c → j < d ∧ g j = f i := fun i => by
    rcases Nat.lt_or_ge i c with h4 | h4
    · obtain ⟨j, h5, h6⟩ := h2.2.2 (f i) (h.2.1 i h4)
      exact ⟨j, fun _ => ⟨h5, h6⟩⟩
    · exact ⟨0, fun h5 => absurd h5 (by omega)⟩
  refine php d c (fun i => Classical.choose (h3 i)) (fun j hj => (Classical.choose_spec (h3 j) hj).1) (fun a b hab hb e => h.1 a b hab hb ?_)
  have e1 := (Classical.choose_spec (h3 a) (by omega)).2
  have e2 := (Classical.choose_spec (h3 b) hb).2
  rw [← e1, ← e2]
  exact congrArg g e
set_option maxRecDepth 100000 in
set_option maxHeartbeats 4000000 in
theorem slist_dset {f : Nat → Int32} {c : Nat} {p : Int32 → Prop} (h : slist f c p) : dset f c p := ⟨fun a b hab hb e => by
  have h1 := h.1 a b hab hb
  rw [e] at h1
  exact absurd h1 Int32.lt_irrefl, h.2⟩
set_option maxRecDepth 100000 in
set_option maxHeartbeats 4000000 in
theorem dset_iff {f : Nat → Int32} {c : Nat} {p q : Int32 → Prop} (h : dset f c p) (hq : ∀ v, p v ↔ q v) : dset f c q := ⟨h.1, fun j hj => (hq _).mp (h.2.1 j hj), fun v hv => h.2.2 v ((hq v).mpr hv)⟩
set_option maxRecDepth 100000 in
set_option maxHeartbeats 4000000 in
abbrev ysn (Y : zY) (s mm : Nat → Int32) : zY := yarr (yarr Y 9 s) 10 mm
set_option maxRecDepth 100000 in
set_option maxHeartbeats 4000000 in
theorem ysn_ysn (Y : zY) (s mm s2 m2 : Nat → Int32) : ysn (ysn Y s mm) s2 m2 = ysn Y s2 m2 := by
  refine Prod.ext (funext fun j => ?_) rfl
  show (if j = 10 then m2 else if j = 9 then s2 else if j = 10 then mm else if j = 9 then s else Y.1 j) = (if j = 10 then m2 else if j = 9 then s2 else Y.1 j)
  by_cases h : j = 10 <;> by_cases h2 : j = 9 <;> simp [h, h2]
set_option maxRecDepth 100000 in
set_option maxHeartbeats 4000000 in
theorem ysn_self (Y : zY) : ysn Y (Y.1 9) (Y.1 10) = Y := by
  have h : yarr Y 9 (Y.1 9) = Y := yarr_self Y 9
  unfold ysn
  rw [h, yarr_self]
set_option maxRecDepth 100000 in
set_option maxHeartbeats 4000000 in
def snS (s mm : Nat → Int32) (k c : Nat) (p : Int32 → Prop) : Prop := mm k = nI c ∧ dset (fun j => s (10 * k + j)) c p
set_option maxRecDepth 100000 in
set_option maxHeartbeats 4000000 in
def snF (s mm s2 m2 : Nat → Int32) (k : Nat) : Prop := (∀ j, j ≠ k → m2 j = mm j) ∧ ∀ q, ¬ (10 * k ≤ q ∧ q < 10 * k + 10) → s2 q = s q
set_option maxRecDepth 100000 in
set_option maxHeartbeats 4000000 in
theorem snF_refl (s mm : Nat → Int32) (k : Nat) : snF s mm s mm k := ⟨fun _ _ => rfl, fun _ _ => rfl⟩
set_option maxRecDepth 100000 in
set_option maxHeartbeats 4000000 in
theorem snF_trans {s mm s2 m2 s3 m3 : Nat → Int32} {k : Nat} (h : snF s mm s2 m2 k) (h2 : snF s2 m2 s3 m3 k) : snF s mm s3 m3 k := ⟨fun j hj => (h2.1 j hj).trans (h.1 j hj), fun q hq => (h2.2 q hq).trans (h.2 q hq)⟩
set_option maxRecDepth 100000 in
set_option maxHeartbeats 4000000 in
theorem snS_F {s mm s2 m2 : Nat → Int32} {k i c : Nat} {p : Int32 → Prop} (h : snS s mm i c p) (hF : snF s mm s2 m2 k) (hi : i ≠ k) (hc : c ≤ 10) : snS s2 m2 i c p := by
  have e : ∀ j, j < c → s2 (10 * i + j) = s (10 * i + j) := fun j hj => hF.2 _ (by omega)
  refine ⟨(hF.1 i hi).trans h.1, fun a b hab hb => ?_, fun j hj => ?_, fun v hv => ?_⟩
  · show s2 (10 * i + a) ≠ s2 (10 * i + b)
    rw [e a (by omega), e b hb]; exact h.2.1 a b hab hb
  · show p (s2 (10 * i + j))
    rw [e j hj]; exact h.2.2.1 j hj
  · obtain ⟨j, hj, e2⟩ := h.2.2.2 v hv
    exact ⟨j, hj, (e j hj).trans e2⟩
set_option maxRecDepth 100000 in
set_option maxHeartbeats 4000000 in
theorem ix10 (k j : Nat) : 10 * nI k + nI j = nI (10 * k + j) := by rw [show (10 : Int32) = nI 10 from rfl, nI_mul, nI_add]
set_option maxRecDepth 100000 in
set_option maxHeartbeats 4000000 in
theorem dset_old {f : Nat → Int32} {c : Nat} {p : Int32 → Prop} {v : Int32} (h : dset f c p) {j : Nat} (hj : j < c) (e : f j = v) : dset f c (fun w => p w ∨ w = v) :=
  ⟨h.1, fun i hi => Or.inl (h.2.1 i hi), fun w hw => hw.elim (h.2.2 w) (fun e2 => ⟨j, hj, e.trans e2.symm⟩)⟩
set_option maxRecDepth 100000 in
set_option maxHeartbeats 4000000 in
theorem dset_new {f g : Nat → Int32} {c : Nat} {p : Int32 → Prop} {v : Int32} (h : dset f c p) (hn : ∀ j, j < c → f j ≠ v) (hg : ∀ j, j < c → g j = f j) (hv : g c = v) : dset g (c + 1) (fun w => p w ∨ w = v) := by
  refine ⟨fun a b hab hb => ?_, fun j hj => ?_, fun w hw => ?_⟩
  · by_cases e : b = c
    · rw [e, hv, hg a (by omega)]; exact hn a (by omega)
    · rw [hg a (by omega), hg b (by omega)]; exact h.1 a b hab (by omega)
  · by_cases e : j = c
    · rw [e]; exact Or.inr hv
    · show p (g j) ∨ g j = v
      rw [hg j (by omega)]; exact Or.inl (h.2.1 j (by omega))
  · rcases hw with h1 | h1
    · obtain ⟨j, hj, e⟩ := h.2.2 w h1
      exact ⟨j, by omega, (hg j hj).trans e⟩
    · exact ⟨c, by omega, hv.trans h1.symm⟩
/- what addSnap leaves -/
set_option maxRecDepth 100000 in
set_option maxHeartbeats 4000000 in
def adS (s mm s2 m2 : Nat → Int32) (k c : Nat) (v : Int32) : Prop := snF s mm s2 m2 k ∧ ∃ c2, c2 ≤ c + 1 ∧ 1 ≤ c2 ∧ ∀ p, snS s mm k c p → snS s2 m2 k c2 (fun w => p w ∨ w = v)
set_option maxRecDepth 100000 in
set_option maxHeartbeats 4000000 in
theorem adS_old {s mm : Nat → Int32} {k c j : Nat} {v : Int32} (hj : j < c) (e : s (10 * k + j) = v) : adS s mm s mm k c v :=
  ⟨snF_refl s mm k, c, by omega, by omega, fun p h => ⟨h.1, dset_old h.2 hj e⟩⟩
set_option maxRecDepth 100000 in
set_option maxHeartbeats 4000000 in
theorem adS_new {s mm : Nat → Int32} {k c : Nat} {v : Int32} (hc : c ≤ 9) (hn : ∀ j, j < c → s (10 * k + j) ≠ v) : adS s mm (upd s (10 * k + c) v) (upd mm k (nI (c + 1))) k c v := by
  refine ⟨⟨fun j hj => pk_un hj, fun q hq => pk_un (by omega)⟩, c + 1, by omega, by omega, fun p h => ⟨pk_us, ?_⟩⟩
  exact dset_new h.2 hn (fun j hj => pk_un (by omega)) pk_us
set_option maxRecDepth 100000 in
set_option maxHeartbeats 4000000 in
theorem z_X9_addSnap_2 {k c : Nat} {v : Int32} {s mm : Nat → Int32} (hk : k < 4) (hm : mm k = nI c) (hc : c ≤ 9) : ∀ (m i : Nat) , i + m = c → (∀ j2, j2 < i → s (10 * k + j2) ≠ v) → Z G mX9_addSnap (zrm 0 0 0) 0 0 2 [some (.ref 77), some (.int (nI k)), some (.int v), some (.int (nI i))] [] (zw X1 (ysn Y s mm) O) (fun r w => r = .inl none ∧ ∃ s2 m2, w = zw X1 (ysn Y s2 m2) O ∧ adS s mm s2 m2 k c v) := by
  intro m
  induction m with
  | zero =>
    intro i  hi hs
    refine z_iload_n (i := 3) dX9_addSnap_2 rfl rfl (q := 3) rfl ?_
    refine z_aload_n (i := 0) dX9_addSnap_3 rfl rfl (q := 4) rfl ?_
    refine z_get dX9_addSnap_4 fX9_42 (wm _ _ _) rfl (q := 7) rfl ?_
    refine z_iload_n (i := 1) dX9_addSnap_7 rfl rfl (q := 8) rfl ?_
    refine z_iald dX9_addSnap_8 (wma_many _ _ _) (zin (by omega) (by decide)) (q := 9) rfl ?_
    refine Z.eqst (st2 := [.int (nI c), .int (nI i)]) (congrArg (fun x => [Value.int x, Value.int (nI i)]) (show mm (nI k).toNatClampNeg = nI c by rw [nI_clamp (by omega), hm])) ?_
    refine z_icmp_ge (tgt := 34) dX9_addSnap_9 (by decide) (q := 12) rfl (fun h9 => ?_) (fun h9 => absurd (zge_t (by omega)) h9)
    refine z_aload_n (i := 0) dX9_addSnap_34 rfl rfl (q := 35) rfl ?_
    refine z_get dX9_addSnap_35 fX9_39 (wm _ _ _) rfl (q := 38) rfl ?_
    refine z_bipush (v := 10) dX9_addSnap_38 rfl (q := 40) rfl ?_
    refine z_iload_n (i := 1) dX9_addSnap_40 rfl rfl (q := 41) rfl ?_
    refine z_imul dX9_addSnap_41 (q := 42) rfl ?_
    refine z_aload_n (i := 0) dX9_addSnap_42 rfl rfl (q := 43) rfl ?_
    refine z_get dX9_addSnap_43 fX9_42 (wm _ _ _) rfl (q := 46) rfl ?_
    refine z_iload_n (i := 1) dX9_addSnap_46 rfl rfl (q := 47) rfl ?_
    refine z_iald dX9_addSnap_47 (wma_many _ _ _) (zin (by omega) (by decide)) (q := 48) rfl ?_
    refine z_iadd dX9_addSnap_48 (q := 49) rfl ?_
    refine z_iload_n (i := 2) dX9_addSnap_49 rfl rfl (q := 50) rfl ?_
    refine Z.eqst (st2 := [.int v, .int (nI (10 * k + c)), .ref 87]) (congrArg (fun x => [Value.int v, Value.int (10 * nI k + x), Value.ref 87]) (show mm (nI k).toNatClampNeg = nI c by rw [nI_clamp (by omega), hm]) |>.trans (by rw [ix10])) ?_
    refine z_iast dX9_addSnap_50 (wma_snap _ _ _) (zin (k := 10 * k + c) (by omega) (by decide)) (q := 51) rfl ?_
    refine Z.eqw (wms_snap _ _ _ _) ?_
    rw [nI_clamp (by omega)]
    refine z_aload_n (i := 0) dX9_addSnap_51 rfl rfl (q := 52) rfl ?_
    refine z_get dX9_addSnap_52 fX9_42 (wm _ _ _) rfl (q := 55) rfl ?_
    refine z_iload_n (i := 1) dX9_addSnap_55 rfl rfl (q := 56) rfl ?_
    refine z_dup2 dX9_addSnap_56 rfl rfl (q := 57) rfl ?_
    refine z_iald dX9_addSnap_57 (wma_many _ _ _) (zin (by omega) (by decide)) (q := 58) rfl ?_
    refine z_iconst (v := 1) dX9_addSnap_58 rfl (q := 59) rfl ?_
    refine z_iadd dX9_addSnap_59 (q := 60) rfl ?_
    refine Z.eqst (st2 := [.int (nI (c + 1)), .int (nI k), .ref 88]) (congrArg (fun x => [Value.int (x + 1), Value.int (nI k), Value.ref 88]) (show mm (nI k).toNatClampNeg = nI c by rw [nI_clamp (by omega), hm]) |>.trans (by rw [nI_1])) ?_
    refine z_iast dX9_addSnap_60 (wma_many _ _ _) (zin (by omega) (by decide)) (q := 61) rfl ?_
    refine Z.eqw (wms_many _ _ _ _) ?_
    rw [nI_clamp (by omega)]
    refine Z.eqw (w2 := zw X1 (ysn Y (upd s (10 * k + c) v) (upd mm k (nI (c + 1)))) O) (congrArg (fun y => zw X1 y O) (ysn_ysn Y s mm _ _)) ?_
    exact z_vret dX9_addSnap_61 rfl ⟨zle rfl, zle rfl⟩ ⟨rfl, _, _, rfl, adS_new hc (fun j2 hj2 => hs j2 (by omega))⟩
  | succ m ih =>
    intro i  hi hs
    refine z_iload_n (i := 3) dX9_addSnap_2 rfl rfl (q := 3) rfl ?_
    refine z_aload_n (i := 0) dX9_addSnap_3 rfl rfl (q := 4) rfl ?_
    refine z_get dX9_addSnap_4 fX9_42 (wm _ _ _) rfl (q := 7) rfl ?_
    refine z_iload_n (i := 1) dX9_addSnap_7 rfl rfl (q := 8) rfl ?_
    refine z_iald dX9_addSnap_8 (wma_many _ _ _) (zin (by omega) (by decide)) (q := 9) rfl ?_
    refine Z.eqst (st2 := [.int (nI c), .int (nI i)]) (congrArg (fun x => [Value.int x, Value.int (nI i)]) (show mm (nI k).toNatClampNeg = nI c by rw [nI_clamp (by omega), hm])) ?_
    refine z_icmp_ge (tgt := 34) dX9_addSnap_9 (by decide) (q := 12) rfl (fun h9 => absurd h9 (zge_f (by omega) (by omega))) (fun h9 => ?_)
    refine z_aload_n (i := 0) dX9_addSnap_12 rfl rfl (q := 13) rfl ?_
    refine z_get dX9_addSnap_13 fX9_39 (wm _ _ _) rfl (q := 16) rfl ?_
    refine z_bipush (v := 10) dX9_addSnap_16 rfl (q := 18) rfl ?_
    refine z_iload_n (i := 1) dX9_addSnap_18 rfl rfl (q := 19) rfl ?_
    refine z_imul dX9_addSnap_19 (q := 20) rfl ?_
    refine z_iload_n (i := 3) dX9_addSnap_20 rfl rfl (q := 21) rfl ?_
    refine z_iadd dX9_addSnap_21 (q := 22) rfl ?_
    rw [ix10]
    refine z_iald dX9_addSnap_22 (wma_snap _ _ _) (zin (k := 10 * k + i) (by omega) (by decide)) (q := 23) rfl ?_
    rw [nI_clamp (by omega)]
    refine z_iload_n (i := 2) dX9_addSnap_23 rfl rfl (q := 24) rfl ?_
    refine z_icmp_ne (tgt := 28) dX9_addSnap_24 (by decide) (q := 27) rfl (fun h24 => ?_) (fun h24 => ?_)
    · refine z_iinc dX9_addSnap_28 rfl rfl (zle rfl) rfl (q := 31) rfl ?_
      refine z_goto (tgt := 2) dX9_addSnap_31 (by decide) ?_
      refine Z.eql (zl2 := [some (.ref 77), some (.int (nI k)), some (.int v), some (.int (nI (i + 1)))]) (by first | (rw [← nI_1 i]; done) | (rw [← nI_1 i]; rfl)) ?_
      refine ih (i + 1) (by omega) (fun j2 hj2 => ?_)
      by_cases e : j2 = i
      · rw [e]; exact h24
      · exact hs j2 (by omega)
    · exact z_vret dX9_addSnap_27 rfl ⟨zle rfl, zle rfl⟩ ⟨rfl, s, mm, rfl, adS_old (j := i) (by omega) h24⟩
set_option maxRecDepth 100000 in
set_option maxHeartbeats 4000000 in
theorem c_X9_addSnap {k c : Nat} {v : Int32} {s mm : Nat → Int32} (hk : k < 4) (hm : mm k = nI c) (hc : c ≤ 9) : ZM G mX9_addSnap 0 0 0 [.ref 77, .int (nI k), .int v] (zw X1 (ysn Y s mm) O) (fun r w => r = .inl none ∧ ∃ s2 m2, w = zw X1 (ysn Y s2 m2) O ∧ adS s mm s2 m2 k c v) := by
  refine ZM.go pX9 rfl rfl (zle rfl) (zl := [some (.ref 77), some (.int (nI k)), some (.int v), none]) rfl ?_
  refine z_iconst (v := 0) dX9_addSnap_0 rfl (q := 1) rfl ?_
  refine z_istore_n (i := 3) dX9_addSnap_1 rfl (zle rfl) rfl (q := 2) rfl ?_
  exact z_X9_addSnap_2 hk hm hc c 0 (by omega) (fun j2 h9 => absurd h9 (by omega))
set_option maxRecDepth 100000 in
set_option maxHeartbeats 4000000 in
theorem half0 : ∀ c, c < 1001 → (2 * nI c) - (2 * nI c) / 2 * 2 = 0 ∧ (2 * nI c) / 2 = nI c ∧ (2 * (- nI c)) - (2 * (- nI c)) / 2 * 2 = 0 ∧ (2 * (- nI c)) / 2 = - nI c := by decide +kernel
set_option maxRecDepth 100000 in
set_option maxHeartbeats 4000000 in
theorem half_sub {a b : Nat} (ha : a ≤ 1000) (hb : b ≤ 1000) : (2 * (nI a - nI b)) - (2 * (nI a - nI b)) / 2 * 2 = 0 ∧ (2 * (nI a - nI b)) / 2 = nI a - nI b := by
  rcases Nat.le_total b a with h | h
  · rw [nI_sub h]
    have h1 := half0 (a - b) (by omega)
    exact ⟨h1.1, h1.2.1⟩
  · have e : nI a - nI b = - nI (b - a) := by rw [← nI_sub h, Int32.neg_sub]
    rw [e]
    have h1 := half0 (b - a) (by omega)
    exact ⟨h1.2.2.1, h1.2.2.2⟩
/- the three snaps at a shape, as the reference has them -/
set_option maxRecDepth 100000 in
set_option maxHeartbeats 4000000 in
def snT (s0 z0 zk v : Int32) : Prop := v = s0 ∨ v = s0 + z0 - zk ∨ (2 * s0 + z0 - zk) - (2 * s0 + z0 - zk) / 2 * 2 = 0 ∧ v = (2 * s0 + z0 - zk) / 2
set_option maxRecDepth 100000 in
set_option maxHeartbeats 4000000 in
theorem add_sub3 (a b c : Int32) : a + b - c = a + (b - c) := by
  rw [Int32.sub_eq_add_neg, Int32.sub_eq_add_neg, Int32.add_assoc]
set_option maxRecDepth 100000 in
set_option maxHeartbeats 4000000 in
theorem snT_iff {a b c : Nat} (ha : a ≤ 400) (hb : b ≤ 400) (hc : c ≤ 400) (v : Int32) : snT (nI a) (nI b) (nI c) v ↔ ∃ d, d < 3 ∧ snOk (nI a) (nI b) (nI c) d v := by
  have e0 : 2 * nI a + nI 0 * (nI b - nI c) = 2 * (nI a - nI 0) := by
    rw [show nI 0 = 0 from rfl, Int32.zero_mul, Int32.add_zero, Int32.sub_zero]
  have e1 : 2 * nI a + nI 1 * (nI b - nI c) = 2 * nI a + nI b - nI c := by
    rw [show nI 1 = 1 from rfl, Int32.one_mul, add_sub3]
  have e2 : 2 * nI a + nI 2 * (nI b - nI c) = 2 * (nI (a + b) - nI c) := by
    rw [← nI_add, add_sub3, show nI 2 = 2 from rfl, Int32.mul_add]
  have h0 := half_sub (a := a) (b := 0) (by omega) (by omega)
  have h2 := half_sub (a := a + b) (b := c) (by omega) (by omega)
  have ea : nI a - nI 0 = nI a := by rw [show nI 0 = 0 from rfl, Int32.sub_zero]
  constructor
  · rintro (h | h | h)
    · refine ⟨0, by omega, ?_⟩
      unfold snOk; rw [e0]; exact ⟨h0.1, by rw [h0.2, ea]; exact h⟩
    · refine ⟨2, by omega, ?_⟩
      unfold snOk; rw [e2]; exact ⟨h2.1, by rw [h2.2, ← nI_add]; exact h⟩
    · refine ⟨1, by omega, ?_⟩
      unfold snOk; rw [e1]; exact h
  · rintro ⟨d, hd, h⟩
    rcases (show d = 0 ∨ d = 1 ∨ d = 2 by omega) with rfl | rfl | rfl
    · unfold snOk at h; rw [e0] at h; exact Or.inl (by rw [h.2, h0.2, ea])
    · unfold snOk at h; rw [e1] at h; exact Or.inr (Or.inr h)
    · unfold snOk at h; rw [e2] at h; exact Or.inr (Or.inl (by rw [h.2, h2.2, ← nI_add]))
/- the snaps of k at the shapes below i -/
set_option maxRecDepth 100000 in
set_option maxHeartbeats 4000000 in
def isS (X : zX) (t k i : Nat) (v : Int32) : Prop := v = X.2.1 (2 * t) k ∨ ∃ j, j < i ∧ j ≠ k ∧ snT (X.2.1 (2 * t) j) (X.2.1 (2 * t + 1) j) (X.2.1 (2 * t + 1) k) v
set_option maxRecDepth 100000 in
set_option maxHeartbeats 4000000 in
theorem isS_all {n nw t k : Nat} (hI : inv X n nw) (ht : t < 2) (hk : k < n) (v : Int32) : isS X t k n v ↔ isSnap (X.2.1 (2 * t)) (X.2.1 (2 * t + 1)) n k v := by
  have h : ∀ j, j < n → (snT (X.2.1 (2 * t) j) (X.2.1 (2 * t + 1) j) (X.2.1 (2 * t + 1) k) v ↔ ∃ d, d < 3 ∧ snOk (X.2.1 (2 * t) j) (X.2.1 (2 * t + 1) j) (X.2.1 (2 * t + 1) k) d v) := fun j hj => by
    have a1 := inv_axis hI ht hj
    have a2 := inv_axis hI ht hk
    rw [a1.1.1, a1.2.1, a2.2.1]
    exact snT_iff (by have := a1.1.2; omega) (by have := a1.2.2; omega) (by have := a2.2.2; omega) v
  unfold isS isSnap
  constructor
  · rintro (h1 | ⟨j, h1, h2, h3⟩)
    · exact Or.inl h1
    · exact Or.inr ⟨j, h1, h2, (h j h1).mp h3⟩
  · rintro (h1 | ⟨j, h1, h2, h3⟩)
    · exact Or.inl h1
    · exact Or.inr ⟨j, h1, h2, (h j h1).mpr h3⟩
set_option maxRecDepth 100000 in
set_option maxHeartbeats 4000000 in
theorem isS_skip {t k : Nat} (v : Int32) : isS X t k k v ↔ isS X t k (k + 1) v := by
  unfold isS
  constructor
  · rintro (h1 | ⟨j, h1, h2, h3⟩)
    · exact Or.inl h1
    · exact Or.inr ⟨j, by omega, h2, h3⟩
  · rintro (h1 | ⟨j, h1, h2, h3⟩)
    · exact Or.inl h1
    · exact Or.inr ⟨j, by omega, h2, h3⟩
set_option maxRecDepth 100000 in
set_option maxHeartbeats 4000000 in
theorem isS_add {t k i : Nat} (hik : i ≠ k) (v : Int32) : (isS X t k i v ∨ snT (X.2.1 (2 * t) i) (X.2.1 (2 * t + 1) i) (X.2.1 (2 * t + 1) k) v) ↔ isS X t k (i + 1) v := by
  unfold isS
  constructor
  · rintro ((h1 | ⟨j, h1, h2, h3⟩) | h)
    · exact Or.inl h1
    · exact Or.inr ⟨j, by omega, h2, h3⟩
    · exact Or.inr ⟨i, by omega, hik, h⟩
  · rintro (h1 | ⟨j, h1, h2, h3⟩)
    · exact Or.inl (Or.inl h1)
    · by_cases e : j = i
      · subst e; exact Or.inr h3
      · exact Or.inl (Or.inr ⟨j, by omega, h2, h3⟩)
/- the state of a search for snaps of k, the shapes below i seen -/
set_option maxRecDepth 100000 in
set_option maxHeartbeats 4000000 in
def snJ (X : zX) (t k i : Nat) (s mm : Nat → Int32) : Prop := ∃ c, c + (if k < i then 3 else 0) ≤ 1 + 3 * i ∧ 1 ≤ c ∧ snS s mm k c (isS X t k i)
set_option maxRecDepth 100000 in
set_option maxHeartbeats 4000000 in
def snK (X : zX) (t n k : Nat) (s mm : Nat → Int32) : Prop := ∃ c, c ≤ 10 ∧ 1 ≤ c ∧ snS s mm k c (isSnap (X.2.1 (2 * t)) (X.2.1 (2 * t + 1)) n k)
set_option maxRecDepth 100000 in
set_option maxHeartbeats 4000000 in
theorem snK_F {t n k i : Nat} {s mm s2 m2 : Nat → Int32} (h : snK X t n i s mm) (hF : snF s mm s2 m2 k) (hi : i ≠ k) : snK X t n i s2 m2 := by
  obtain ⟨c, h1, h2, h3⟩ := h
  exact ⟨c, h1, h2, snS_F h3 hF hi h1⟩
set_option maxRecDepth 100000 in
set_option maxHeartbeats 4000000 in
theorem snJ_step {t k i c : Nat} {s mm s1 m1 s2 m2 s3 m3 : Nat → Int32} (hik : i ≠ k) (hc : c + (if k < i then 3 else 0) ≤ 1 + 3 * i) (hS : snS s mm k c (isS X t k i)) {c1 c2 c3 : Nat}
    (h1 : c1 ≤ c + 1) (g1 : snS s1 m1 k c1 (fun w => isS X t k i w ∨ w = X.2.1 (2 * t) i)) (h2 : c2 ≤ c1 + 1) (g2 : snS s2 m2 k c2 (fun w => (isS X t k i w ∨ w = X.2.1 (2 * t) i) ∨ w = X.2.1 (2 * t) i + X.2.1 (2 * t + 1) i - X.2.1 (2 * t + 1) k)) (h3 : c3 ≤ c2 + 1) (b3 : 1 ≤ c3)
    (g3 : snS s3 m3 k c3 (fun w => ((isS X t k i w ∨ w = X.2.1 (2 * t) i) ∨ w = X.2.1 (2 * t) i + X.2.1 (2 * t + 1) i - X.2.1 (2 * t + 1) k) ∨ ((2 * X.2.1 (2 * t) i + X.2.1 (2 * t + 1) i - X.2.1 (2 * t + 1) k) - (2 * X.2.1 (2 * t) i + X.2.1 (2 * t + 1) i - X.2.1 (2 * t + 1) k) / 2 * 2 = 0 ∧ w = (2 * X.2.1 (2 * t) i + X.2.1 (2 * t + 1) i - X.2.1 (2 * t + 1) k) / 2))) : snJ X t k (i + 1) s3 m3 := by
  refine ⟨c3, ?_, b3, g3.1, dset_iff g3.2 fun v => ?_⟩
  · by_cases e : k < i
    · rw [if_pos (by omega)]; rw [if_pos e] at hc; omega
    · rw [if_neg (by omega)]; rw [if_neg e] at hc; omega
  · rw [← isS_add hik]
    unfold snT
    constructor
    · rintro (((h | h) | h) | h)
      · exact Or.inl h
      · exact Or.inr (Or.inl h)
      · exact Or.inr (Or.inr (Or.inl h))
      · exact Or.inr (Or.inr (Or.inr h))
    · rintro (h | h | h | h)
      · exact Or.inl (Or.inl (Or.inl h))
      · exact Or.inl (Or.inl (Or.inr h))
      · exact Or.inl (Or.inr h)
      · exact Or.inr h
set_option maxRecDepth 100000 in
set_option maxHeartbeats 4000000 in
theorem snS_or {s mm : Nat → Int32} {k c : Nat} {p : Int32 → Prop} {q : Prop} {v : Int32} (h : snS s mm k c p) (hq : ¬ q) : snS s mm k c (fun w => p w ∨ (q ∧ w = v)) := ⟨h.1, dset_iff h.2 fun w => ⟨Or.inl, fun h9 => h9.elim id (fun h8 => absurd h8.1 hq)⟩⟩
set_option maxRecDepth 100000 in
set_option maxHeartbeats 4000000 in
theorem snS_and {s mm : Nat → Int32} {k c : Nat} {p : Int32 → Prop} {q : Prop} {v : Int32} (h : snS s mm k c (fun w => p w ∨ w = v)) (hq : q) : snS s mm k c (fun w => p w ∨ (q ∧ w = v)) := ⟨h.1, dset_iff h.2 fun w => ⟨fun h9 => h9.imp id (fun h8 => ⟨hq, h8⟩), fun h9 => h9.imp id (fun h8 => h8.2)⟩⟩
set_option maxRecDepth 100000 in
set_option maxHeartbeats 4000000 in
theorem z_X9_findSnaps_30 {n nw t k : Nat} {s0 m0 : Nat → Int32} {P : zRes → zWorld → Prop} (hR : rel X Y n nw) (ht : t < 2) (hk : k < n) : ∀ (m i : Nat) (s mm : Nat → Int32) (e4 : Option Value), i + m = n → snF s0 m0 s mm k → snJ X t k i s mm → (∀ (s2 m2 : Nat → Int32) (e4 : Option Value), snF s0 m0 s2 m2 k → snJ X t k n s2 m2 → Z G mX9_findSnaps (zrm 1 0 0) 0 0 125 [some (.ref 77), some (.int (nI t)), some (.int (nI k)), some (.int (nI n)), e4] [] (zw X1 (ysn Y s2 m2) O) P) → Z G mX9_findSnaps (zrm 1 0 0) 0 0 30 [some (.ref 77), some (.int (nI t)), some (.int (nI k)), some (.int (nI i)), e4] [] (zw X1 (ysn Y s mm) O) P := by
  have h4 := rel_4 hR
  intro m
  induction m with
  | zero =>
    intro i s mm e4 hi hF hJ hx
    refine z_iload_n (i := 3) dX9_findSnaps_30 rfl rfl (q := 31) rfl ?_
    refine z_aload_n (i := 0) dX9_findSnaps_31 rfl rfl (q := 32) rfl ?_
    refine z_get dX9_findSnaps_32 fX9_64 (wm _ _ _) rfl (q := 35) rfl ?_
    refine Z.eqst (st2 := [.int (nI n), .int (nI i)]) (congrArg (fun x => [Value.int x, Value.int (nI i)]) hR.1) ?_
    refine z_icmp_ge (tgt := 125) dX9_findSnaps_35 (by decide) (q := 38) rfl (fun h35 => ?_) (fun h35 => absurd (zge_t (by omega)) h35)
    rw [show i = n by omega] at hJ ⊢
    exact hx s mm e4 hF hJ
  | succ m ih =>
    intro i s mm e4 hi hF hJ hx
    refine z_iload_n (i := 3) dX9_findSnaps_30 rfl rfl (q := 31) rfl ?_
    refine z_aload_n (i := 0) dX9_findSnaps_31 rfl rfl (q := 32) rfl ?_
    refine z_get dX9_findSnaps_32 fX9_64 (wm _ _ _) rfl (q := 35) rfl ?_
    refine Z.eqst (st2 := [.int (nI n), .int (nI i)]) (congrArg (fun x => [Value.int x, Value.int (nI i)]) hR.1) ?_
    refine z_icmp_ge (tgt := 125) dX9_findSnaps_35 (by decide) (q := 38) rfl (fun h35 => absurd h35 (zge_f (by omega) (by omega))) (fun h35 => ?_)
    refine z_iload_n (i := 3) dX9_findSnaps_38 rfl rfl (q := 39) rfl ?_
    refine z_iload_n (i := 2) dX9_findSnaps_39 rfl rfl (q := 40) rfl ?_
    refine z_icmp_eq (tgt := 119) dX9_findSnaps_40 (by decide) (q := 43) rfl (fun h40 => ?_) (fun h40 => ?_)
    · refine z_iinc dX9_findSnaps_119 rfl rfl (zle rfl) rfl (q := 122) rfl ?_
      refine z_goto (tgt := 30) dX9_findSnaps_122 (by decide) ?_
      have hik : i = k := (nI_eq (by omega) (by omega)).mp h40
      refine Z.eql (zl2 := [some (.ref 77), some (.int (nI t)), some (.int (nI k)), some (.int (nI (i + 1))), _]) (by first | (rw [← nI_1 i]; done) | (rw [← nI_1 i]; rfl)) ?_
      obtain ⟨c, hc1, hc2, hc3⟩ := hJ
      exact ih (i + 1) s mm _ (by omega) hF ⟨c, by rw [if_pos (by omega)]; rw [if_neg (by omega)] at hc1; omega, hc2, hc3.1, dset_iff hc3.2 fun v => by rw [hik]; exact isS_skip v⟩ hx
    · have hik : i ≠ k := fun h9 => h40 (by rw [h9])
      obtain ⟨c, hc1, hc2, hc3⟩ := hJ
      have hcb : c ≤ 7 := by
        by_cases e : k < i
        · rw [if_pos e] at hc1; omega
        · rw [if_neg e] at hc1; omega
      refine z_iconst (v := 2) dX9_findSnaps_43 rfl (q := 44) rfl ?_
      refine z_aload_n (i := 0) dX9_findSnaps_44 rfl rfl (q := 45) rfl ?_
      refine z_iload_n (i := 3) dX9_findSnaps_45 rfl rfl (q := 46) rfl ?_
      refine z_iload_n (i := 1) dX9_findSnaps_46 rfl rfl (q := 47) rfl ?_
      refine z_callVF (As := [_, _]) dX9_findSnaps_47 kX9_75 (c_X9_at (rel_arr (rel_arr hR (by decide) s) (by decide) mm) (by omega) ht) (wm _ _ _) rfl rfl (zle rfl) ⟨zle rfl, zle rfl⟩ ⟨zle rfl, zle rfl⟩ (q := 50) rfl ?_
      refine z_imul dX9_findSnaps_50 (q := 51) rfl ?_
      refine z_aload_n (i := 0) dX9_findSnaps_51 rfl rfl (q := 52) rfl ?_
      refine z_iload_n (i := 3) dX9_findSnaps_52 rfl rfl (q := 53) rfl ?_
      refine z_iload_n (i := 1) dX9_findSnaps_53 rfl rfl (q := 54) rfl ?_
      refine z_callVF (As := [_, _]) dX9_findSnaps_54 kX9_79 (c_X9_sizeAt (rel_arr (rel_arr hR (by decide) s) (by decide) mm) (by omega) ht) (wm _ _ _) rfl rfl (zle rfl) ⟨zle rfl, zle rfl⟩ ⟨zle rfl, zle rfl⟩ (q := 57) rfl ?_
      refine z_iadd dX9_findSnaps_57 (q := 58) rfl ?_
      refine z_aload_n (i := 0) dX9_findSnaps_58 rfl rfl (q := 59) rfl ?_
      refine z_iload_n (i := 2) dX9_findSnaps_59 rfl rfl (q := 60) rfl ?_
      refine z_iload_n (i := 1) dX9_findSnaps_60 rfl rfl (q := 61) rfl ?_
      refine z_callVF (As := [_, _]) dX9_findSnaps_61 kX9_79 (c_X9_sizeAt (rel_arr (rel_arr hR (by decide) s) (by decide) mm) hk ht) (wm _ _ _) rfl rfl (zle rfl) ⟨zle rfl, zle rfl⟩ ⟨zle rfl, zle rfl⟩ (q := 64) rfl ?_
      refine z_isub dX9_findSnaps_64 (q := 65) rfl ?_
      refine z_istore dX9_findSnaps_65 (zle rfl) rfl (q := 67) rfl ?_
      refine z_aload_n (i := 0) dX9_findSnaps_67 rfl rfl (q := 68) rfl ?_
      refine z_iload_n (i := 2) dX9_findSnaps_68 rfl rfl (q := 69) rfl ?_
      refine z_aload_n (i := 0) dX9_findSnaps_69 rfl rfl (q := 70) rfl ?_
      refine z_iload_n (i := 3) dX9_findSnaps_70 rfl rfl (q := 71) rfl ?_
      refine z_iload_n (i := 1) dX9_findSnaps_71 rfl rfl (q := 72) rfl ?_
      refine z_callVF (As := [_, _]) dX9_findSnaps_72 kX9_75 (c_X9_at (rel_arr (rel_arr hR (by decide) s) (by decide) mm) (by omega) ht) (wm _ _ _) rfl rfl (zle rfl) ⟨zle rfl, zle rfl⟩ ⟨zle rfl, zle rfl⟩ (q := 75) rfl ?_
      refine z_callV (As := [_, _]) dX9_findSnaps_75 kX9_152 (c_X9_addSnap (k := k) (c := c) (s := s) (mm := mm) (by omega) hc3.1 (by omega)) (wm _ _ _) rfl rfl (zle rfl) ⟨zle rfl, zle rfl⟩ ⟨zle rfl, zle rfl⟩ (q := 78) rfl (fun rv w2 hw2 => ?_) (fun E w2 h9 => by cases h9.1)
      obtain ⟨h9, s1, m1, rfl, F1, c1, hb1, hd1, g1⟩ := hw2
      cases h9
      replace g1 := g1 _ hc3
      refine z_aload_n (i := 0) dX9_findSnaps_78 rfl rfl (q := 79) rfl ?_
      refine z_iload_n (i := 2) dX9_findSnaps_79 rfl rfl (q := 80) rfl ?_
      refine z_aload_n (i := 0) dX9_findSnaps_80 rfl rfl (q := 81) rfl ?_
      refine z_iload_n (i := 3) dX9_findSnaps_81 rfl rfl (q := 82) rfl ?_
      refine z_iload_n (i := 1) dX9_findSnaps_82 rfl rfl (q := 83) rfl ?_
      refine z_callVF (As := [_, _]) dX9_findSnaps_83 kX9_75 (c_X9_at (rel_arr (rel_arr hR (by decide) s1) (by decide) m1) (by omega) ht) (wm _ _ _) rfl rfl (zle rfl) ⟨zle rfl, zle rfl⟩ ⟨zle rfl, zle rfl⟩ (q := 86) rfl ?_
      refine z_aload_n (i := 0) dX9_findSnaps_86 rfl rfl (q := 87) rfl ?_
      refine z_iload_n (i := 3) dX9_findSnaps_87 rfl rfl (q := 88) rfl ?_
      refine z_iload_n (i := 1) dX9_findSnaps_88 rfl rfl (q := 89) rfl ?_
      refine z_callVF (As := [_, _]) dX9_findSnaps_89 kX9_79 (c_X9_sizeAt (rel_arr (rel_arr hR (by decide) s1) (by decide) m1) (by omega) ht) (wm _ _ _) rfl rfl (zle rfl) ⟨zle rfl, zle rfl⟩ ⟨zle rfl, zle rfl⟩ (q := 92) rfl ?_
      refine z_iadd dX9_findSnaps_92 (q := 93) rfl ?_
      refine z_aload_n (i := 0) dX9_findSnaps_93 rfl rfl (q := 94) rfl ?_
      refine z_iload_n (i := 2) dX9_findSnaps_94 rfl rfl (q := 95) rfl ?_
      refine z_iload_n (i := 1) dX9_findSnaps_95 rfl rfl (q := 96) rfl ?_
      refine z_callVF (As := [_, _]) dX9_findSnaps_96 kX9_79 (c_X9_sizeAt (rel_arr (rel_arr hR (by decide) s1) (by decide) m1) hk ht) (wm _ _ _) rfl rfl (zle rfl) ⟨zle rfl, zle rfl⟩ ⟨zle rfl, zle rfl⟩ (q := 99) rfl ?_
      refine z_isub dX9_findSnaps_99 (q := 100) rfl ?_
      refine z_callV (As := [_, _]) dX9_findSnaps_100 kX9_152 (c_X9_addSnap (k := k) (c := c1) (s := s1) (mm := m1) (by omega) g1.1 (by omega)) (wm _ _ _) rfl rfl (zle rfl) ⟨zle rfl, zle rfl⟩ ⟨zle rfl, zle rfl⟩ (q := 103) rfl (fun rv w2 hw2 => ?_) (fun E w2 h9 => by cases h9.1)
      obtain ⟨h9, s2, m2, rfl, F2, c2, hb2, hd2, g2⟩ := hw2
      cases h9
      replace g2 := g2 _ g1
      refine z_iload dX9_findSnaps_103 rfl (q := 105) rfl ?_
      refine z_iconst (v := 2) dX9_findSnaps_105 rfl (q := 106) rfl ?_
      refine z_irem dX9_findSnaps_106 (by decide) (q := 107) rfl ?_
      refine z_if_ne (tgt := 119) dX9_findSnaps_107 (by decide) (q := 110) rfl (fun h107 => ?_) (fun h107 => ?_)
      · refine z_iinc dX9_findSnaps_119 rfl rfl (zle rfl) rfl (q := 122) rfl ?_
        refine z_goto (tgt := 30) dX9_findSnaps_122 (by decide) ?_
        refine Z.eql (zl2 := [some (.ref 77), some (.int (nI t)), some (.int (nI k)), some (.int (nI (i + 1))), _]) (by first | (rw [← nI_1 i]; done) | (rw [← nI_1 i]; rfl)) ?_
        exact ih (i + 1) s2 m2 _ (by omega) (snF_trans hF (snF_trans F1 F2)) (snJ_step hik hc1 hc3 hb1 g1 hb2 g2 (Nat.le_succ _) hd2 (snS_or g2 h107)) hx
      · refine z_aload_n (i := 0) dX9_findSnaps_110 rfl rfl (q := 111) rfl ?_
        refine z_iload_n (i := 2) dX9_findSnaps_111 rfl rfl (q := 112) rfl ?_
        refine z_iload dX9_findSnaps_112 rfl (q := 114) rfl ?_
        refine z_iconst (v := 2) dX9_findSnaps_114 rfl (q := 115) rfl ?_
        refine z_idiv dX9_findSnaps_115 (by decide) (q := 116) rfl ?_
        refine z_callV (As := [_, _]) dX9_findSnaps_116 kX9_152 (c_X9_addSnap (k := k) (c := c2) (s := s2) (mm := m2) (by omega) g2.1 (by omega)) (wm _ _ _) rfl rfl (zle rfl) ⟨zle rfl, zle rfl⟩ ⟨zle rfl, zle rfl⟩ (q := 119) rfl (fun rv w2 hw2 => ?_) (fun E w2 h9 => by cases h9.1)
        obtain ⟨h9, s3, m3, rfl, F3, c3, hb3, hd3, g3⟩ := hw2
        cases h9
        replace g3 := g3 _ g2
        refine z_iinc dX9_findSnaps_119 rfl rfl (zle rfl) rfl (q := 122) rfl ?_
        refine z_goto (tgt := 30) dX9_findSnaps_122 (by decide) ?_
        refine Z.eql (zl2 := [some (.ref 77), some (.int (nI t)), some (.int (nI k)), some (.int (nI (i + 1))), _]) (by first | (rw [← nI_1 i]; done) | (rw [← nI_1 i]; rfl)) ?_
        exact ih (i + 1) s3 m3 _ (by omega) (snF_trans hF (snF_trans F1 (snF_trans F2 F3))) (snJ_step hik hc1 hc3 hb1 g1 hb2 g2 hb3 hd3 (snS_and g3 h107)) hx
set_option maxRecDepth 100000 in
set_option maxHeartbeats 4000000 in
theorem z_X9_findSnaps_2 {n nw t : Nat} (hI : inv X n nw) (hR : rel X Y n nw) (ht : t < 2) : ∀ (m i : Nat) (s mm : Nat → Int32) (e3 e4 : Option Value), i + m = n → (∀ k, k < i → snK X t n k s mm) → Z G mX9_findSnaps (zrm 1 0 0) 0 0 2 [some (.ref 77), some (.int (nI t)), some (.int (nI i)), e3, e4] [] (zw X1 (ysn Y s mm) O) (fun r w => r = .inl none ∧ ∃ s mm, w = zw X1 (ysn Y s mm) O ∧ ∀ k, k < n → snK X t n k s mm) := by
  intro m
  induction m with
  | zero =>
    intro i s mm e3 e4 hi hK
    have h4 := rel_4 hR
    refine z_iload_n (i := 2) dX9_findSnaps_2 rfl rfl (q := 3) rfl ?_
    refine z_aload_n (i := 0) dX9_findSnaps_3 rfl rfl (q := 4) rfl ?_
    refine z_get dX9_findSnaps_4 fX9_64 (wm _ _ _) rfl (q := 7) rfl ?_
    refine Z.eqst (st2 := [.int (nI n), .int (nI i)]) (congrArg (fun x => [Value.int x, Value.int (nI i)]) hR.1) ?_
    refine z_icmp_ge (tgt := 131) dX9_findSnaps_7 (by decide) (q := 10) rfl (fun h7 => ?_) (fun h7 => absurd (zge_t (by omega)) h7)
    exact z_vret dX9_findSnaps_131 rfl ⟨zle rfl, zle rfl⟩ ⟨rfl, s, mm, rfl, fun k hk => hK k (by omega)⟩
  | succ m ih =>
    intro i s mm e3 e4 hi hK
    have h4 := rel_4 hR
    refine z_iload_n (i := 2) dX9_findSnaps_2 rfl rfl (q := 3) rfl ?_
    refine z_aload_n (i := 0) dX9_findSnaps_3 rfl rfl (q := 4) rfl ?_
    refine z_get dX9_findSnaps_4 fX9_64 (wm _ _ _) rfl (q := 7) rfl ?_
    refine Z.eqst (st2 := [.int (nI n), .int (nI i)]) (congrArg (fun x => [Value.int x, Value.int (nI i)]) hR.1) ?_
    refine z_icmp_ge (tgt := 131) dX9_findSnaps_7 (by decide) (q := 10) rfl (fun h7 => absurd h7 (zge_f (by omega) (by omega))) (fun h7 => ?_)
    refine z_aload_n (i := 0) dX9_findSnaps_10 rfl rfl (q := 11) rfl ?_
    refine z_get dX9_findSnaps_11 fX9_42 (wm _ _ _) rfl (q := 14) rfl ?_
    refine z_iload_n (i := 2) dX9_findSnaps_14 rfl rfl (q := 15) rfl ?_
    refine z_iconst (v := 0) dX9_findSnaps_15 rfl (q := 16) rfl ?_
    refine z_iast dX9_findSnaps_16 (wma_many _ _ _) (zin (by omega) (by decide)) (q := 17) rfl ?_
    refine Z.eqw (wms_many _ _ _ _) ?_
    rw [nI_clamp (by omega)]
    refine Z.eqw (w2 := zw X1 (ysn Y s (upd mm i 0)) O) (congrArg (fun y => zw X1 y O) (yarr_yarr (yarr Y 9 s) 10 mm _)) ?_
    refine z_aload_n (i := 0) dX9_findSnaps_17 rfl rfl (q := 18) rfl ?_
    refine z_iload_n (i := 2) dX9_findSnaps_18 rfl rfl (q := 19) rfl ?_
    refine z_aload_n (i := 0) dX9_findSnaps_19 rfl rfl (q := 20) rfl ?_
    refine z_iload_n (i := 2) dX9_findSnaps_20 rfl rfl (q := 21) rfl ?_
    refine z_iload_n (i := 1) dX9_findSnaps_21 rfl rfl (q := 22) rfl ?_
    refine z_callVF (As := [_, _]) dX9_findSnaps_22 kX9_75 (c_X9_at (rel_arr (rel_arr hR (by decide) s) (by decide) _) (by omega) ht) (wm _ _ _) rfl rfl (zle rfl) ⟨zle rfl, zle rfl⟩ ⟨zle rfl, zle rfl⟩ (q := 25) rfl ?_
    refine z_callV (As := [_, _]) dX9_findSnaps_25 kX9_152 (c_X9_addSnap (k := i) (c := 0) (s := s) (mm := upd mm i 0) (by omega) pk_us (by omega)) (wm _ _ _) rfl rfl (zle rfl) ⟨zle rfl, zle rfl⟩ ⟨zle rfl, zle rfl⟩ (q := 28) rfl (fun rv w2 hw2 => ?_) (fun E w2 h9 => by cases h9.1)
    obtain ⟨h9, s1, m1, rfl, F1, c1, hb1, hd1, g1⟩ := hw2
    cases h9
    replace g1 := g1 (fun _ => False) ⟨pk_us, fun a b _ hb => absurd hb (by omega), fun j hj => absurd hj (by omega), fun v hv => hv.elim⟩
    refine z_iconst (v := 0) dX9_findSnaps_28 rfl (q := 29) rfl ?_
    refine z_istore_n (i := 3) dX9_findSnaps_29 rfl (zle rfl) rfl (q := 30) rfl ?_
    refine z_X9_findSnaps_30 (k := i) (s0 := s1) (m0 := m1) hR ht (by omega) n 0 s1 m1 _ (by omega) (snF_refl _ _ _) ⟨c1, by rw [if_neg (by omega)]; omega, hd1, g1.1, dset_iff g1.2 fun v => ⟨fun h9 => h9.elim False.elim Or.inl, fun h9 => h9.elim Or.inr (fun ⟨j, hj, _⟩ => absurd hj (by omega))⟩⟩ (fun s3 m3 e4 hF hJ => ?_)
    refine z_iinc dX9_findSnaps_125 rfl rfl (zle rfl) rfl (q := 128) rfl ?_
    refine z_goto (tgt := 2) dX9_findSnaps_128 (by decide) ?_
    refine Z.eql (zl2 := [some (.ref 77), some (.int (nI t)), some (.int (nI (i + 1))), _, _]) (by first | (rw [← nI_1 i]; done) | (rw [← nI_1 i]; rfl)) ?_
    refine ih (i + 1) s3 m3 _ _ (by omega) (fun k hk => ?_)
    by_cases e : k = i
    · rw [e]
      obtain ⟨c, hc1, hc2, hc3⟩ := hJ
      exact ⟨c, by rw [if_pos (by omega)] at hc1; omega, hc2, hc3.1, dset_iff hc3.2 (isS_all hI ht (by omega))⟩
    · have hk2 : snK X t n k s (upd mm i 0) := snK_F (hK k (by omega)) (k := i) ⟨fun j hj => pk_un hj, fun _ _ => rfl⟩ e
      exact snK_F (snK_F hk2 F1 e) hF e
set_option maxRecDepth 100000 in
set_option maxHeartbeats 4000000 in
theorem c_X9_findSnaps {n nw t : Nat} (hI : inv X n nw) (hR : rel X Y n nw) (ht : t < 2) : ZM G mX9_findSnaps 1 0 0 [.ref 77, .int (nI t)] (zw X1 Y O) (fun r w => r = .inl none ∧ ∃ s mm, w = zw X1 (ysn Y s mm) O ∧ ∀ k, k < n → snK X t n k s mm) := by
  refine ZM.go pX9 rfl rfl (zle rfl) (zl := [some (.ref 77), some (.int (nI t)), none, none, none]) rfl ?_
  refine z_iconst (v := 0) dX9_findSnaps_0 rfl (q := 1) rfl ?_
  refine z_istore_n (i := 2) dX9_findSnaps_1 rfl (zle rfl) rfl (q := 2) rfl ?_
  refine Z.eqw (w2 := zw X1 (ysn Y (Y.1 9) (Y.1 10)) O) (by rw [ysn_self]) ?_
  exact z_X9_findSnaps_2 hI hR ht n 0 _ _ none none (by omega) (fun k h9 => absurd h9 (by omega))
set_option maxRecDepth 100000 in
set_option maxHeartbeats 4000000 in
theorem c_X9_snaps {n nw k : Nat} (hI : inv X n nw) (hR : rel X Y n nw) (hk : k < n) {t : Nat} (ht : t < 2) : ZM G mX9_snaps 2 0 0 [.ref 77, .int (nI k), .int (zch t)] (zw X1 Y O) (fun r w => ∃ (c : Nat) (g : Nat → Int32) (s mm : Nat → Int32), r = .inl (some (.int (nI c))) ∧ w = zw X1 (ysn (yint Y 0 0) s mm) O ∧ dset g c (isSnap (X.2.1 (2 * t)) (X.2.1 (2 * t + 1)) n k)) := by
  have h4 := rel_4 hR
  have hR0 : rel X (yint Y 0 0) n nw := rel_thr hR 0
  refine ZM.go pX9 rfl rfl (zle rfl) (zl := [some (.ref 77), some (.int (nI k)), some (.int (zch t))]) rfl ?_
  refine z_aload_n (i := 0) dX9_snaps_0 rfl rfl (q := 1) rfl ?_
  refine z_iconst (v := 0) dX9_snaps_1 rfl (q := 2) rfl ?_
  refine z_put dX9_snaps_2 fX9_60 (wm _ _ _) (zle rfl) (zfit_int _) (q := 5) rfl ?_
  refine Z.eqw (wmi_thrown _ _ _ _) ?_
  refine z_aload_n (i := 0) dX9_snaps_5 rfl rfl (q := 6) rfl ?_
  refine z_aload_n (i := 0) dX9_snaps_6 rfl rfl (q := 7) rfl ?_
  refine z_iload_n (i := 1) dX9_snaps_7 rfl rfl (q := 8) rfl ?_
  refine z_callVF (As := [_]) dX9_snaps_8 kX9_97 (c_X9_noShape_in hR0 hk) (wm _ _ _) rfl rfl (zle rfl) ⟨zle rfl, zle rfl⟩ ⟨zle rfl, zle rfl⟩ (q := 11) rfl ?_
  refine z_iconst (v := 1) dX9_snaps_11 rfl (q := 12) rfl ?_
  refine z_callVF (As := [_, _]) dX9_snaps_12 kX9_89 (c_X9_fails_f rfl) (wm _ _ _) rfl rfl (zle rfl) ⟨zle rfl, zle rfl⟩ ⟨zle rfl, zle rfl⟩ (q := 15) rfl ?_
  refine z_if_ne (tgt := 39) dX9_snaps_15 (by decide) (q := 18) rfl (fun h15 => absurd h15 (by decide)) (fun h15 => ?_)
  refine z_aload_n (i := 0) dX9_snaps_18 rfl rfl (q := 19) rfl ?_
  refine z_iload_n (i := 2) dX9_snaps_19 rfl rfl (q := 20) rfl ?_
  refine z_callSF (As := [_]) dX9_snaps_20 kX9_101 (c_X9_axisOf ht) rfl (zle rfl) ⟨zle rfl, zle rfl⟩ ⟨zle rfl, zle rfl⟩ (q := 23) rfl ?_
  refine z_iconst (v := (-1)) dX9_snaps_23 rfl (q := 24) rfl ?_
  refine z_icmp_ne (tgt := 31) dX9_snaps_24 (by decide) (q := 27) rfl (fun h24 => ?_) (fun h24 => absurd h24 (nI_m1 (by omega)))
  refine z_iconst (v := 0) dX9_snaps_31 rfl (q := 32) rfl ?_
  refine z_iconst (v := 2) dX9_snaps_32 rfl (q := 33) rfl ?_
  refine z_callVF (As := [_, _]) dX9_snaps_33 kX9_89 (c_X9_fails_f rfl) (wm _ _ _) rfl rfl (zle rfl) ⟨zle rfl, zle rfl⟩ ⟨zle rfl, zle rfl⟩ (q := 36) rfl ?_
  refine z_if_eq (tgt := 41) dX9_snaps_36 (by decide) (q := 39) rfl (fun h36 => ?_) (fun h36 => absurd h36 (by decide))
  refine z_aload_n (i := 0) dX9_snaps_41 rfl rfl (q := 42) rfl ?_
  refine z_iload_n (i := 2) dX9_snaps_42 rfl rfl (q := 43) rfl ?_
  refine z_callSF (As := [_]) dX9_snaps_43 kX9_101 (c_X9_axisOf ht) rfl (zle rfl) ⟨zle rfl, zle rfl⟩ ⟨zle rfl, zle rfl⟩ (q := 46) rfl ?_
  refine z_callV (As := [_]) dX9_snaps_46 kX9_156 (c_X9_findSnaps hI hR0 ht) (wm _ _ _) rfl rfl (zle rfl) ⟨zle rfl, zle rfl⟩ ⟨zle rfl, zle rfl⟩ (q := 49) rfl (fun rv w2 hw2 => ?_) (fun E w2 h9 => by cases h9.1)
  obtain ⟨h9, s, mm, rfl, hK⟩ := hw2
  cases h9
  obtain ⟨c, hc1, hc2, hc3⟩ := hK k hk
  refine z_aload_n (i := 0) dX9_snaps_49 rfl rfl (q := 50) rfl ?_
  refine z_get dX9_snaps_50 fX9_42 (wm _ _ _) rfl (q := 53) rfl ?_
  refine z_iload_n (i := 1) dX9_snaps_53 rfl rfl (q := 54) rfl ?_
  refine z_iald dX9_snaps_54 (wma_many _ _ _) (zin (by omega) (by decide)) (q := 55) rfl ?_
  refine Z.eqst (st2 := [.int (nI c)]) (congrArg (fun x => [Value.int x]) (show mm (nI k).toNatClampNeg = nI c by rw [nI_clamp (by omega)]; exact hc3.1)) ?_
  exact z_iret dX9_snaps_55 rfl ⟨zle rfl, zle rfl⟩ ⟨c, _, s, mm, rfl, rfl, hc3.2⟩
set_option maxRecDepth 100000 in
set_option maxHeartbeats 4000000 in
theorem c_X9_snaps_out {n nw : Nat} {s : Int32} (hR : rel X Y n nw) (h : s < 0 ∨ nI n ≤ s) {c : Int32} : ZM G mX9_snaps 2 0 0 [.ref 77, .int s, .int c] (zw X1 Y O) (mR X1 O (0) (yth Y 1)) := by
  have h4 := rel_4 hR
  have hR0 : rel X (yint Y 0 0) n nw := rel_thr hR 0
  refine ZM.go pX9 rfl rfl (zle rfl) (zl := [some (.ref 77), some (.int s), some (.int c)]) rfl ?_
  refine z_aload_n (i := 0) dX9_snaps_0 rfl rfl (q := 1) rfl ?_
  refine z_iconst (v := 0) dX9_snaps_1 rfl (q := 2) rfl ?_
  refine z_put dX9_snaps_2 fX9_60 (wm _ _ _) (zle rfl) (zfit_int _) (q := 5) rfl ?_
  refine Z.eqw (wmi_thrown _ _ _ _) ?_
  refine z_aload_n (i := 0) dX9_snaps_5 rfl rfl (q := 6) rfl ?_
  refine z_aload_n (i := 0) dX9_snaps_6 rfl rfl (q := 7) rfl ?_
  refine z_iload_n (i := 1) dX9_snaps_7 rfl rfl (q := 8) rfl ?_
  refine z_callVF (As := [_]) dX9_snaps_8 kX9_97 (c_X9_noShape_out hR0 h) (wm _ _ _) rfl rfl (zle rfl) ⟨zle rfl, zle rfl⟩ ⟨zle rfl, zle rfl⟩ (q := 11) rfl ?_
  refine z_iconst (v := 1) dX9_snaps_11 rfl (q := 12) rfl ?_
  refine z_callVF (As := [_, _]) dX9_snaps_12 kX9_89 (c_X9_fails_t rfl (by decide)) (wm _ _ _) rfl rfl (zle rfl) ⟨zle rfl, zle rfl⟩ ⟨zle rfl, zle rfl⟩ (q := 15) rfl ?_
  refine z_if_ne (tgt := 39) dX9_snaps_15 (by decide) (q := 18) rfl (fun h15 => ?_) (fun h15 => absurd h15 (by decide))
  refine z_iconst (v := 0) dX9_snaps_39 rfl (q := 40) rfl ?_
  exact z_iret dX9_snaps_40 rfl ⟨zle rfl, zle rfl⟩ ⟨rfl, rfl⟩
set_option maxRecDepth 100000 in
set_option maxHeartbeats 4000000 in
theorem c_X9_snaps_ax {n nw k : Nat} (hR : rel X Y n nw) (hk : k < n) {c : Int32} (h1 : ¬ c = 120) (h2 : ¬ c = 121) : ZM G mX9_snaps 2 0 0 [.ref 77, .int (nI k), .int c] (zw X1 Y O) (mR X1 O (0) (yth Y 2)) := by
  have h4 := rel_4 hR
  have hR0 : rel X (yint Y 0 0) n nw := rel_thr hR 0
  refine ZM.go pX9 rfl rfl (zle rfl) (zl := [some (.ref 77), some (.int (nI k)), some (.int c)]) rfl ?_
  refine z_aload_n (i := 0) dX9_snaps_0 rfl rfl (q := 1) rfl ?_
  refine z_iconst (v := 0) dX9_snaps_1 rfl (q := 2) rfl ?_
  refine z_put dX9_snaps_2 fX9_60 (wm _ _ _) (zle rfl) (zfit_int _) (q := 5) rfl ?_
  refine Z.eqw (wmi_thrown _ _ _ _) ?_
  refine z_aload_n (i := 0) dX9_snaps_5 rfl rfl (q := 6) rfl ?_
  refine z_aload_n (i := 0) dX9_snaps_6 rfl rfl (q := 7) rfl ?_
  refine z_iload_n (i := 1) dX9_snaps_7 rfl rfl (q := 8) rfl ?_
  refine z_callVF (As := [_]) dX9_snaps_8 kX9_97 (c_X9_noShape_in hR0 hk) (wm _ _ _) rfl rfl (zle rfl) ⟨zle rfl, zle rfl⟩ ⟨zle rfl, zle rfl⟩ (q := 11) rfl ?_
  refine z_iconst (v := 1) dX9_snaps_11 rfl (q := 12) rfl ?_
  refine z_callVF (As := [_, _]) dX9_snaps_12 kX9_89 (c_X9_fails_f rfl) (wm _ _ _) rfl rfl (zle rfl) ⟨zle rfl, zle rfl⟩ ⟨zle rfl, zle rfl⟩ (q := 15) rfl ?_
  refine z_if_ne (tgt := 39) dX9_snaps_15 (by decide) (q := 18) rfl (fun h15 => absurd h15 (by decide)) (fun h15 => ?_)
  refine z_aload_n (i := 0) dX9_snaps_18 rfl rfl (q := 19) rfl ?_
  refine z_iload_n (i := 2) dX9_snaps_19 rfl rfl (q := 20) rfl ?_
  refine z_callSF (As := [_]) dX9_snaps_20 kX9_101 (c_X9_axisOf_no h1 h2) rfl (zle rfl) ⟨zle rfl, zle rfl⟩ ⟨zle rfl, zle rfl⟩ (q := 23) rfl ?_
  refine z_iconst (v := (-1)) dX9_snaps_23 rfl (q := 24) rfl ?_
  refine z_icmp_ne (tgt := 31) dX9_snaps_24 (by decide) (q := 27) rfl (fun h24 => absurd h24 (by decide)) (fun h24 => ?_)
  refine z_iconst (v := 1) dX9_snaps_27 rfl (q := 28) rfl ?_
  refine z_goto (tgt := 32) dX9_snaps_28 (by decide) ?_
  refine z_iconst (v := 2) dX9_snaps_32 rfl (q := 33) rfl ?_
  refine z_callVF (As := [_, _]) dX9_snaps_33 kX9_89 (c_X9_fails_t rfl (by decide)) (wm _ _ _) rfl rfl (zle rfl) ⟨zle rfl, zle rfl⟩ ⟨zle rfl, zle rfl⟩ (q := 36) rfl ?_
  refine z_if_eq (tgt := 41) dX9_snaps_36 (by decide) (q := 39) rfl (fun h36 => absurd h36 (by decide)) (fun h36 => ?_)
  refine z_iconst (v := 0) dX9_snaps_39 rfl (q := 40) rfl ?_
  exact z_iret dX9_snaps_40 rfl ⟨zle rfl, zle rfl⟩ ⟨rfl, rfl⟩
end
