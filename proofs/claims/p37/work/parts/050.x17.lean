section
variable {G : zG} {X : zX} {Y : zY} {O : zO}
/- the rows outside lo .. hi and all else are as they were -/
set_option maxRecDepth 100000 in
set_option maxHeartbeats 4000000 in
def kp (lo hi : Nat) (X X2 : zX) : Prop := (∀ r, ¬ (lo ≤ r ∧ r ≤ hi) → X2.1 r = X.1 r ∧ X2.2.1 r = X.2.1 r) ∧ X2.2.2 = X.2.2
set_option maxRecDepth 100000 in
set_option maxHeartbeats 4000000 in
theorem kp_refl (lo hi : Nat) (X : zX) : kp lo hi X X := ⟨fun _ _ => ⟨rfl, rfl⟩, rfl⟩
set_option maxRecDepth 100000 in
set_option maxHeartbeats 4000000 in
theorem kp_row {lo hi : Nat} {X X2 : zX} (h : kp lo hi X X2) {r : Nat} (hr : lo ≤ r ∧ r ≤ hi) (f : Nat → Int32) (l : Int32) : kp lo hi X (xrow X2 r f l) :=
  ⟨fun j hj => ⟨(xrow_ln X2 (fun e => hj (by rw [e]; exact hr)) f l).trans (h.1 j hj).1, (xrow_fn X2 (fun e => hj (by rw [e]; exact hr)) f l).trans (h.1 j hj).2⟩, h.2⟩
set_option maxRecDepth 100000 in
set_option maxHeartbeats 4000000 in
theorem kp_f {lo hi : Nat} {X X2 : zX} (h : kp lo hi X X2) {r : Nat} (hr : ¬ (lo ≤ r ∧ r ≤ hi)) (k : Nat) : X2.2.1 r k = X.2.1 r k := congrFun (h.1 r hr).2 k
set_option maxRecDepth 100000 in
set_option maxHeartbeats 4000000 in
theorem nI_mul (a b : Nat) : nI a * nI b = nI (a * b) := (Int32.ofNat_mul a b).symm
set_option maxRecDepth 100000 in
set_option maxHeartbeats 4000000 in
theorem nI_10 (i c : Nat) : nI i * 10 + nI c = nI (10 * i + c) := by
  rw [show (10 : Int32) = nI 10 from rfl, nI_mul, nI_add, Nat.mul_comm i 10]
/- a start that a shape may take: free, or its own; on the slide -/
set_option maxRecDepth 100000 in
set_option maxHeartbeats 4000000 in
def chq (X : zX) (t i : Nat) (v : Int32) : Prop := (X.2.1 4 i = 0 ∨ v = X.2.1 (2 * t) i) ∧ zon (zlim t) v (X.2.1 (2 * t + 1) i)
/- of the first e of g those that may be taken stand in f from 10 i on, c of them -/
set_option maxRecDepth 100000 in
set_option maxHeartbeats 4000000 in
def chI (X : zX) (t i : Nat) (g f : Nat → Int32) (e c : Nat) : Prop := c ≤ e ∧ (∀ a b, a < b → b < c → f (10 * i + a) < f (10 * i + b)) ∧ (∀ j, j < c → ∃ d, d < e ∧ f (10 * i + j) = g d ∧ chq X t i (g d)) ∧ ∀ d, d < e → chq X t i (g d) → ∃ j, j < c ∧ f (10 * i + j) = g d
set_option maxRecDepth 100000 in
set_option maxHeartbeats 4000000 in
theorem chI_0 (X : zX) (t i : Nat) (g f : Nat → Int32) : chI X t i g f 0 0 :=
  ⟨Nat.le_refl _, fun _ _ _ h => absurd h (Nat.not_lt_zero _), fun _ h => absurd h (Nat.not_lt_zero _), fun _ h => absurd h (Nat.not_lt_zero _)⟩
set_option maxRecDepth 100000 in
set_option maxHeartbeats 4000000 in
theorem chI_skip {X : zX} {t i : Nat} {g f : Nat → Int32} {e c : Nat} (h : chI X t i g f e c) (hn : ¬ chq X t i (g e)) : chI X t i g f (e + 1) c := by
  refine ⟨by have := h.1; omega, h.2.1, fun j hj => ?_, fun d hd hq => ?_⟩
  · obtain ⟨d, h1, h2⟩ := h.2.2.1 j hj
    exact ⟨d, by omega, h2⟩
  · rcases Decidable.em (d = e) with h3 | h3
    · subst h3; exact absurd hq hn
    · exact h.2.2.2 d (by omega) hq
set_option maxRecDepth 100000 in
set_option maxHeartbeats 4000000 in
theorem chI_add {X : zX} {t i : Nat} {g f : Nat → Int32} {e c : Nat} (h : chI X t i g f e c) (hg : ∀ d, d < e → g d < g e) (hq : chq X t i (g e)) : chI X t i g (upd f (10 * i + c) (g e)) (e + 1) (c + 1) := by
  have hold : ∀ j, j < c → upd f (10 * i + c) (g e) (10 * i + j) = f (10 * i + j) := fun j hj => if_neg (by omega)
  have hnew : upd f (10 * i + c) (g e) (10 * i + c) = g e := if_pos rfl
  refine ⟨by have := h.1; omega, fun a b hab hb => ?_, fun j hj => ?_, fun d hd hq2 => ?_⟩
  · rcases Nat.lt_or_ge b c with h1 | h1
    · rw [hold a (by omega), hold b h1]; exact h.2.1 a b hab h1
    · rw [show b = c by omega, hnew, hold a (by omega)]
      obtain ⟨d, h2, h3, _⟩ := h.2.2.1 a (by omega)
      rw [h3]; exact hg d h2
  · rcases Nat.lt_or_ge j c with h1 | h1
    · obtain ⟨d, h2, h3, h4⟩ := h.2.2.1 j h1
      exact ⟨d, by omega, (hold j h1).trans h3, h4⟩
    · rw [show j = c by omega]; exact ⟨e, by omega, hnew, hq⟩
  · rcases Decidable.em (d = e) with h3 | h3
    · subst h3; exact ⟨c, by omega, hnew⟩
    · obtain ⟨j, h4, h5⟩ := h.2.2.2 d (by omega) hq2
      exact ⟨j, by omega, (hold j h4).trans h5⟩
/- the choices of the shape i as they stand in the rows 11 and 12 -/
set_option maxRecDepth 100000 in
set_option maxHeartbeats 4000000 in
def chD (X : zX) (t n : Nat) (X2 : zX) (i : Nat) : Prop := ∃ c, c ≤ 10 ∧ X2.2.1 12 i = nI c ∧ slist (fun j => X2.2.1 11 (10 * i + j)) c (fun v => isSnap (X.2.1 (2 * t)) (X.2.1 (2 * t + 1)) n i v ∧ chq X t i v)
set_option maxRecDepth 100000 in
set_option maxHeartbeats 4000000 in
theorem chI_D {X : zX} {t i : Nat} {g f : Nat → Int32} {e c : Nat} {p : Int32 → Prop} (h : chI X t i g f e c) (hs : slist g e p) : slist (fun j => f (10 * i + j)) c (fun v => p v ∧ chq X t i v) := by
  refine ⟨h.2.1, fun j hj => ?_, fun v hv => ?_⟩
  · obtain ⟨d, h1, h2, h3⟩ := h.2.2.1 j hj
    show p (f (10 * i + j)) ∧ chq X t i (f (10 * i + j))
    rw [h2]; exact ⟨hs.2.1 d h1, h3⟩
  · obtain ⟨d, h1, h2⟩ := hs.2.2 v hv.1
    obtain ⟨j, h3, h4⟩ := h.2.2.2 d h1 (by rw [h2]; exact hv.2)
    exact ⟨j, h3, h4.trans h2⟩
/- within the loop over the snaps of i -/
set_option maxRecDepth 100000 in
set_option maxHeartbeats 4000000 in
def chW (X : zX) (t n i len : Nat) (g f11 f12 : Nat → Int32) (X1 : zX) : Prop := kp 11 13 X X1 ∧ X1.1 12 = nI i ∧ X1.2.1 12 = f12 ∧ X1.1 13 = nI len ∧ X1.2.1 13 = g ∧ ∀ q, q < 10 * i → X1.2.1 11 q = f11 q
set_option maxRecDepth 100000 in
set_option maxHeartbeats 4000000 in
theorem chW_set {X : zX} {t n i len : Nat} {g f11 f12 : Nat → Int32} {X1 : zX} (h : chW X t n i len g f11 f12 X1) (c : Nat) (v l : Int32) : chW X t n i len g f11 f12 (xrow X1 11 (upd (X1.2.1 11) (10 * i + c) v) l) := by
  obtain ⟨h1, h2, h3, h4, h5, h6⟩ := h
  refine ⟨kp_row h1 (by omega) _ _, (xrow_ln X1 (by decide) _ _).trans h2, (xrow_fn X1 (by decide) _ _).trans h3, (xrow_ln X1 (by decide) _ _).trans h4, (xrow_fn X1 (by decide) _ _).trans h5, fun q hq => ?_⟩
  rw [xrow_f]
  exact (if_neg (by omega)).trans (h6 q hq)
set_option maxRecDepth 100000 in
set_option maxHeartbeats 4000000 in
theorem z_X1_load_32_0 {n i len : Nat} {g f11 f12 : Nat → Int32} {P : zRes → zWorld → Prop} (hi : i < 4) (hl : len ≤ 10) (hg : ∀ a b, a < b → b < len → g a < g b) (hx : ∀ (X2 : zX) (c : Nat) (e6 e7 : Option Value), chW X 0 n i len g f11 f12 X2 → chI X 0 i g (X2.2.1 11) len c → Z G mX1_load (zrm 2 0 0) 0 0 124 [some (.ref 27), some (.ref 1), some (.ref 11), some (.int (nI i)), some (.int (nI c)), some (.int (nI len)), e6, e7] [] (zw X2 Y O) P) : ∀ (m e c : Nat) (X1 : zX) (e6 e7 : Option Value), e + m = len → chW X 0 n i len g f11 f12 X1 → chI X 0 i g (X1.2.1 11) e c → Z G mX1_load (zrm 2 0 0) 0 0 32 [some (.ref 27), some (.ref 1), some (.ref 11), some (.int (nI i)), some (.int (nI c)), some (.int (nI e)), e6, e7] [] (zw X1 Y O) P := by
  intro m
  induction m with
  | zero =>
    intro e c X1 e6 e7 he hw hc
    have hin : e = len := by omega
    rw [hin] at hc ⊢
    refine z_iload dX1_load_32 rfl (q := 34) rfl ?_
    refine z_aload_n (i := 0) dX1_load_34 rfl rfl (q := 35) rfl ?_
    refine z_get dX1_load_35 fX1_23 (wo_choices _ _ _) rfl (q := 38) rfl ?_
    refine z_callVF (As := []) dX1_load_38 kX1_39 (c_X4_length (wr_13 _ _ _)) (wr_13 _ _ _).1 rfl rfl (zle rfl) ⟨zle rfl, zle rfl⟩ ⟨zle rfl, zle rfl⟩ (q := 41) rfl ?_
    rw [show X1.1 13 = nI len from hw.2.2.2.1]
    refine z_icmp_ge (tgt := 124) dX1_load_41 (by decide) (q := 44) rfl (fun h41 => ?_) (fun h41 => absurd (zge_t (by omega)) h41)
    exact hx X1 c e6 e7 hw hc
  | succ m ih =>
    intro e c X1 e6 e7 he hw hc
    have hce : c ≤ e := hc.1
    refine z_iload dX1_load_32 rfl (q := 34) rfl ?_
    refine z_aload_n (i := 0) dX1_load_34 rfl rfl (q := 35) rfl ?_
    refine z_get dX1_load_35 fX1_23 (wo_choices _ _ _) rfl (q := 38) rfl ?_
    refine z_callVF (As := []) dX1_load_38 kX1_39 (c_X4_length (wr_13 _ _ _)) (wr_13 _ _ _).1 rfl rfl (zle rfl) ⟨zle rfl, zle rfl⟩ ⟨zle rfl, zle rfl⟩ (q := 41) rfl ?_
    rw [show X1.1 13 = nI len from hw.2.2.2.1]
    refine z_icmp_ge (tgt := 124) dX1_load_41 (by decide) (q := 44) rfl (fun h41 => absurd h41 (zge_f (by omega) (by omega))) (fun h41 => ?_)
    refine z_aload_n (i := 0) dX1_load_44 rfl rfl (q := 45) rfl ?_
    refine z_get dX1_load_45 fX1_23 (wo_choices _ _ _) rfl (q := 48) rfl ?_
    refine z_iload dX1_load_48 rfl (q := 50) rfl ?_
    refine z_callVF (As := [_]) dX1_load_50 kX1_42 (c_X4_get  (wr_13 _ _ _) (by omega) (by decide)) (wr_13 _ _ _).1 rfl rfl (zle rfl) ⟨zle rfl, zle rfl⟩ ⟨zle rfl, zle rfl⟩ (q := 53) rfl ?_
    rw [show X1.2.1 13 e = g e from congrFun hw.2.2.2.2.1 e]
    refine z_istore dX1_load_53 (zle rfl) rfl (q := 55) rfl ?_
    refine z_aload_n (i := 2) dX1_load_55 rfl rfl (q := 56) rfl ?_
    refine z_iload_n (i := 3) dX1_load_56 rfl rfl (q := 57) rfl ?_
    refine z_callVF (As := [_]) dX1_load_57 kX1_42 (c_X4_get  (wr_4 _ _ _) (by omega) (by decide)) (wr_4 _ _ _).1 rfl rfl (zle rfl) ⟨zle rfl, zle rfl⟩ ⟨zle rfl, zle rfl⟩ (q := 60) rfl ?_
    rw [show X1.2.1 4 i = X.2.1 4 i from kp_f hw.1 (by decide) i]
    refine z_if_eq (tgt := 73) dX1_load_60 (by decide) (q := 63) rfl (fun h60 => ?_) (fun h60 => ?_)
    · refine z_iconst (v := 1) dX1_load_73 rfl (q := 74) rfl ?_
      refine z_goto (tgt := 78) dX1_load_74 (by decide) ?_
      refine z_istore dX1_load_78 (zle rfl) rfl (q := 80) rfl ?_
      refine z_iload dX1_load_80 rfl (q := 82) rfl ?_
      refine z_if_eq (tgt := 118) dX1_load_82 (by decide) (q := 85) rfl (fun h82 => absurd h82 (by decide)) (fun h82 => ?_)
      refine z_aload_n (i := 1) dX1_load_85 rfl rfl (q := 86) rfl ?_
      refine z_iload dX1_load_86 rfl (q := 88) rfl ?_
      refine z_aload_n (i := 1) dX1_load_88 rfl rfl (q := 89) rfl ?_
      refine z_iload_n (i := 3) dX1_load_89 rfl rfl (q := 90) rfl ?_
      refine z_callVF (As := [_]) dX1_load_90 kX1_49 (c_X0_sizeAt (t := 0) (by decide) (by omega)) (wo_across _ _ _) rfl rfl (zle rfl) ⟨zle rfl, zle rfl⟩ ⟨zle rfl, zle rfl⟩ (q := 93) rfl ?_
      rw [show X1.2.1 (2 * 0 + 1) i = X.2.1 (2 * 0 + 1) i from kp_f hw.1 (by decide) i]
      refine z_callVF (As := [_, _]) dX1_load_93 kX1_52 (c_X0_holds (t := 0) (by decide) ) (wo_across _ _ _) rfl rfl (zle rfl) ⟨zle rfl, zle rfl⟩ ⟨zle rfl, zle rfl⟩ (q := 96) rfl ?_
      refine z_if_eq (tgt := 118) dX1_load_96 (by decide) (q := 99) rfl (fun h96 => ?_) (fun h96 => ?_)
      · replace h96 := zb_0.mp h96
        refine z_iinc dX1_load_118 rfl rfl (zle rfl) rfl (q := 121) rfl ?_
        refine z_goto (tgt := 32) dX1_load_121 (by decide) ?_
        refine Z.eql (zl2 := [some (.ref 27), some (.ref 1), some (.ref 11), some (.int (nI i)), some (.int (nI c)), some (.int (nI (e + 1))), some (.int (g e)), some (.int 1)]) (by first | (rw [← nI_1 e]; done) | (rw [← nI_1 e]; rfl)) ?_
        exact ih (e + 1) c X1 _ _ (by omega) hw (chI_skip hc (fun h9 => h96 h9.2))
      · replace h96 := zb_1.mp h96
        refine z_aload_n (i := 0) dX1_load_99 rfl rfl (q := 100) rfl ?_
        refine z_get dX1_load_100 fX1_14 (wo_choices _ _ _) rfl (q := 103) rfl ?_
        refine z_iload_n (i := 3) dX1_load_103 rfl rfl (q := 104) rfl ?_
        refine z_bipush (v := 10) dX1_load_104 rfl (q := 106) rfl ?_
        refine z_imul dX1_load_106 (q := 107) rfl ?_
        refine z_iload dX1_load_107 rfl (q := 109) rfl ?_
        refine z_iadd dX1_load_109 (q := 110) rfl ?_
        refine z_iload dX1_load_110 rfl (q := 112) rfl ?_
        rw [nI_10]
        refine z_callVF (As := [_, _]) dX1_load_112 kX1_56 (c_X4_set (k := 10 * i + c) (wr_11 _ _ _) (by omega) (by decide)) (wr_11 _ _ _).1 rfl rfl (zle rfl) ⟨zle rfl, zle rfl⟩ ⟨zle rfl, zle rfl⟩ (q := 115) rfl ?_
        refine Z.eqw (wp_11 _ _ _ _ _) ?_
        refine z_iinc dX1_load_115 rfl rfl (zle rfl) rfl (q := 118) rfl ?_
        refine z_iinc dX1_load_118 rfl rfl (zle rfl) rfl (q := 121) rfl ?_
        refine z_goto (tgt := 32) dX1_load_121 (by decide) ?_
        refine Z.eql (zl2 := [some (.ref 27), some (.ref 1), some (.ref 11), some (.int (nI i)), some (.int (nI (c + 1))), some (.int (nI (e + 1))), some (.int (g e)), some (.int 1)]) (by first | (rw [← nI_1 e, ← nI_1 c]; done) | (rw [← nI_1 e, ← nI_1 c]; rfl)) ?_
        refine ih (e + 1) (c + 1) _ _ _ (by omega) (chW_set hw c (g e) _) ?_
        rw [xrow_f]
        exact chI_add hc (fun d hd => hg d e hd (by omega)) ⟨Or.inl h60, h96⟩
    · refine z_iload dX1_load_63 rfl (q := 65) rfl ?_
      refine z_aload_n (i := 1) dX1_load_65 rfl rfl (q := 66) rfl ?_
      refine z_iload_n (i := 3) dX1_load_66 rfl rfl (q := 67) rfl ?_
      refine z_callVF (As := [_]) dX1_load_67 kX1_46 (c_X0_startAt (t := 0) (by decide) (by omega)) (wo_across _ _ _) rfl rfl (zle rfl) ⟨zle rfl, zle rfl⟩ ⟨zle rfl, zle rfl⟩ (q := 70) rfl ?_
      rw [show X1.2.1 (2 * 0) i = X.2.1 (2 * 0) i from kp_f hw.1 (by decide) i]
      refine z_icmp_ne (tgt := 77) dX1_load_70 (by decide) (q := 73) rfl (fun h70 => ?_) (fun h70 => ?_)
      · refine z_iconst (v := 0) dX1_load_77 rfl (q := 78) rfl ?_
        refine z_istore dX1_load_78 (zle rfl) rfl (q := 80) rfl ?_
        refine z_iload dX1_load_80 rfl (q := 82) rfl ?_
        refine z_if_eq (tgt := 118) dX1_load_82 (by decide) (q := 85) rfl (fun h82 => ?_) (fun h82 => absurd rfl h82)
        refine z_iinc dX1_load_118 rfl rfl (zle rfl) rfl (q := 121) rfl ?_
        refine z_goto (tgt := 32) dX1_load_121 (by decide) ?_
        refine Z.eql (zl2 := [some (.ref 27), some (.ref 1), some (.ref 11), some (.int (nI i)), some (.int (nI c)), some (.int (nI (e + 1))), some (.int (g e)), some (.int 0)]) (by first | (rw [← nI_1 e]; done) | (rw [← nI_1 e]; rfl)) ?_
        exact ih (e + 1) c X1 _ _ (by omega) hw (chI_skip hc (fun h9 => h9.1.elim h60 h70))
      · refine z_iconst (v := 1) dX1_load_73 rfl (q := 74) rfl ?_
        refine z_goto (tgt := 78) dX1_load_74 (by decide) ?_
        refine z_istore dX1_load_78 (zle rfl) rfl (q := 80) rfl ?_
        refine z_iload dX1_load_80 rfl (q := 82) rfl ?_
        refine z_if_eq (tgt := 118) dX1_load_82 (by decide) (q := 85) rfl (fun h82 => absurd h82 (by decide)) (fun h82 => ?_)
        refine z_aload_n (i := 1) dX1_load_85 rfl rfl (q := 86) rfl ?_
        refine z_iload dX1_load_86 rfl (q := 88) rfl ?_
        refine z_aload_n (i := 1) dX1_load_88 rfl rfl (q := 89) rfl ?_
        refine z_iload_n (i := 3) dX1_load_89 rfl rfl (q := 90) rfl ?_
        refine z_callVF (As := [_]) dX1_load_90 kX1_49 (c_X0_sizeAt (t := 0) (by decide) (by omega)) (wo_across _ _ _) rfl rfl (zle rfl) ⟨zle rfl, zle rfl⟩ ⟨zle rfl, zle rfl⟩ (q := 93) rfl ?_
        rw [show X1.2.1 (2 * 0 + 1) i = X.2.1 (2 * 0 + 1) i from kp_f hw.1 (by decide) i]
        refine z_callVF (As := [_, _]) dX1_load_93 kX1_52 (c_X0_holds (t := 0) (by decide) ) (wo_across _ _ _) rfl rfl (zle rfl) ⟨zle rfl, zle rfl⟩ ⟨zle rfl, zle rfl⟩ (q := 96) rfl ?_
        refine z_if_eq (tgt := 118) dX1_load_96 (by decide) (q := 99) rfl (fun h96 => ?_) (fun h96 => ?_)
        · replace h96 := zb_0.mp h96
          refine z_iinc dX1_load_118 rfl rfl (zle rfl) rfl (q := 121) rfl ?_
          refine z_goto (tgt := 32) dX1_load_121 (by decide) ?_
          refine Z.eql (zl2 := [some (.ref 27), some (.ref 1), some (.ref 11), some (.int (nI i)), some (.int (nI c)), some (.int (nI (e + 1))), some (.int (g e)), some (.int 1)]) (by first | (rw [← nI_1 e]; done) | (rw [← nI_1 e]; rfl)) ?_
          exact ih (e + 1) c X1 _ _ (by omega) hw (chI_skip hc (fun h9 => h96 h9.2))
        · replace h96 := zb_1.mp h96
          refine z_aload_n (i := 0) dX1_load_99 rfl rfl (q := 100) rfl ?_
          refine z_get dX1_load_100 fX1_14 (wo_choices _ _ _) rfl (q := 103) rfl ?_
          refine z_iload_n (i := 3) dX1_load_103 rfl rfl (q := 104) rfl ?_
          refine z_bipush (v := 10) dX1_load_104 rfl (q := 106) rfl ?_
          refine z_imul dX1_load_106 (q := 107) rfl ?_
          refine z_iload dX1_load_107 rfl (q := 109) rfl ?_
          refine z_iadd dX1_load_109 (q := 110) rfl ?_
          refine z_iload dX1_load_110 rfl (q := 112) rfl ?_
          rw [nI_10]
          refine z_callVF (As := [_, _]) dX1_load_112 kX1_56 (c_X4_set (k := 10 * i + c) (wr_11 _ _ _) (by omega) (by decide)) (wr_11 _ _ _).1 rfl rfl (zle rfl) ⟨zle rfl, zle rfl⟩ ⟨zle rfl, zle rfl⟩ (q := 115) rfl ?_
          refine Z.eqw (wp_11 _ _ _ _ _) ?_
          refine z_iinc dX1_load_115 rfl rfl (zle rfl) rfl (q := 118) rfl ?_
          refine z_iinc dX1_load_118 rfl rfl (zle rfl) rfl (q := 121) rfl ?_
          refine z_goto (tgt := 32) dX1_load_121 (by decide) ?_
          refine Z.eql (zl2 := [some (.ref 27), some (.ref 1), some (.ref 11), some (.int (nI i)), some (.int (nI (c + 1))), some (.int (nI (e + 1))), some (.int (g e)), some (.int 1)]) (by first | (rw [← nI_1 e, ← nI_1 c]; done) | (rw [← nI_1 e, ← nI_1 c]; rfl)) ?_
          refine ih (e + 1) (c + 1) _ _ _ (by omega) (chW_set hw c (g e) _) ?_
          rw [xrow_f]
          exact chI_add hc (fun d hd => hg d e hd (by omega)) ⟨Or.inr h70, h96⟩
set_option maxRecDepth 100000 in
set_option maxHeartbeats 4000000 in
theorem z_X1_load_9_0 {n : Nat} (hn : X.1 (2 * 0) = nI n) (h4 : n ≤ 4) : ∀ (m i : Nat) (X1 : zX) (e4 e5 e6 e7 : Option Value), i + m = n → kp 11 13 X X1 → X1.1 12 = nI i → (∀ k, k < i → chD X 0 n X1 k) → Z G mX1_load (zrm 2 0 0) 0 0 9 [some (.ref 27), some (.ref 1), some (.ref 11), some (.int (nI i)), e4, e5, e6, e7] [] (zw X1 Y O) (fun r w2 => r = .inl none ∧ ∃ X2, w2 = zw X2 Y O ∧ kp 11 13 X X2 ∧ ∀ k, k < n → chD X 0 n X2 k) := by
  intro m
  induction m with
  | zero =>
    intro i X1 e4 e5 e6 e7 hi hk hl hd
    refine z_iload_n (i := 3) dX1_load_9 rfl rfl (q := 10) rfl ?_
    refine z_aload_n (i := 1) dX1_load_10 rfl rfl (q := 11) rfl ?_
    refine z_callVF (As := []) dX1_load_11 kX1_29 (c_X0_count (t := 0) (by decide) ) (wo_across _ _ _) rfl rfl (zle rfl) ⟨zle rfl, zle rfl⟩ ⟨zle rfl, zle rfl⟩ (q := 14) rfl ?_
    rw [show X1.1 (2 * 0) = nI n from (hk.1 _ (by decide)).1.trans hn]
    refine z_icmp_ge (tgt := 139) dX1_load_14 (by decide) (q := 17) rfl (fun h14 => ?_) (fun h14 => absurd (zge_t (by omega)) h14)
    exact z_vret dX1_load_139 rfl ⟨zle rfl, zle rfl⟩ ⟨rfl, X1, rfl, hk, fun k h => hd k (by omega)⟩
  | succ m ih =>
    intro i X1 e4 e5 e6 e7 hi hk hl hd
    refine z_iload_n (i := 3) dX1_load_9 rfl rfl (q := 10) rfl ?_
    refine z_aload_n (i := 1) dX1_load_10 rfl rfl (q := 11) rfl ?_
    refine z_callVF (As := []) dX1_load_11 kX1_29 (c_X0_count (t := 0) (by decide) ) (wo_across _ _ _) rfl rfl (zle rfl) ⟨zle rfl, zle rfl⟩ ⟨zle rfl, zle rfl⟩ (q := 14) rfl ?_
    rw [show X1.1 (2 * 0) = nI n from (hk.1 _ (by decide)).1.trans hn]
    refine z_icmp_ge (tgt := 139) dX1_load_14 (by decide) (q := 17) rfl (fun h14 => absurd h14 (zge_f (by omega) (by omega))) (fun h14 => ?_)
    refine z_aload_n (i := 1) dX1_load_17 rfl rfl (q := 18) rfl ?_
    refine z_iload_n (i := 3) dX1_load_18 rfl rfl (q := 19) rfl ?_
    refine z_aload_n (i := 0) dX1_load_19 rfl rfl (q := 20) rfl ?_
    refine z_get dX1_load_20 fX1_23 (wo_choices _ _ _) rfl (q := 23) rfl ?_
    refine z_callVF (As := [_, _]) dX1_load_23 kX1_35 (c_X0_listSnaps_0_13 (X := X1) ((hk.1 _ (by decide)).1.trans hn) h4 (by omega)) (wo_across _ _ _) rfl rfl (zle rfl) ⟨zle rfl, zle rfl⟩ ⟨zle rfl, zle rfl⟩ (q := 26) rfl ?_
    refine z_iconst (v := 0) dX1_load_26 rfl (q := 27) rfl ?_
    refine z_istore dX1_load_27 (zle rfl) rfl (q := 29) rfl ?_
    refine z_iconst (v := 0) dX1_load_29 rfl (q := 30) rfl ?_
    refine z_istore dX1_load_30 (zle rfl) rfl (q := 32) rfl ?_
    refine z_X1_load_32_0 (X := X) (n := n) (i := i) (len := (snAll (X1.2.1 13) (X1.2.1 (2 * 0)) (X1.2.1 (2 * 0 + 1)) n i).2) (g := (snAll (X1.2.1 13) (X1.2.1 (2 * 0)) (X1.2.1 (2 * 0 + 1)) n i).1) (f11 := X1.2.1 11) (f12 := X1.2.1 12) (by omega) (snAll_len _ _ _ h4 (by omega)) (snAll_slist _ _ _ n i).1 (fun X2 c e6 e7 hw hc => ?_) (snAll (X1.2.1 13) (X1.2.1 (2 * 0)) (X1.2.1 (2 * 0 + 1)) n i).2 0 0 _ _ _ (by omega) ⟨kp_row hk (by omega) _ _, (xrow_ln X1 (by decide) _ _).trans hl, xrow_fn X1 (by decide) _ _, xrow_l X1 13 _ _, xrow_f X1 13 _ _, fun q _ => congrFun (xrow_fn X1 (by decide) _ _) q⟩ (chI_0 _ _ _ _ _)
    refine z_aload_n (i := 0) dX1_load_124 rfl rfl (q := 125) rfl ?_
    refine z_get dX1_load_125 fX1_20 (wo_choices _ _ _) rfl (q := 128) rfl ?_
    refine z_iload dX1_load_128 rfl (q := 130) rfl ?_
    refine z_callVF (As := [_]) dX1_load_130 kX1_60 (c_X4_append' (k := i) (wr_12 _ _ _) hw.2.1 (by omega) (by decide)) (wr_12 _ _ _).1 rfl rfl (zle rfl) ⟨zle rfl, zle rfl⟩ ⟨zle rfl, zle rfl⟩ (q := 133) rfl ?_
    refine Z.eqw (wp_12 _ _ _ _ _) ?_
    refine z_iinc dX1_load_133 rfl rfl (zle rfl) rfl (q := 136) rfl ?_
    refine z_goto (tgt := 9) dX1_load_136 (by decide) ?_
    refine Z.eql (zl2 := [some (.ref 27), some (.ref 1), some (.ref 11), some (.int (nI (i + 1))), some (.int (nI c)), some (.int (nI (snAll (X1.2.1 13) (X1.2.1 (2 * 0)) (X1.2.1 (2 * 0 + 1)) n i).2)), e6, e7]) (by first | (rw [← nI_1 i]; done) | (rw [← nI_1 i]; rfl)) ?_
    refine ih (i + 1) _ _ _ _ _ (by omega) (kp_row hw.1 (by omega) _ _) (xrow_l X2 12 _ _) (fun k h => ?_)
    rcases Nat.lt_or_ge k i with h1 | h1
    · obtain ⟨c2, h2, h3, h5⟩ := hd k h1
      refine ⟨c2, h2, ?_, ?_⟩
      · rw [xrow_f, show upd (X2.2.1 12) i (nI c) k = X2.2.1 12 k from if_neg (by omega), hw.2.2.1]; exact h3
      · rw [show (fun j => (xrow X2 12 (upd (X2.2.1 12) i (nI c)) (nI (i + 1))).2.1 11 (10 * k + j)) = fun j => if 10 * k + j < 10 * i then X1.2.1 11 (10 * k + j) else X2.2.1 11 (10 * k + j) from funext fun j => by rw [xrow_fn X2 (by decide)]; split; (rename_i h6; exact hw.2.2.2.2.2 _ h6); rfl]
        refine ⟨fun a b hab hb => ?_, fun j hj => ?_, fun v hv => ?_⟩
        · have h7 := h5.1 a b hab hb
          show (if 10 * k + a < 10 * i then _ else _) < (if 10 * k + b < 10 * i then _ else _)
          rw [if_pos (by omega), if_pos (by omega)]; exact h7
        · have h7 := h5.2.1 j hj
          show (isSnap _ _ _ _ (if 10 * k + j < 10 * i then _ else _) ∧ chq _ _ _ (if 10 * k + j < 10 * i then _ else _))
          rw [if_pos (by omega)]; exact h7
        · obtain ⟨j, h7, h8⟩ := h5.2.2 v hv
          exact ⟨j, h7, (if_pos (by omega)).trans h8⟩
    · have h2 : k = i := by omega
      subst h2
      refine ⟨c, Nat.le_trans hc.1 (snAll_len _ _ _ h4 (by omega)), ?_, ?_⟩
      · rw [xrow_f]; exact if_pos rfl
      · rw [xrow_fn X2 (by decide)]
        have h6 := chI_D hc (snAll_slist (X1.2.1 13) (X1.2.1 (2 * 0)) (X1.2.1 (2 * 0 + 1)) n k)
        rw [(hk.1 (2 * 0) (by decide)).2, (hk.1 (2 * 0 + 1) (by decide)).2] at h6
        exact h6
set_option maxRecDepth 100000 in
set_option maxHeartbeats 4000000 in
theorem c_X1_load_0 {n : Nat} (hn : X.1 (2 * 0) = nI n) (h4 : n ≤ 4) : ZM G mX1_load 2 0 0 [.ref 27, .ref 1, .ref 11] (zw X Y O) (fun r w2 => r = .inl none ∧ ∃ X2, w2 = zw X2 Y O ∧ kp 11 13 X X2 ∧ ∀ k, k < n → chD X 0 n X2 k) := by
  refine ZM.go pX1 rfl rfl (zle rfl) (zl := [some (.ref 27), some (.ref 1), some (.ref 11), none, none, none, none, none]) rfl ?_
  refine z_aload_n (i := 0) dX1_load_0 rfl rfl (q := 1) rfl ?_
  refine z_get dX1_load_1 fX1_20 (wo_choices _ _ _) rfl (q := 4) rfl ?_
  refine z_callVF (As := []) dX1_load_4 kX1_26 (c_X4_clear (wr_12 _ _ _)) (wr_12 _ _ _).1 rfl rfl (zle rfl) ⟨zle rfl, zle rfl⟩ ⟨zle rfl, zle rfl⟩ (q := 7) rfl ?_
  refine Z.eqw (wp_12 _ _ _ _ _) ?_
  refine z_iconst (v := 0) dX1_load_7 rfl (q := 8) rfl ?_
  refine z_istore_n (i := 3) dX1_load_8 rfl (zle rfl) rfl (q := 9) rfl ?_
  exact z_X1_load_9_0 hn h4 n 0 _ _ _ _ _ (by omega) (kp_row (kp_refl 11 13 X) (by omega) _ _) (xrow_l X 12 _ _) (fun k h => absurd h (Nat.not_lt_zero _))
set_option maxRecDepth 100000 in
set_option maxHeartbeats 4000000 in
theorem z_X1_load_32_1 {n i len : Nat} {g f11 f12 : Nat → Int32} {P : zRes → zWorld → Prop} (hi : i < 4) (hl : len ≤ 10) (hg : ∀ a b, a < b → b < len → g a < g b) (hx : ∀ (X2 : zX) (c : Nat) (e6 e7 : Option Value), chW X 1 n i len g f11 f12 X2 → chI X 1 i g (X2.2.1 11) len c → Z G mX1_load (zrm 2 0 0) 0 0 124 [some (.ref 27), some (.ref 6), some (.ref 11), some (.int (nI i)), some (.int (nI c)), some (.int (nI len)), e6, e7] [] (zw X2 Y O) P) : ∀ (m e c : Nat) (X1 : zX) (e6 e7 : Option Value), e + m = len → chW X 1 n i len g f11 f12 X1 → chI X 1 i g (X1.2.1 11) e c → Z G mX1_load (zrm 2 0 0) 0 0 32 [some (.ref 27), some (.ref 6), some (.ref 11), some (.int (nI i)), some (.int (nI c)), some (.int (nI e)), e6, e7] [] (zw X1 Y O) P := by
  intro m
  induction m with
  | zero =>
    intro e c X1 e6 e7 he hw hc
    have hin : e = len := by omega
    rw [hin] at hc ⊢
    refine z_iload dX1_load_32 rfl (q := 34) rfl ?_
    refine z_aload_n (i := 0) dX1_load_34 rfl rfl (q := 35) rfl ?_
    refine z_get dX1_load_35 fX1_23 (wo_choices _ _ _) rfl (q := 38) rfl ?_
    refine z_callVF (As := []) dX1_load_38 kX1_39 (c_X4_length (wr_13 _ _ _)) (wr_13 _ _ _).1 rfl rfl (zle rfl) ⟨zle rfl, zle rfl⟩ ⟨zle rfl, zle rfl⟩ (q := 41) rfl ?_
    rw [show X1.1 13 = nI len from hw.2.2.2.1]
    refine z_icmp_ge (tgt := 124) dX1_load_41 (by decide) (q := 44) rfl (fun h41 => ?_) (fun h41 => absurd (zge_t (by omega)) h41)
    exact hx X1 c e6 e7 hw hc
  | succ m ih =>
    intro e c X1 e6 e7 he hw hc
    have hce : c ≤ e := hc.1
    refine z_iload dX1_load_32 rfl (q := 34) rfl ?_
    refine z_aload_n (i := 0) dX1_load_34 rfl rfl (q := 35) rfl ?_
    refine z_get dX1_load_35 fX1_23 (wo_choices _ _ _) rfl (q := 38) rfl ?_
    refine z_callVF (As := []) dX1_load_38 kX1_39 (c_X4_length (wr_13 _ _ _)) (wr_13 _ _ _).1 rfl rfl (zle rfl) ⟨zle rfl, zle rfl⟩ ⟨zle rfl, zle rfl⟩ (q := 41) rfl ?_
    rw [show X1.1 13 = nI len from hw.2.2.2.1]
    refine z_icmp_ge (tgt := 124) dX1_load_41 (by decide) (q := 44) rfl (fun h41 => absurd h41 (zge_f (by omega) (by omega))) (fun h41 => ?_)
    refine z_aload_n (i := 0) dX1_load_44 rfl rfl (q := 45) rfl ?_
    refine z_get dX1_load_45 fX1_23 (wo_choices _ _ _) rfl (q := 48) rfl ?_
    refine z_iload dX1_load_48 rfl (q := 50) rfl ?_
    refine z_callVF (As := [_]) dX1_load_50 kX1_42 (c_X4_get  (wr_13 _ _ _) (by omega) (by decide)) (wr_13 _ _ _).1 rfl rfl (zle rfl) ⟨zle rfl, zle rfl⟩ ⟨zle rfl, zle rfl⟩ (q := 53) rfl ?_
    rw [show X1.2.1 13 e = g e from congrFun hw.2.2.2.2.1 e]
    refine z_istore dX1_load_53 (zle rfl) rfl (q := 55) rfl ?_
    refine z_aload_n (i := 2) dX1_load_55 rfl rfl (q := 56) rfl ?_
    refine z_iload_n (i := 3) dX1_load_56 rfl rfl (q := 57) rfl ?_
    refine z_callVF (As := [_]) dX1_load_57 kX1_42 (c_X4_get  (wr_4 _ _ _) (by omega) (by decide)) (wr_4 _ _ _).1 rfl rfl (zle rfl) ⟨zle rfl, zle rfl⟩ ⟨zle rfl, zle rfl⟩ (q := 60) rfl ?_
    rw [show X1.2.1 4 i = X.2.1 4 i from kp_f hw.1 (by decide) i]
    refine z_if_eq (tgt := 73) dX1_load_60 (by decide) (q := 63) rfl (fun h60 => ?_) (fun h60 => ?_)
    · refine z_iconst (v := 1) dX1_load_73 rfl (q := 74) rfl ?_
      refine z_goto (tgt := 78) dX1_load_74 (by decide) ?_
      refine z_istore dX1_load_78 (zle rfl) rfl (q := 80) rfl ?_
      refine z_iload dX1_load_80 rfl (q := 82) rfl ?_
      refine z_if_eq (tgt := 118) dX1_load_82 (by decide) (q := 85) rfl (fun h82 => absurd h82 (by decide)) (fun h82 => ?_)
      refine z_aload_n (i := 1) dX1_load_85 rfl rfl (q := 86) rfl ?_
      refine z_iload dX1_load_86 rfl (q := 88) rfl ?_
      refine z_aload_n (i := 1) dX1_load_88 rfl rfl (q := 89) rfl ?_
      refine z_iload_n (i := 3) dX1_load_89 rfl rfl (q := 90) rfl ?_
      refine z_callVF (As := [_]) dX1_load_90 kX1_49 (c_X0_sizeAt (t := 1) (by decide) (by omega)) (wo_down _ _ _) rfl rfl (zle rfl) ⟨zle rfl, zle rfl⟩ ⟨zle rfl, zle rfl⟩ (q := 93) rfl ?_
      rw [show X1.2.1 (2 * 1 + 1) i = X.2.1 (2 * 1 + 1) i from kp_f hw.1 (by decide) i]
      refine z_callVF (As := [_, _]) dX1_load_93 kX1_52 (c_X0_holds (t := 1) (by decide) ) (wo_down _ _ _) rfl rfl (zle rfl) ⟨zle rfl, zle rfl⟩ ⟨zle rfl, zle rfl⟩ (q := 96) rfl ?_
      refine z_if_eq (tgt := 118) dX1_load_96 (by decide) (q := 99) rfl (fun h96 => ?_) (fun h96 => ?_)
      · replace h96 := zb_0.mp h96
        refine z_iinc dX1_load_118 rfl rfl (zle rfl) rfl (q := 121) rfl ?_
        refine z_goto (tgt := 32) dX1_load_121 (by decide) ?_
        refine Z.eql (zl2 := [some (.ref 27), some (.ref 6), some (.ref 11), some (.int (nI i)), some (.int (nI c)), some (.int (nI (e + 1))), some (.int (g e)), some (.int 1)]) (by first | (rw [← nI_1 e]; done) | (rw [← nI_1 e]; rfl)) ?_
        exact ih (e + 1) c X1 _ _ (by omega) hw (chI_skip hc (fun h9 => h96 h9.2))
      · replace h96 := zb_1.mp h96
        refine z_aload_n (i := 0) dX1_load_99 rfl rfl (q := 100) rfl ?_
        refine z_get dX1_load_100 fX1_14 (wo_choices _ _ _) rfl (q := 103) rfl ?_
        refine z_iload_n (i := 3) dX1_load_103 rfl rfl (q := 104) rfl ?_
        refine z_bipush (v := 10) dX1_load_104 rfl (q := 106) rfl ?_
        refine z_imul dX1_load_106 (q := 107) rfl ?_
        refine z_iload dX1_load_107 rfl (q := 109) rfl ?_
        refine z_iadd dX1_load_109 (q := 110) rfl ?_
        refine z_iload dX1_load_110 rfl (q := 112) rfl ?_
        rw [nI_10]
        refine z_callVF (As := [_, _]) dX1_load_112 kX1_56 (c_X4_set (k := 10 * i + c) (wr_11 _ _ _) (by omega) (by decide)) (wr_11 _ _ _).1 rfl rfl (zle rfl) ⟨zle rfl, zle rfl⟩ ⟨zle rfl, zle rfl⟩ (q := 115) rfl ?_
        refine Z.eqw (wp_11 _ _ _ _ _) ?_
        refine z_iinc dX1_load_115 rfl rfl (zle rfl) rfl (q := 118) rfl ?_
        refine z_iinc dX1_load_118 rfl rfl (zle rfl) rfl (q := 121) rfl ?_
        refine z_goto (tgt := 32) dX1_load_121 (by decide) ?_
        refine Z.eql (zl2 := [some (.ref 27), some (.ref 6), some (.ref 11), some (.int (nI i)), some (.int (nI (c + 1))), some (.int (nI (e + 1))), some (.int (g e)), some (.int 1)]) (by first | (rw [← nI_1 e, ← nI_1 c]; done) | (rw [← nI_1 e, ← nI_1 c]; rfl)) ?_
        refine ih (e + 1) (c + 1) _ _ _ (by omega) (chW_set hw c (g e) _) ?_
        rw [xrow_f]
        exact chI_add hc (fun d hd => hg d e hd (by omega)) ⟨Or.inl h60, h96⟩
    · refine z_iload dX1_load_63 rfl (q := 65) rfl ?_
      refine z_aload_n (i := 1) dX1_load_65 rfl rfl (q := 66) rfl ?_
      refine z_iload_n (i := 3) dX1_load_66 rfl rfl (q := 67) rfl ?_
      refine z_callVF (As := [_]) dX1_load_67 kX1_46 (c_X0_startAt (t := 1) (by decide) (by omega)) (wo_down _ _ _) rfl rfl (zle rfl) ⟨zle rfl, zle rfl⟩ ⟨zle rfl, zle rfl⟩ (q := 70) rfl ?_
      rw [show X1.2.1 (2 * 1) i = X.2.1 (2 * 1) i from kp_f hw.1 (by decide) i]
      refine z_icmp_ne (tgt := 77) dX1_load_70 (by decide) (q := 73) rfl (fun h70 => ?_) (fun h70 => ?_)
      · refine z_iconst (v := 0) dX1_load_77 rfl (q := 78) rfl ?_
        refine z_istore dX1_load_78 (zle rfl) rfl (q := 80) rfl ?_
        refine z_iload dX1_load_80 rfl (q := 82) rfl ?_
        refine z_if_eq (tgt := 118) dX1_load_82 (by decide) (q := 85) rfl (fun h82 => ?_) (fun h82 => absurd rfl h82)
        refine z_iinc dX1_load_118 rfl rfl (zle rfl) rfl (q := 121) rfl ?_
        refine z_goto (tgt := 32) dX1_load_121 (by decide) ?_
        refine Z.eql (zl2 := [some (.ref 27), some (.ref 6), some (.ref 11), some (.int (nI i)), some (.int (nI c)), some (.int (nI (e + 1))), some (.int (g e)), some (.int 0)]) (by first | (rw [← nI_1 e]; done) | (rw [← nI_1 e]; rfl)) ?_
        exact ih (e + 1) c X1 _ _ (by omega) hw (chI_skip hc (fun h9 => h9.1.elim h60 h70))
      · refine z_iconst (v := 1) dX1_load_73 rfl (q := 74) rfl ?_
        refine z_goto (tgt := 78) dX1_load_74 (by decide) ?_
        refine z_istore dX1_load_78 (zle rfl) rfl (q := 80) rfl ?_
        refine z_iload dX1_load_80 rfl (q := 82) rfl ?_
        refine z_if_eq (tgt := 118) dX1_load_82 (by decide) (q := 85) rfl (fun h82 => absurd h82 (by decide)) (fun h82 => ?_)
        refine z_aload_n (i := 1) dX1_load_85 rfl rfl (q := 86) rfl ?_
        refine z_iload dX1_load_86 rfl (q := 88) rfl ?_
        refine z_aload_n (i := 1) dX1_load_88 rfl rfl (q := 89) rfl ?_
        refine z_iload_n (i := 3) dX1_load_89 rfl rfl (q := 90) rfl ?_
        refine z_callVF (As := [_]) dX1_load_90 kX1_49 (c_X0_sizeAt (t := 1) (by decide) (by omega)) (wo_down _ _ _) rfl rfl (zle rfl) ⟨zle rfl, zle rfl⟩ ⟨zle rfl, zle rfl⟩ (q := 93) rfl ?_
        rw [show X1.2.1 (2 * 1 + 1) i = X.2.1 (2 * 1 + 1) i from kp_f hw.1 (by decide) i]
        refine z_callVF (As := [_, _]) dX1_load_93 kX1_52 (c_X0_holds (t := 1) (by decide) ) (wo_down _ _ _) rfl rfl (zle rfl) ⟨zle rfl, zle rfl⟩ ⟨zle rfl, zle rfl⟩ (q := 96) rfl ?_
        refine z_if_eq (tgt := 118) dX1_load_96 (by decide) (q := 99) rfl (fun h96 => ?_) (fun h96 => ?_)
        · replace h96 := zb_0.mp h96
          refine z_iinc dX1_load_118 rfl rfl (zle rfl) rfl (q := 121) rfl ?_
          refine z_goto (tgt := 32) dX1_load_121 (by decide) ?_
          refine Z.eql (zl2 := [some (.ref 27), some (.ref 6), some (.ref 11), some (.int (nI i)), some (.int (nI c)), some (.int (nI (e + 1))), some (.int (g e)), some (.int 1)]) (by first | (rw [← nI_1 e]; done) | (rw [← nI_1 e]; rfl)) ?_
          exact ih (e + 1) c X1 _ _ (by omega) hw (chI_skip hc (fun h9 => h96 h9.2))
        · replace h96 := zb_1.mp h96
          refine z_aload_n (i := 0) dX1_load_99 rfl rfl (q := 100) rfl ?_
          refine z_get dX1_load_100 fX1_14 (wo_choices _ _ _) rfl (q := 103) rfl ?_
          refine z_iload_n (i := 3) dX1_load_103 rfl rfl (q := 104) rfl ?_
          refine z_bipush (v := 10) dX1_load_104 rfl (q := 106) rfl ?_
          refine z_imul dX1_load_106 (q := 107) rfl ?_
          refine z_iload dX1_load_107 rfl (q := 109) rfl ?_
          refine z_iadd dX1_load_109 (q := 110) rfl ?_
          refine z_iload dX1_load_110 rfl (q := 112) rfl ?_
          rw [nI_10]
          refine z_callVF (As := [_, _]) dX1_load_112 kX1_56 (c_X4_set (k := 10 * i + c) (wr_11 _ _ _) (by omega) (by decide)) (wr_11 _ _ _).1 rfl rfl (zle rfl) ⟨zle rfl, zle rfl⟩ ⟨zle rfl, zle rfl⟩ (q := 115) rfl ?_
          refine Z.eqw (wp_11 _ _ _ _ _) ?_
          refine z_iinc dX1_load_115 rfl rfl (zle rfl) rfl (q := 118) rfl ?_
          refine z_iinc dX1_load_118 rfl rfl (zle rfl) rfl (q := 121) rfl ?_
          refine z_goto (tgt := 32) dX1_load_121 (by decide) ?_
          refine Z.eql (zl2 := [some (.ref 27), some (.ref 6), some (.ref 11), some (.int (nI i)), some (.int (nI (c + 1))), some (.int (nI (e + 1))), some (.int (g e)), some (.int 1)]) (by first | (rw [← nI_1 e, ← nI_1 c]; done) | (rw [← nI_1 e, ← nI_1 c]; rfl)) ?_
          refine ih (e + 1) (c + 1) _ _ _ (by omega) (chW_set hw c (g e) _) ?_
          rw [xrow_f]
          exact chI_add hc (fun d hd => hg d e hd (by omega)) ⟨Or.inr h70, h96⟩
set_option maxRecDepth 100000 in
set_option maxHeartbeats 4000000 in
theorem z_X1_load_9_1 {n : Nat} (hn : X.1 (2 * 1) = nI n) (h4 : n ≤ 4) : ∀ (m i : Nat) (X1 : zX) (e4 e5 e6 e7 : Option Value), i + m = n → kp 11 13 X X1 → X1.1 12 = nI i → (∀ k, k < i → chD X 1 n X1 k) → Z G mX1_load (zrm 2 0 0) 0 0 9 [some (.ref 27), some (.ref 6), some (.ref 11), some (.int (nI i)), e4, e5, e6, e7] [] (zw X1 Y O) (fun r w2 => r = .inl none ∧ ∃ X2, w2 = zw X2 Y O ∧ kp 11 13 X X2 ∧ ∀ k, k < n → chD X 1 n X2 k) := by
  intro m
  induction m with
  | zero =>
    intro i X1 e4 e5 e6 e7 hi hk hl hd
    refine z_iload_n (i := 3) dX1_load_9 rfl rfl (q := 10) rfl ?_
    refine z_aload_n (i := 1) dX1_load_10 rfl rfl (q := 11) rfl ?_
    refine z_callVF (As := []) dX1_load_11 kX1_29 (c_X0_count (t := 1) (by decide) ) (wo_down _ _ _) rfl rfl (zle rfl) ⟨zle rfl, zle rfl⟩ ⟨zle rfl, zle rfl⟩ (q := 14) rfl ?_
    rw [show X1.1 (2 * 1) = nI n from (hk.1 _ (by decide)).1.trans hn]
    refine z_icmp_ge (tgt := 139) dX1_load_14 (by decide) (q := 17) rfl (fun h14 => ?_) (fun h14 => absurd (zge_t (by omega)) h14)
    exact z_vret dX1_load_139 rfl ⟨zle rfl, zle rfl⟩ ⟨rfl, X1, rfl, hk, fun k h => hd k (by omega)⟩
  | succ m ih =>
    intro i X1 e4 e5 e6 e7 hi hk hl hd
    refine z_iload_n (i := 3) dX1_load_9 rfl rfl (q := 10) rfl ?_
    refine z_aload_n (i := 1) dX1_load_10 rfl rfl (q := 11) rfl ?_
    refine z_callVF (As := []) dX1_load_11 kX1_29 (c_X0_count (t := 1) (by decide) ) (wo_down _ _ _) rfl rfl (zle rfl) ⟨zle rfl, zle rfl⟩ ⟨zle rfl, zle rfl⟩ (q := 14) rfl ?_
    rw [show X1.1 (2 * 1) = nI n from (hk.1 _ (by decide)).1.trans hn]
    refine z_icmp_ge (tgt := 139) dX1_load_14 (by decide) (q := 17) rfl (fun h14 => absurd h14 (zge_f (by omega) (by omega))) (fun h14 => ?_)
    refine z_aload_n (i := 1) dX1_load_17 rfl rfl (q := 18) rfl ?_
    refine z_iload_n (i := 3) dX1_load_18 rfl rfl (q := 19) rfl ?_
    refine z_aload_n (i := 0) dX1_load_19 rfl rfl (q := 20) rfl ?_
    refine z_get dX1_load_20 fX1_23 (wo_choices _ _ _) rfl (q := 23) rfl ?_
    refine z_callVF (As := [_, _]) dX1_load_23 kX1_35 (c_X0_listSnaps_1_13 (X := X1) ((hk.1 _ (by decide)).1.trans hn) h4 (by omega)) (wo_down _ _ _) rfl rfl (zle rfl) ⟨zle rfl, zle rfl⟩ ⟨zle rfl, zle rfl⟩ (q := 26) rfl ?_
    refine z_iconst (v := 0) dX1_load_26 rfl (q := 27) rfl ?_
    refine z_istore dX1_load_27 (zle rfl) rfl (q := 29) rfl ?_
    refine z_iconst (v := 0) dX1_load_29 rfl (q := 30) rfl ?_
    refine z_istore dX1_load_30 (zle rfl) rfl (q := 32) rfl ?_
    refine z_X1_load_32_1 (X := X) (n := n) (i := i) (len := (snAll (X1.2.1 13) (X1.2.1 (2 * 1)) (X1.2.1 (2 * 1 + 1)) n i).2) (g := (snAll (X1.2.1 13) (X1.2.1 (2 * 1)) (X1.2.1 (2 * 1 + 1)) n i).1) (f11 := X1.2.1 11) (f12 := X1.2.1 12) (by omega) (snAll_len _ _ _ h4 (by omega)) (snAll_slist _ _ _ n i).1 (fun X2 c e6 e7 hw hc => ?_) (snAll (X1.2.1 13) (X1.2.1 (2 * 1)) (X1.2.1 (2 * 1 + 1)) n i).2 0 0 _ _ _ (by omega) ⟨kp_row hk (by omega) _ _, (xrow_ln X1 (by decide) _ _).trans hl, xrow_fn X1 (by decide) _ _, xrow_l X1 13 _ _, xrow_f X1 13 _ _, fun q _ => congrFun (xrow_fn X1 (by decide) _ _) q⟩ (chI_0 _ _ _ _ _)
    refine z_aload_n (i := 0) dX1_load_124 rfl rfl (q := 125) rfl ?_
    refine z_get dX1_load_125 fX1_20 (wo_choices _ _ _) rfl (q := 128) rfl ?_
    refine z_iload dX1_load_128 rfl (q := 130) rfl ?_
    refine z_callVF (As := [_]) dX1_load_130 kX1_60 (c_X4_append' (k := i) (wr_12 _ _ _) hw.2.1 (by omega) (by decide)) (wr_12 _ _ _).1 rfl rfl (zle rfl) ⟨zle rfl, zle rfl⟩ ⟨zle rfl, zle rfl⟩ (q := 133) rfl ?_
    refine Z.eqw (wp_12 _ _ _ _ _) ?_
    refine z_iinc dX1_load_133 rfl rfl (zle rfl) rfl (q := 136) rfl ?_
    refine z_goto (tgt := 9) dX1_load_136 (by decide) ?_
    refine Z.eql (zl2 := [some (.ref 27), some (.ref 6), some (.ref 11), some (.int (nI (i + 1))), some (.int (nI c)), some (.int (nI (snAll (X1.2.1 13) (X1.2.1 (2 * 1)) (X1.2.1 (2 * 1 + 1)) n i).2)), e6, e7]) (by first | (rw [← nI_1 i]; done) | (rw [← nI_1 i]; rfl)) ?_
    refine ih (i + 1) _ _ _ _ _ (by omega) (kp_row hw.1 (by omega) _ _) (xrow_l X2 12 _ _) (fun k h => ?_)
    rcases Nat.lt_or_ge k i with h1 | h1
    · obtain ⟨c2, h2, h3, h5⟩ := hd k h1
      refine ⟨c2, h2, ?_, ?_⟩
      · rw [xrow_f, show upd (X2.2.1 12) i (nI c) k = X2.2.1 12 k from if_neg (by omega), hw.2.2.1]; exact h3
      · rw [show (fun j => (xrow X2 12 (upd (X2.2.1 12) i (nI c)) (nI (i + 1))).2.1 11 (10 * k + j)) = fun j => if 10 * k + j < 10 * i then X1.2.1 11 (10 * k + j) else X2.2.1 11 (10 * k + j) from funext fun j => by rw [xrow_fn X2 (by decide)]; split; (rename_i h6; exact hw.2.2.2.2.2 _ h6); rfl]
        refine ⟨fun a b hab hb => ?_, fun j hj => ?_, fun v hv => ?_⟩
        · have h7 := h5.1 a b hab hb
          show (if 10 * k + a < 10 * i then _ else _) < (if 10 * k + b < 10 * i then _ else _)
          rw [if_pos (by omega), if_pos (by omega)]; exact h7
        · have h7 := h5.2.1 j hj
          show (isSnap _ _ _ _ (if 10 * k + j < 10 * i then _ else _) ∧ chq _ _ _ (if 10 * k + j < 10 * i then _ else _))
          rw [if_pos (by omega)]; exact h7
        · obtain ⟨j, h7, h8⟩ := h5.2.2 v hv
          exact ⟨j, h7, (if_pos (by omega)).trans h8⟩
    · have h2 : k = i := by omega
      subst h2
      refine ⟨c, Nat.le_trans hc.1 (snAll_len _ _ _ h4 (by omega)), ?_, ?_⟩
      · rw [xrow_f]; exact if_pos rfl
      · rw [xrow_fn X2 (by decide)]
        have h6 := chI_D hc (snAll_slist (X1.2.1 13) (X1.2.1 (2 * 1)) (X1.2.1 (2 * 1 + 1)) n k)
        rw [(hk.1 (2 * 1) (by decide)).2, (hk.1 (2 * 1 + 1) (by decide)).2] at h6
        exact h6
set_option maxRecDepth 100000 in
set_option maxHeartbeats 4000000 in
theorem c_X1_load_1 {n : Nat} (hn : X.1 (2 * 1) = nI n) (h4 : n ≤ 4) : ZM G mX1_load 2 0 0 [.ref 27, .ref 6, .ref 11] (zw X Y O) (fun r w2 => r = .inl none ∧ ∃ X2, w2 = zw X2 Y O ∧ kp 11 13 X X2 ∧ ∀ k, k < n → chD X 1 n X2 k) := by
  refine ZM.go pX1 rfl rfl (zle rfl) (zl := [some (.ref 27), some (.ref 6), some (.ref 11), none, none, none, none, none]) rfl ?_
  refine z_aload_n (i := 0) dX1_load_0 rfl rfl (q := 1) rfl ?_
  refine z_get dX1_load_1 fX1_20 (wo_choices _ _ _) rfl (q := 4) rfl ?_
  refine z_callVF (As := []) dX1_load_4 kX1_26 (c_X4_clear (wr_12 _ _ _)) (wr_12 _ _ _).1 rfl rfl (zle rfl) ⟨zle rfl, zle rfl⟩ ⟨zle rfl, zle rfl⟩ (q := 7) rfl ?_
  refine Z.eqw (wp_12 _ _ _ _ _) ?_
  refine z_iconst (v := 0) dX1_load_7 rfl (q := 8) rfl ?_
  refine z_istore_n (i := 3) dX1_load_8 rfl (zle rfl) rfl (q := 9) rfl ?_
  exact z_X1_load_9_1 hn h4 n 0 _ _ _ _ _ (by omega) (kp_row (kp_refl 11 13 X) (by omega) _ _) (xrow_l X 12 _ _) (fun k h => absurd h (Nat.not_lt_zero _))
set_option maxRecDepth 100000 in
set_option maxHeartbeats 4000000 in
theorem c_X1_count {k : Nat} (hk : k < 4) : ZM G mX1_count 1 0 0 [.ref 27, .int (nI k)] (zw X Y O) (zEq (some (.int (X.2.1 12 k))) (zw X Y O)) := by
  refine ZM.go pX1 rfl rfl (zle rfl) (zl := [some (.ref 27), some (.int (nI k))]) rfl ?_
  refine z_aload_n (i := 0) dX1_count_0 rfl rfl (q := 1) rfl ?_
  refine z_get dX1_count_1 fX1_20 (wo_choices _ _ _) rfl (q := 4) rfl ?_
  refine z_iload_n (i := 1) dX1_count_4 rfl rfl (q := 5) rfl ?_
  refine z_callVF (As := [_]) dX1_count_5 kX1_42 (c_X4_get  (wr_12 _ _ _) (by omega) (by decide)) (wr_12 _ _ _).1 rfl rfl (zle rfl) ⟨zle rfl, zle rfl⟩ ⟨zle rfl, zle rfl⟩ (q := 8) rfl ?_
  exact z_iret dX1_count_8 rfl ⟨zle rfl, zle rfl⟩ ⟨rfl, rfl⟩
set_option maxRecDepth 100000 in
set_option maxHeartbeats 4000000 in
theorem c_X1_start {k j : Nat} (hk : k < 4) (hj : j < 10) : ZM G mX1_start 1 0 0 [.ref 27, .int (nI k), .int (nI j)] (zw X Y O) (zEq (some (.int (X.2.1 11 (10 * k + j)))) (zw X Y O)) := by
  refine ZM.go pX1 rfl rfl (zle rfl) (zl := [some (.ref 27), some (.int (nI k)), some (.int (nI j))]) rfl ?_
  refine z_aload_n (i := 0) dX1_start_0 rfl rfl (q := 1) rfl ?_
  refine z_get dX1_start_1 fX1_14 (wo_choices _ _ _) rfl (q := 4) rfl ?_
  refine z_iload_n (i := 1) dX1_start_4 rfl rfl (q := 5) rfl ?_
  refine z_bipush (v := 10) dX1_start_5 rfl (q := 7) rfl ?_
  refine z_imul dX1_start_7 (q := 8) rfl ?_
  refine z_iload_n (i := 2) dX1_start_8 rfl rfl (q := 9) rfl ?_
  refine z_iadd dX1_start_9 (q := 10) rfl ?_
  rw [nI_10]
  refine z_callVF (As := [_]) dX1_start_10 kX1_42 (c_X4_get (k := 10 * k + j) (wr_11 _ _ _) (by omega) (by decide)) (wr_11 _ _ _).1 rfl rfl (zle rfl) ⟨zle rfl, zle rfl⟩ ⟨zle rfl, zle rfl⟩ (q := 13) rfl ?_
  exact z_iret dX1_start_13 rfl ⟨zle rfl, zle rfl⟩ ⟨rfl, rfl⟩
end
