section
variable {G : zG} {X : zX} {Y : zY} {O : zO}
set_option maxRecDepth 100000 in
set_option maxHeartbeats 4000000 in
def fAll (T : tsP) (D : Nat → Nat) : Nat := nsum (fun q => hitN T D q) (Tgn T) 0 (Tc2 T)
set_option maxRecDepth 100000 in
set_option maxHeartbeats 4000000 in
theorem fAll_le {n : Nat} {T : tsP} (hT : tsK X n T) (D : Nat → Nat) : fAll T D ≤ 72 := by
  have h := nsum_le (p := fun q => hitN T D q) (g := Tgn T) (b := 9) (Tc2 T) 0 (fun q _ hq => (hT.2.2.2.2.2.2 q (by omega)).2.2.2.2.2.2.2)
  have h2 := hT.2.2.2.2.2.1
  unfold fAll
  omega
/- a row's layout in numbers -/
set_option maxRecDepth 100000 in
set_option maxHeartbeats 4000000 in
def lrw (X : zX) (r : Nat) (D : Nat → Nat) (k : Nat) : Prop := ∀ j, j < k → X.2.1 r j = nI (D j) ∧ D j ≤ 200
set_option maxRecDepth 100000 in
set_option maxHeartbeats 4000000 in
theorem fAll_eq {n r : Nat} {T : tsP} {D : Nat → Nat} (hT : tsK X n T) (hD : lrw X r D n) : rsumc (wishHit X r (Twf T) (Tws T) 0 4) (X.2.1 20) 0 (Tc2 T) 0 = nI (fAll T D) := by
  have h4 := hT.1
  have h := rsumc_nsum (p := fun q => hitN T D q) (p2 := wishHit X r (Twf T) (Tws T) 0 4) (g := Tgn T) (g2 := X.2.1 20) (Tc2 T) 0 0 (fun q _ hq => by
    obtain ⟨g1, g2, g3, g4, g5, g6, g7, g8⟩ := hT.2.2.2.2.2.2 q (by omega)
    refine ⟨?_, g7⟩
    unfold wishHit hitN
    rw [show (0 : Int32) = nI 0 from rfl, show (4 : Int32) = nI 4 from rfl, nI_ltI (by omega) (by omega), nI_ltI (by omega) (by omega)]
    have s1 := hT.2.2.1 (Twf T q) (by omega)
    have s2 := hT.2.2.1 (Tws T q) (by omega)
    have e1 := hD (Twf T q) (by omega)
    have e2 := hD (Tws T q) (by omega)
    rw [e1.1, e2.1, g5, s1.2.2.2.2.1, s2.2.2.2.2.1, hit_mul, hit_mul, nI_eq (hit_lt e1.2 g6 s1.2.2.2.2.2.1) (hit_lt e2.2 g6 s2.2.2.2.2.2.1)]
    constructor
    · rintro ⟨_, _, h3⟩; exact h3
    · intro h3; exact ⟨by omega, by omega, h3⟩)
  rw [show (0 : Int32) = nI 0 from rfl] at h ⊢
  rw [h, Nat.zero_add]
  rfl
set_option maxRecDepth 100000 in
set_option maxHeartbeats 4000000 in
theorem present_lrw {n : Nat} {T : tsP} (hT : tsK X n T) : lrw X 21 (Tpv T) n := fun j hj => ⟨(hT.2.2.1 j hj).2.2.1, (hT.2.2.1 j hj).2.2.2.1⟩
set_option maxRecDepth 100000 in
set_option maxHeartbeats 4000000 in
theorem c_X6_searchTidiest {n : Nat} {T : tsP} (hT : tsK X n T) : ZM G mX6_searchTidiest 11 0 0 [.ref 26] (zw X Y O) (fun r w2 => r = .inl none ∧ ∃ (X2 : zX) (B2 : bst), w2 = zw X2 Y O ∧ ks X X2 ∧ bestW X2 n B2 ∧ res n (comp T n 0 (Tpv T)) (tval T 0 n 0 0) (fAll T (Tpv T), 0, Tpv T) B2) := by
  rcases (show n = 0 ∨ n = 1 ∨ n = 2 ∨ n = 3 ∨ n = 4 by have := hT.1; omega) with rfl | rfl | rfl | rfl | rfl
  · have hpr := present_lrw hT
    have hfa := fAll_le hT (Tpv T)
    refine ZM.go pX6 rfl rfl (zle rfl) (zl := [some (.ref 26)]) rfl ?_
    refine z_aload_n (i := 0) dX6_searchTidiest_0 rfl rfl (q := 1) rfl ?_
    refine z_aload_n (i := 0) dX6_searchTidiest_1 rfl rfl (q := 2) rfl ?_
    refine z_get dX6_searchTidiest_2 fX6_30 (wo_tidySearch _ _ _) rfl (q := 5) rfl ?_
    refine z_aload_n (i := 0) dX6_searchTidiest_5 rfl rfl (q := 6) rfl ?_
    refine z_get dX6_searchTidiest_6 fX6_21 (wo_tidySearch _ _ _) rfl (q := 9) rfl ?_
    refine z_aload_n (i := 0) dX6_searchTidiest_9 rfl rfl (q := 10) rfl ?_
    refine z_get dX6_searchTidiest_10 fX6_30 (wo_tidySearch _ _ _) rfl (q := 13) rfl ?_
    refine z_iconst (v := 0) dX6_searchTidiest_13 rfl (q := 14) rfl ?_
    refine z_iconst (v := 4) dX6_searchTidiest_14 rfl (q := 15) rfl ?_
    refine z_callVF (As := [_, _, _]) dX6_searchTidiest_15 kX6_80 (c_X5_strengthOf_21 (c := Tc2 T) (wf := Twf T) (ws := Tws T) (tsK_wish hT)) (wo_rules _ _ _) rfl rfl (zle rfl) ⟨zle rfl, zle rfl⟩ ⟨zle rfl, zle rfl⟩ (q := 18) rfl ?_
    rw [fAll_eq hT hpr]
    refine z_iconst (v := 0) dX6_searchTidiest_18 rfl (q := 19) rfl ?_
    refine z_callV (As := [_, _, _]) dX6_searchTidiest_19 kX6_84 (c_X6_keep_21 (n := 0) hT.2.1 (by decide)) (wo_tidySearch _ _ _) rfl rfl (zle rfl) ⟨zle rfl, zle rfl⟩ ⟨zle rfl, zle rfl⟩ (q := 22) rfl (fun rv w2 hw2 => ?_) (fun E w2 h9 => by cases h9.1)
    obtain ⟨h9, X2, rfl, hkt, hi0, hi1, h24⟩ := hw2
    cases h9
    have hk := ks_kt hkt
    have hB : bestW X2 0 (fAll T (Tpv T), 0, Tpv T) := ⟨hi0, hi1, by show fAll T (Tpv T) ≤ 1000; omega, by show 0 ≤ 1000; omega, fun j h => (h24 j h).trans (hpr j h).1⟩
    refine z_aload_n (i := 0) dX6_searchTidiest_22 rfl rfl (q := 23) rfl ?_
    refine z_iconst (v := 0) dX6_searchTidiest_23 rfl (q := 24) rfl ?_
    refine z_iconst (v := 0) dX6_searchTidiest_24 rfl (q := 25) rfl ?_
    refine z_iconst (v := 0) dX6_searchTidiest_25 rfl (q := 26) rfl ?_
    refine z_callV (As := [_, _, _]) dX6_searchTidiest_26 kX6_88 (c_X6_placeFrom_0 (k := 0) (str := 0) (cost := 0) (T := T) (D0 := Tpv T) (B := (fAll T (Tpv T), 0, Tpv T)) (tsK_ks hk hT) rfl (fun j h => absurd h (Nat.not_lt_zero _)) (Nat.zero_le _) (Nat.zero_le _) hB) (wo_tidySearch _ _ _) rfl rfl (zle rfl) ⟨zle rfl, zle rfl⟩ ⟨zle rfl, zle rfl⟩ (q := 29) rfl (fun rv w2 hw2 => ?_) (fun E w2 h9 => by cases h9.1)
    obtain ⟨h9, X3, B2, rfl, hk2, _, hB2, hr⟩ := hw2
    cases h9
    exact z_vret dX6_searchTidiest_29 rfl ⟨zle rfl, zle rfl⟩ ⟨rfl, X3, B2, rfl, ks_trans hk hk2, hB2, hr⟩
  · have hpr := present_lrw hT
    have hfa := fAll_le hT (Tpv T)
    refine ZM.go pX6 rfl rfl (zle rfl) (zl := [some (.ref 26)]) rfl ?_
    refine z_aload_n (i := 0) dX6_searchTidiest_0 rfl rfl (q := 1) rfl ?_
    refine z_aload_n (i := 0) dX6_searchTidiest_1 rfl rfl (q := 2) rfl ?_
    refine z_get dX6_searchTidiest_2 fX6_30 (wo_tidySearch _ _ _) rfl (q := 5) rfl ?_
    refine z_aload_n (i := 0) dX6_searchTidiest_5 rfl rfl (q := 6) rfl ?_
    refine z_get dX6_searchTidiest_6 fX6_21 (wo_tidySearch _ _ _) rfl (q := 9) rfl ?_
    refine z_aload_n (i := 0) dX6_searchTidiest_9 rfl rfl (q := 10) rfl ?_
    refine z_get dX6_searchTidiest_10 fX6_30 (wo_tidySearch _ _ _) rfl (q := 13) rfl ?_
    refine z_iconst (v := 0) dX6_searchTidiest_13 rfl (q := 14) rfl ?_
    refine z_iconst (v := 4) dX6_searchTidiest_14 rfl (q := 15) rfl ?_
    refine z_callVF (As := [_, _, _]) dX6_searchTidiest_15 kX6_80 (c_X5_strengthOf_21 (c := Tc2 T) (wf := Twf T) (ws := Tws T) (tsK_wish hT)) (wo_rules _ _ _) rfl rfl (zle rfl) ⟨zle rfl, zle rfl⟩ ⟨zle rfl, zle rfl⟩ (q := 18) rfl ?_
    rw [fAll_eq hT hpr]
    refine z_iconst (v := 0) dX6_searchTidiest_18 rfl (q := 19) rfl ?_
    refine z_callV (As := [_, _, _]) dX6_searchTidiest_19 kX6_84 (c_X6_keep_21 (n := 1) hT.2.1 (by decide)) (wo_tidySearch _ _ _) rfl rfl (zle rfl) ⟨zle rfl, zle rfl⟩ ⟨zle rfl, zle rfl⟩ (q := 22) rfl (fun rv w2 hw2 => ?_) (fun E w2 h9 => by cases h9.1)
    obtain ⟨h9, X2, rfl, hkt, hi0, hi1, h24⟩ := hw2
    cases h9
    have hk := ks_kt hkt
    have hB : bestW X2 1 (fAll T (Tpv T), 0, Tpv T) := ⟨hi0, hi1, by show fAll T (Tpv T) ≤ 1000; omega, by show 0 ≤ 1000; omega, fun j h => (h24 j h).trans (hpr j h).1⟩
    refine z_aload_n (i := 0) dX6_searchTidiest_22 rfl rfl (q := 23) rfl ?_
    refine z_iconst (v := 0) dX6_searchTidiest_23 rfl (q := 24) rfl ?_
    refine z_iconst (v := 0) dX6_searchTidiest_24 rfl (q := 25) rfl ?_
    refine z_iconst (v := 0) dX6_searchTidiest_25 rfl (q := 26) rfl ?_
    refine z_callV (As := [_, _, _]) dX6_searchTidiest_26 kX6_88 (c_X6_placeFrom_1 (k := 0) (str := 0) (cost := 0) (T := T) (D0 := Tpv T) (B := (fAll T (Tpv T), 0, Tpv T)) (tsK_ks hk hT) rfl (fun j h => absurd h (Nat.not_lt_zero _)) (Nat.zero_le _) (Nat.zero_le _) hB) (wo_tidySearch _ _ _) rfl rfl (zle rfl) ⟨zle rfl, zle rfl⟩ ⟨zle rfl, zle rfl⟩ (q := 29) rfl (fun rv w2 hw2 => ?_) (fun E w2 h9 => by cases h9.1)
    obtain ⟨h9, X3, B2, rfl, hk2, _, hB2, hr⟩ := hw2
    cases h9
    exact z_vret dX6_searchTidiest_29 rfl ⟨zle rfl, zle rfl⟩ ⟨rfl, X3, B2, rfl, ks_trans hk hk2, hB2, hr⟩
  · have hpr := present_lrw hT
    have hfa := fAll_le hT (Tpv T)
    refine ZM.go pX6 rfl rfl (zle rfl) (zl := [some (.ref 26)]) rfl ?_
    refine z_aload_n (i := 0) dX6_searchTidiest_0 rfl rfl (q := 1) rfl ?_
    refine z_aload_n (i := 0) dX6_searchTidiest_1 rfl rfl (q := 2) rfl ?_
    refine z_get dX6_searchTidiest_2 fX6_30 (wo_tidySearch _ _ _) rfl (q := 5) rfl ?_
    refine z_aload_n (i := 0) dX6_searchTidiest_5 rfl rfl (q := 6) rfl ?_
    refine z_get dX6_searchTidiest_6 fX6_21 (wo_tidySearch _ _ _) rfl (q := 9) rfl ?_
    refine z_aload_n (i := 0) dX6_searchTidiest_9 rfl rfl (q := 10) rfl ?_
    refine z_get dX6_searchTidiest_10 fX6_30 (wo_tidySearch _ _ _) rfl (q := 13) rfl ?_
    refine z_iconst (v := 0) dX6_searchTidiest_13 rfl (q := 14) rfl ?_
    refine z_iconst (v := 4) dX6_searchTidiest_14 rfl (q := 15) rfl ?_
    refine z_callVF (As := [_, _, _]) dX6_searchTidiest_15 kX6_80 (c_X5_strengthOf_21 (c := Tc2 T) (wf := Twf T) (ws := Tws T) (tsK_wish hT)) (wo_rules _ _ _) rfl rfl (zle rfl) ⟨zle rfl, zle rfl⟩ ⟨zle rfl, zle rfl⟩ (q := 18) rfl ?_
    rw [fAll_eq hT hpr]
    refine z_iconst (v := 0) dX6_searchTidiest_18 rfl (q := 19) rfl ?_
    refine z_callV (As := [_, _, _]) dX6_searchTidiest_19 kX6_84 (c_X6_keep_21 (n := 2) hT.2.1 (by decide)) (wo_tidySearch _ _ _) rfl rfl (zle rfl) ⟨zle rfl, zle rfl⟩ ⟨zle rfl, zle rfl⟩ (q := 22) rfl (fun rv w2 hw2 => ?_) (fun E w2 h9 => by cases h9.1)
    obtain ⟨h9, X2, rfl, hkt, hi0, hi1, h24⟩ := hw2
    cases h9
    have hk := ks_kt hkt
    have hB : bestW X2 2 (fAll T (Tpv T), 0, Tpv T) := ⟨hi0, hi1, by show fAll T (Tpv T) ≤ 1000; omega, by show 0 ≤ 1000; omega, fun j h => (h24 j h).trans (hpr j h).1⟩
    refine z_aload_n (i := 0) dX6_searchTidiest_22 rfl rfl (q := 23) rfl ?_
    refine z_iconst (v := 0) dX6_searchTidiest_23 rfl (q := 24) rfl ?_
    refine z_iconst (v := 0) dX6_searchTidiest_24 rfl (q := 25) rfl ?_
    refine z_iconst (v := 0) dX6_searchTidiest_25 rfl (q := 26) rfl ?_
    refine z_callV (As := [_, _, _]) dX6_searchTidiest_26 kX6_88 (c_X6_placeFrom_2 (k := 0) (str := 0) (cost := 0) (T := T) (D0 := Tpv T) (B := (fAll T (Tpv T), 0, Tpv T)) (tsK_ks hk hT) rfl (fun j h => absurd h (Nat.not_lt_zero _)) (Nat.zero_le _) (Nat.zero_le _) hB) (wo_tidySearch _ _ _) rfl rfl (zle rfl) ⟨zle rfl, zle rfl⟩ ⟨zle rfl, zle rfl⟩ (q := 29) rfl (fun rv w2 hw2 => ?_) (fun E w2 h9 => by cases h9.1)
    obtain ⟨h9, X3, B2, rfl, hk2, _, hB2, hr⟩ := hw2
    cases h9
    exact z_vret dX6_searchTidiest_29 rfl ⟨zle rfl, zle rfl⟩ ⟨rfl, X3, B2, rfl, ks_trans hk hk2, hB2, hr⟩
  · have hpr := present_lrw hT
    have hfa := fAll_le hT (Tpv T)
    refine ZM.go pX6 rfl rfl (zle rfl) (zl := [some (.ref 26)]) rfl ?_
    refine z_aload_n (i := 0) dX6_searchTidiest_0 rfl rfl (q := 1) rfl ?_
    refine z_aload_n (i := 0) dX6_searchTidiest_1 rfl rfl (q := 2) rfl ?_
    refine z_get dX6_searchTidiest_2 fX6_30 (wo_tidySearch _ _ _) rfl (q := 5) rfl ?_
    refine z_aload_n (i := 0) dX6_searchTidiest_5 rfl rfl (q := 6) rfl ?_
    refine z_get dX6_searchTidiest_6 fX6_21 (wo_tidySearch _ _ _) rfl (q := 9) rfl ?_
    refine z_aload_n (i := 0) dX6_searchTidiest_9 rfl rfl (q := 10) rfl ?_
    refine z_get dX6_searchTidiest_10 fX6_30 (wo_tidySearch _ _ _) rfl (q := 13) rfl ?_
    refine z_iconst (v := 0) dX6_searchTidiest_13 rfl (q := 14) rfl ?_
    refine z_iconst (v := 4) dX6_searchTidiest_14 rfl (q := 15) rfl ?_
    refine z_callVF (As := [_, _, _]) dX6_searchTidiest_15 kX6_80 (c_X5_strengthOf_21 (c := Tc2 T) (wf := Twf T) (ws := Tws T) (tsK_wish hT)) (wo_rules _ _ _) rfl rfl (zle rfl) ⟨zle rfl, zle rfl⟩ ⟨zle rfl, zle rfl⟩ (q := 18) rfl ?_
    rw [fAll_eq hT hpr]
    refine z_iconst (v := 0) dX6_searchTidiest_18 rfl (q := 19) rfl ?_
    refine z_callV (As := [_, _, _]) dX6_searchTidiest_19 kX6_84 (c_X6_keep_21 (n := 3) hT.2.1 (by decide)) (wo_tidySearch _ _ _) rfl rfl (zle rfl) ⟨zle rfl, zle rfl⟩ ⟨zle rfl, zle rfl⟩ (q := 22) rfl (fun rv w2 hw2 => ?_) (fun E w2 h9 => by cases h9.1)
    obtain ⟨h9, X2, rfl, hkt, hi0, hi1, h24⟩ := hw2
    cases h9
    have hk := ks_kt hkt
    have hB : bestW X2 3 (fAll T (Tpv T), 0, Tpv T) := ⟨hi0, hi1, by show fAll T (Tpv T) ≤ 1000; omega, by show 0 ≤ 1000; omega, fun j h => (h24 j h).trans (hpr j h).1⟩
    refine z_aload_n (i := 0) dX6_searchTidiest_22 rfl rfl (q := 23) rfl ?_
    refine z_iconst (v := 0) dX6_searchTidiest_23 rfl (q := 24) rfl ?_
    refine z_iconst (v := 0) dX6_searchTidiest_24 rfl (q := 25) rfl ?_
    refine z_iconst (v := 0) dX6_searchTidiest_25 rfl (q := 26) rfl ?_
    refine z_callV (As := [_, _, _]) dX6_searchTidiest_26 kX6_88 (c_X6_placeFrom_3 (k := 0) (str := 0) (cost := 0) (T := T) (D0 := Tpv T) (B := (fAll T (Tpv T), 0, Tpv T)) (tsK_ks hk hT) rfl (fun j h => absurd h (Nat.not_lt_zero _)) (Nat.zero_le _) (Nat.zero_le _) hB) (wo_tidySearch _ _ _) rfl rfl (zle rfl) ⟨zle rfl, zle rfl⟩ ⟨zle rfl, zle rfl⟩ (q := 29) rfl (fun rv w2 hw2 => ?_) (fun E w2 h9 => by cases h9.1)
    obtain ⟨h9, X3, B2, rfl, hk2, _, hB2, hr⟩ := hw2
    cases h9
    exact z_vret dX6_searchTidiest_29 rfl ⟨zle rfl, zle rfl⟩ ⟨rfl, X3, B2, rfl, ks_trans hk hk2, hB2, hr⟩
  · have hpr := present_lrw hT
    have hfa := fAll_le hT (Tpv T)
    refine ZM.go pX6 rfl rfl (zle rfl) (zl := [some (.ref 26)]) rfl ?_
    refine z_aload_n (i := 0) dX6_searchTidiest_0 rfl rfl (q := 1) rfl ?_
    refine z_aload_n (i := 0) dX6_searchTidiest_1 rfl rfl (q := 2) rfl ?_
    refine z_get dX6_searchTidiest_2 fX6_30 (wo_tidySearch _ _ _) rfl (q := 5) rfl ?_
    refine z_aload_n (i := 0) dX6_searchTidiest_5 rfl rfl (q := 6) rfl ?_
    refine z_get dX6_searchTidiest_6 fX6_21 (wo_tidySearch _ _ _) rfl (q := 9) rfl ?_
    refine z_aload_n (i := 0) dX6_searchTidiest_9 rfl rfl (q := 10) rfl ?_
    refine z_get dX6_searchTidiest_10 fX6_30 (wo_tidySearch _ _ _) rfl (q := 13) rfl ?_
    refine z_iconst (v := 0) dX6_searchTidiest_13 rfl (q := 14) rfl ?_
    refine z_iconst (v := 4) dX6_searchTidiest_14 rfl (q := 15) rfl ?_
    refine z_callVF (As := [_, _, _]) dX6_searchTidiest_15 kX6_80 (c_X5_strengthOf_21 (c := Tc2 T) (wf := Twf T) (ws := Tws T) (tsK_wish hT)) (wo_rules _ _ _) rfl rfl (zle rfl) ⟨zle rfl, zle rfl⟩ ⟨zle rfl, zle rfl⟩ (q := 18) rfl ?_
    rw [fAll_eq hT hpr]
    refine z_iconst (v := 0) dX6_searchTidiest_18 rfl (q := 19) rfl ?_
    refine z_callV (As := [_, _, _]) dX6_searchTidiest_19 kX6_84 (c_X6_keep_21 (n := 4) hT.2.1 (by decide)) (wo_tidySearch _ _ _) rfl rfl (zle rfl) ⟨zle rfl, zle rfl⟩ ⟨zle rfl, zle rfl⟩ (q := 22) rfl (fun rv w2 hw2 => ?_) (fun E w2 h9 => by cases h9.1)
    obtain ⟨h9, X2, rfl, hkt, hi0, hi1, h24⟩ := hw2
    cases h9
    have hk := ks_kt hkt
    have hB : bestW X2 4 (fAll T (Tpv T), 0, Tpv T) := ⟨hi0, hi1, by show fAll T (Tpv T) ≤ 1000; omega, by show 0 ≤ 1000; omega, fun j h => (h24 j h).trans (hpr j h).1⟩
    refine z_aload_n (i := 0) dX6_searchTidiest_22 rfl rfl (q := 23) rfl ?_
    refine z_iconst (v := 0) dX6_searchTidiest_23 rfl (q := 24) rfl ?_
    refine z_iconst (v := 0) dX6_searchTidiest_24 rfl (q := 25) rfl ?_
    refine z_iconst (v := 0) dX6_searchTidiest_25 rfl (q := 26) rfl ?_
    refine z_callV (As := [_, _, _]) dX6_searchTidiest_26 kX6_88 (c_X6_placeFrom_4 (k := 0) (str := 0) (cost := 0) (T := T) (D0 := Tpv T) (B := (fAll T (Tpv T), 0, Tpv T)) (tsK_ks hk hT) rfl (fun j h => absurd h (Nat.not_lt_zero _)) (Nat.zero_le _) (Nat.zero_le _) hB) (wo_tidySearch _ _ _) rfl rfl (zle rfl) ⟨zle rfl, zle rfl⟩ ⟨zle rfl, zle rfl⟩ (q := 29) rfl (fun rv w2 hw2 => ?_) (fun E w2 h9 => by cases h9.1)
    obtain ⟨h9, X3, B2, rfl, hk2, _, hB2, hr⟩ := hw2
    cases h9
    exact z_vret dX6_searchTidiest_29 rfl ⟨zle rfl, zle rfl⟩ ⟨rfl, X3, B2, rfl, ks_trans hk hk2, hB2, hr⟩
/- picks and their layout changed in one place -/
set_option maxRecDepth 100000 in
set_option maxHeartbeats 4000000 in
def kpk (X X2 : zX) : Prop := ∀ r, ¬ (22 ≤ r ∧ r ≤ 23) → X2.1 r = X.1 r ∧ X2.2.1 r = X.2.1 r
set_option maxRecDepth 100000 in
set_option maxHeartbeats 4000000 in
theorem c_X6_pick {k j : Nat} (hk : k < 4) (hj : j < 10) : ZM G mX6_pick 2 0 0 [.ref 26, .int (nI k), .int (nI j)] (zw X Y O) (zEq none (zw (xrow (xrow X 23 (upd (X.2.1 23) k (nI j)) (X.1 23)) 22 (upd (X.2.1 22) k (X.2.1 11 (10 * k + j))) (X.1 22)) Y O)) := by
  refine ZM.go pX6 rfl rfl (zle rfl) (zl := [some (.ref 26), some (.int (nI k)), some (.int (nI j))]) rfl ?_
  refine z_aload_n (i := 0) dX6_pick_0 rfl rfl (q := 1) rfl ?_
  refine z_get dX6_pick_1 fX6_37 (wo_tidySearch _ _ _) rfl (q := 4) rfl ?_
  refine z_iload_n (i := 1) dX6_pick_4 rfl rfl (q := 5) rfl ?_
  refine z_iload_n (i := 2) dX6_pick_5 rfl rfl (q := 6) rfl ?_
  refine z_callVF (As := [_, _]) dX6_pick_6 kX6_112 (c_X4_set  (wr_23 _ _ _) (by omega) (by decide)) (wr_23 _ _ _).1 rfl rfl (zle rfl) ⟨zle rfl, zle rfl⟩ ⟨zle rfl, zle rfl⟩ (q := 9) rfl ?_
  refine Z.eqw (wp_23 _ _ _ _ _) ?_
  refine z_aload_n (i := 0) dX6_pick_9 rfl rfl (q := 10) rfl ?_
  refine z_get dX6_pick_10 fX6_34 (wo_tidySearch _ _ _) rfl (q := 13) rfl ?_
  refine z_iload_n (i := 1) dX6_pick_13 rfl rfl (q := 14) rfl ?_
  refine z_aload_n (i := 0) dX6_pick_14 rfl rfl (q := 15) rfl ?_
  refine z_get dX6_pick_15 fX6_12 (wo_tidySearch _ _ _) rfl (q := 18) rfl ?_
  refine z_iload_n (i := 1) dX6_pick_18 rfl rfl (q := 19) rfl ?_
  refine z_iload_n (i := 2) dX6_pick_19 rfl rfl (q := 20) rfl ?_
  refine z_callVF (As := [_, _]) dX6_pick_20 kX6_104 (c_X1_start (k := k) (j := j) (by omega) (by omega)) (wo_choices _ _ _) rfl rfl (zle rfl) ⟨zle rfl, zle rfl⟩ ⟨zle rfl, zle rfl⟩ (q := 23) rfl ?_
  refine z_callVF (As := [_, _]) dX6_pick_23 kX6_112 (c_X4_set  (wr_22 _ _ _) (by omega) (by decide)) (wr_22 _ _ _).1 rfl rfl (zle rfl) ⟨zle rfl, zle rfl⟩ ⟨zle rfl, zle rfl⟩ (q := 26) rfl ?_
  refine Z.eqw (wp_22 _ _ _ _ _) ?_
  exact z_vret dX6_pick_26 rfl ⟨zle rfl, zle rfl⟩ ⟨rfl, rfl⟩
end
