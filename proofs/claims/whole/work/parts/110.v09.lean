/- the law begins -/
section
variable {G : zG}
def X00 : zX := (fun _ => 0, fun _ _ => 0, fun _ => 0, 0)
def Y00 : zY := (fun _ _ => 0, fun _ => 0, 0)
def O00 : zO := (fun _ => 0, fun _ => 0)
def w77 : zWorld := [.inr (8, [.ref 1, .ref 6, .ref 11, .ref 13, .ref 15, .ref 26, .ref 57, .ref 68, .ref 73, .ref 75, .long 0]), .inr (0, [.int 200, .ref 2, .ref 4]), .inr (4, [.ref 3, .int 0]), .inl (0, 4, .inl (fun _ => 0)), .inr (4, [.ref 5, .int 0]), .inl (0, 4, .inl (fun _ => 0)), .inr (0, [.int 120, .ref 7, .ref 9]), .inr (4, [.ref 8, .int 0]), .inl (0, 4, .inl (fun _ => 0)), .inr (4, [.ref 10, .int 0]), .inl (0, 4, .inl (fun _ => 0)), .inr (4, [.ref 12, .int 0]), .inl (0, 4, .inl (fun _ => 0)), .inr (4, [.ref 14, .int 0]), .inl (0, 4, .inl (fun _ => 0)), .inr (7, [.ref 16, .ref 18, .ref 20, .ref 22, .ref 24]), .inr (4, [.ref 17, .int 0]), .inl (0, 8, .inl (fun _ => 0)), .inr (4, [.ref 19, .int 0]), .inl (0, 8, .inl (fun _ => 0)), .inr (4, [.ref 21, .int 0]), .inl (0, 8, .inl (fun _ => 0)), .inr (4, [.ref 23, .int 0]), .inl (0, 8, .inl (fun _ => 0)), .inr (4, [.ref 25, .int 0]), .inl (0, 8, .inl (fun _ => 0)), .inr (6, [.ref 27, .ref 34, .ref 49, .ref 51, .ref 53, .ref 55, .int 0, .int 0]), .inr (1, [.ref 28, .ref 30, .ref 32]), .inr (4, [.ref 29, .int 0]), .inl (0, 40, .inl (fun _ => 0)), .inr (4, [.ref 31, .int 0]), .inl (0, 4, .inl (fun _ => 0)), .inr (4, [.ref 33, .int 0]), .inl (0, 10, .inl (fun _ => 0)), .inr (5, [.ref 35, .ref 37, .ref 39, .ref 41, .ref 43, .ref 45, .ref 47]), .inr (4, [.ref 36, .int 0]), .inl (0, 4, .inl (fun _ => 0)), .inr (4, [.ref 38, .int 0]), .inl (0, 6, .inl (fun _ => 0)), .inr (4, [.ref 40, .int 0]), .inl (0, 6, .inl (fun _ => 0)), .inr (4, [.ref 42, .int 0]), .inl (0, 8, .inl (fun _ => 0)), .inr (4, [.ref 44, .int 0]), .inl (0, 8, .inl (fun _ => 0)), .inr (4, [.ref 46, .int 0]), .inl (0, 8, .inl (fun _ => 0)), .inr (4, [.ref 48, .int 0]), .inl (0, 8, .inl (fun _ => 0)), .inr (4, [.ref 50, .int 0]), .inl (0, 4, .inl (fun _ => 0)), .inr (4, [.ref 52, .int 0]), .inl (0, 4, .inl (fun _ => 0)), .inr (4, [.ref 54, .int 0]), .inl (0, 4, .inl (fun _ => 0)), .inr (4, [.ref 56, .int 0]), .inl (0, 4, .inl (fun _ => 0)), .inr (2, [.ref 58, .ref 60, .ref 62, .ref 64, .ref 66, .int 0, .int 0, .int 0, .int 0]), .inr (4, [.ref 59, .int 0]), .inl (0, 4, .inl (fun _ => 0)), .inr (4, [.ref 61, .int 0]), .inl (0, 4, .inl (fun _ => 0)), .inr (4, [.ref 63, .int 0]), .inl (0, 4, .inl (fun _ => 0)), .inr (4, [.ref 65, .int 0]), .inl (0, 4, .inl (fun _ => 0)), .inr (4, [.ref 67, .int 0]), .inl (0, 4, .inl (fun _ => 0)), .inr (3, [.ref 69, .ref 71]), .inr (4, [.ref 70, .int 0]), .inl (0, 4, .inl (fun _ => 0)), .inr (4, [.ref 72, .int 0]), .inl (0, 4, .inl (fun _ => 0)), .inr (4, [.ref 74, .int 0]), .inl (0, 10, .inl (fun _ => 0)), .inr (4, [.ref 76, .int 0]), .inl (0, 6, .inl (fun _ => 0))]
def w17 : zWorld := [.inr (9, [.int 0, .int 0, .ref 78, .ref 79, .ref 80, .ref 81, .int 0, .ref 82, .ref 83, .ref 84, .ref 85, .ref 86, .long 0, .ref 87, .ref 88, .ref 89, .ref 90, .ref 91, .int 0, .int 0, .int 0, .int 0, .ref 92, .ref 93]), .inl (0, 8, .inl (fun _ => 0)), .inl (0, 8, .inl (fun _ => 0)), .inl (0, 4, .inl (fun _ => 0)), .inl (1, 4, .inl (fun _ => 0)), .inl (2, 8, .inl (fun _ => 0)), .inl (0, 8, .inl (fun _ => 0)), .inl (0, 8, .inl (fun _ => 0)), .inl (0, 8, .inl (fun _ => 0)), .inl (1, 8, .inl (fun _ => 0)), .inl (0, 40, .inl (fun _ => 0)), .inl (0, 4, .inl (fun _ => 0)), .inl (0, 4, .inl (fun _ => 0)), .inl (0, 4, .inl (fun _ => 0)), .inl (0, 4, .inl (fun _ => 0)), .inl (0, 12, .inl (fun _ => 0)), .inl (0, 4, .inl (fun _ => 0))]
theorem w_begin : ((w77 ++ w17) ++ [.inl (3, 1, .inr (.inl (fun _ => 0)))]) ++ [.inl (4, 1, .inr (.inr (.inr (.inl (fun _ => 0)))))] = zw X00 Y00 O00 := rfl
theorem good_0 : good X00 Y00 :=
  ⟨0, 0, ⟨by decide, by decide, fun _ _ => rfl, fun _ _ _ => rfl, fun k h => absurd h (Nat.not_lt_zero k), fun i j _ h => absurd h (Nat.not_lt_zero j), fun w h => absurd h (Nat.not_lt_zero w)⟩, rfl, rfl, fun k h => absurd h (Nat.not_lt_zero k), fun _ _ _ => ⟨rfl, rfl⟩, fun w h => absurd h (Nat.not_lt_zero w), fun _ _ _ => rfl, rfl, by decide, by decide⟩
theorem law_start (hL2 : G.L ≤ 2560) : Z G mL_law room_1 0 0 0 (zent [.ref zSI] 10) [] [] (fun r _ => r = .inl (some (.int 1))) := by
  refine Z.eql (zl2 := [some (.ref zSI), none, none, none, none, none, none, none, none, none]) rfl ?_
  refine z_new dL_law_0 nL_8 (zle rfl) ⟨zle rfl, zle rfl⟩ (q := 3) rfl ?_
  refine Z.eqst (st2 := [.ref 0]) rfl ?_
  refine z_dup dL_law_3 rfl (q := 4) rfl ?_
  refine z_callIF (As := []) dL_law_4 kL_127 (c_init_x (w := []) rfl) rfl rfl (zle rfl) ⟨zle rfl, zle rfl⟩ ⟨zle rfl, zle rfl⟩ (q := 7) rfl ?_
  refine Z.eqw (w2 := w77) rfl ?_
  refine z_astore_n (i := 1) dL_law_7 rfl (zle rfl) rfl (q := 8) rfl ?_
  refine z_new dL_law_8 nL_128 (zle rfl) ⟨zle rfl, zle rfl⟩ (q := 11) rfl ?_
  refine Z.eqst (st2 := [.ref 77]) rfl ?_
  refine z_dup dL_law_11 rfl (q := 12) rfl ?_
  refine z_callIF (As := []) dL_law_12 kL_130 (c_init_model (w := w77) rfl) rfl rfl (zle rfl) ⟨zle rfl, zle rfl⟩ ⟨zle rfl, zle rfl⟩ (q := 15) rfl ?_
  refine Z.eqw (w2 := w77 ++ w17) rfl ?_
  refine z_astore_n (i := 2) dL_law_15 rfl (zle rfl) rfl (q := 16) rfl ?_
  refine z_iconst (v := 1) dL_law_16 rfl (q := 17) rfl ?_
  refine z_newa (t := 3) (N := 1) (a0 := (1, .inr (.inl (fun _ => 0)))) (ty := .long) dL_law_17 wa_long rfl rfl (fun _ => rfl) (fun C h => by cases h) (by decide) rfl (zle rfl) (zle rfl) ⟨zle rfl, zle rfl⟩ (q := 19) rfl ?_
  refine Z.eqst (st2 := [.ref 94]) rfl ?_
  refine z_astore_n (i := 3) dL_law_19 rfl (zle rfl) rfl (q := 20) rfl ?_
  refine z_iconst (v := 1) dL_law_20 rfl (q := 21) rfl ?_
  refine z_newa (t := 4) (N := 1) (a0 := (1, .inr (.inr (.inr (.inl (fun _ => 0)))))) (ty := .double) dL_law_21 wa_double rfl rfl (fun _ => rfl) (fun C h => by cases h) (by decide) rfl (zle rfl) (zle rfl) ⟨zle rfl, zle rfl⟩ (q := 23) rfl ?_
  refine Z.eqst (st2 := [.ref 95]) rfl ?_
  refine Z.eqw w_begin ?_
  refine z_astore dL_law_23 (zle rfl) rfl (q := 25) rfl ?_
  refine z_iconst (v := 0) dL_law_25 rfl (q := 26) rfl ?_
  refine z_istore dL_law_26 (zle rfl) rfl (q := 28) rfl ?_
  refine Z.eql (zl2 := [some (.ref zSI), some (.ref 0), some (.ref 77), some (.ref 94), some (.ref 95), some (.int (nI 0)), none, none, none, none]) rfl ?_
  exact law_loop hL2 512 0 _ _ X00 Y00 O00 none none none none good_0 (by omega) (by decide) ⟨zle rfl, zle rfl⟩
end
