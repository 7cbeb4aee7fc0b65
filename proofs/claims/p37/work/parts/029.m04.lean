set_option maxRecDepth 1000000 in
theorem zin_X0 : ∀ w ∈ u_ws RX0 TX0 3, w ∈ zt := by decide +kernel
set_option maxRecDepth 1000000 in
theorem zin_X1 : ∀ w ∈ u_ws RX1 TX1 3, w ∈ zt := by decide +kernel
set_option maxRecDepth 1000000 in
theorem zin_X2 : ∀ w ∈ u_ws RX2 TX2 9, w ∈ zt := by decide +kernel
set_option maxRecDepth 1000000 in
theorem zin_X3 : ∀ w ∈ u_ws RX3 TX3 2, w ∈ zt := by decide +kernel
set_option maxRecDepth 1000000 in
theorem zin_X4 : ∀ w ∈ u_ws RX4 TX4 2, w ∈ zt := by decide +kernel
set_option maxRecDepth 1000000 in
theorem zin_X5 : ∀ w ∈ u_ws RX5 TX5 7, w ∈ zt := by decide +kernel
set_option maxRecDepth 1000000 in
theorem zin_X6 : ∀ w ∈ u_ws RX6 TX6 8, w ∈ zt := by decide +kernel
set_option maxRecDepth 1000000 in
theorem zin_X7 : ∀ w ∈ u_ws RX7 TX7 5, w ∈ zt := by decide +kernel
set_option maxRecDepth 1000000 in
theorem zin_X8 : ∀ w ∈ u_ws RX8 TX8 11, w ∈ zt := by decide +kernel
set_option maxRecDepth 1000000 in
theorem nL_16 : zNew RL 16 8 11 [.null, .null, .null, .null, .null, .null, .null, .null, .null, .null, .long 0] := ⟨RX8, TX8, tyX8, rfl, zin_X8, tyX8_ok, (zt_at 58 rfl rfl), (zt_at 59 rfl rfl), (zt_at 38 rfl rfl), fun j hj => by rcases (show j = 0 ∨ j = 1 ∨ j = 2 ∨ j = 3 ∨ j = 4 ∨ j = 5 ∨ j = 6 ∨ j = 7 ∨ j = 8 ∨ j = 9 ∨ j = 10 by omega) with rfl | rfl | rfl | rfl | rfl | rfl | rfl | rfl | rfl | rfl | rfl <;> rfl, fun _ => rfl, fun _ => (.cons trivial (.cons trivial (.cons trivial (.cons trivial (.cons trivial (.cons trivial (.cons trivial (.cons trivial (.cons trivial (.cons trivial (.cons trivial (fun _ h => by cases h))))))))))))⟩
set_option maxRecDepth 1000000 in
theorem nX0_9 : zNew RX0 9 4 2 [.null, .int 0] := ⟨RX4, TX4, tyX4, rfl, zin_X4, tyX4_ok, (zt_at 72 rfl rfl), (zt_at 73 rfl rfl), (zt_at 40 rfl rfl), fun j hj => by rcases (show j = 0 ∨ j = 1 by omega) with rfl | rfl <;> rfl, fun _ => rfl, fun _ => (.cons trivial (.cons trivial (fun _ h => by cases h)))⟩
set_option maxRecDepth 1000000 in
theorem nX1_9 : zNew RX1 9 4 2 [.null, .int 0] := ⟨RX4, TX4, tyX4, rfl, zin_X4, tyX4_ok, (zt_at 134 rfl rfl), (zt_at 73 rfl rfl), (zt_at 40 rfl rfl), fun j hj => by rcases (show j = 0 ∨ j = 1 by omega) with rfl | rfl <;> rfl, fun _ => rfl, fun _ => (.cons trivial (.cons trivial (fun _ h => by cases h)))⟩
set_option maxRecDepth 1000000 in
theorem nX2_9 : zNew RX2 9 4 2 [.null, .int 0] := ⟨RX4, TX4, tyX4, rfl, zin_X4, tyX4_ok, (zt_at 209 rfl rfl), (zt_at 73 rfl rfl), (zt_at 40 rfl rfl), fun j hj => by rcases (show j = 0 ∨ j = 1 by omega) with rfl | rfl <;> rfl, fun _ => rfl, fun _ => (.cons trivial (.cons trivial (fun _ h => by cases h)))⟩
set_option maxRecDepth 1000000 in
theorem nX3_9 : zNew RX3 9 4 2 [.null, .int 0] := ⟨RX4, TX4, tyX4, rfl, zin_X4, tyX4_ok, (zt_at 245 rfl rfl), (zt_at 73 rfl rfl), (zt_at 40 rfl rfl), fun j hj => by rcases (show j = 0 ∨ j = 1 by omega) with rfl | rfl <;> rfl, fun _ => rfl, fun _ => (.cons trivial (.cons trivial (fun _ h => by cases h)))⟩
set_option maxRecDepth 1000000 in
theorem nX5_9 : zNew RX5 9 4 2 [.null, .int 0] := ⟨RX4, TX4, tyX4, rfl, zin_X4, tyX4_ok, (zt_at 152 rfl rfl), (zt_at 73 rfl rfl), (zt_at 40 rfl rfl), fun j hj => by rcases (show j = 0 ∨ j = 1 by omega) with rfl | rfl <;> rfl, fun _ => rfl, fun _ => (.cons trivial (.cons trivial (fun _ h => by cases h)))⟩
set_option maxRecDepth 1000000 in
theorem nX6_9 : zNew RX6 9 1 3 [.null, .null, .null] := ⟨RX1, TX1, tyX1, rfl, zin_X1, tyX1_ok, (zt_at 128 rfl rfl), (zt_at 129 rfl rfl), (zt_at 43 rfl rfl), fun j hj => by rcases (show j = 0 ∨ j = 1 ∨ j = 2 by omega) with rfl | rfl | rfl <;> rfl, fun _ => rfl, fun _ => (.cons trivial (.cons trivial (.cons trivial (fun _ h => by cases h))))⟩
set_option maxRecDepth 1000000 in
theorem nX6_18 : zNew RX6 18 5 7 [.null, .null, .null, .null, .null, .null, .null] := ⟨RX5, TX5, tyX5, rfl, zin_X5, tyX5_ok, (zt_at 146 rfl rfl), (zt_at 147 rfl rfl), (zt_at 44 rfl rfl), fun j hj => by rcases (show j = 0 ∨ j = 1 ∨ j = 2 ∨ j = 3 ∨ j = 4 ∨ j = 5 ∨ j = 6 by omega) with rfl | rfl | rfl | rfl | rfl | rfl | rfl <;> rfl, fun _ => rfl, fun _ => (.cons trivial (.cons trivial (.cons trivial (.cons trivial (.cons trivial (.cons trivial (.cons trivial (fun _ h => by cases h))))))))⟩
set_option maxRecDepth 1000000 in
theorem nX6_25 : zNew RX6 25 4 2 [.null, .int 0] := ⟨RX4, TX4, tyX4, rfl, zin_X4, tyX4_ok, (zt_at 176 rfl rfl), (zt_at 73 rfl rfl), (zt_at 40 rfl rfl), fun j hj => by rcases (show j = 0 ∨ j = 1 by omega) with rfl | rfl <;> rfl, fun _ => rfl, fun _ => (.cons trivial (.cons trivial (fun _ h => by cases h)))⟩
set_option maxRecDepth 1000000 in
theorem nX7_9 : zNew RX7 9 4 2 [.null, .int 0] := ⟨RX4, TX4, tyX4, rfl, zin_X4, tyX4_ok, (zt_at 104 rfl rfl), (zt_at 73 rfl rfl), (zt_at 40 rfl rfl), fun j hj => by rcases (show j = 0 ∨ j = 1 by omega) with rfl | rfl <;> rfl, fun _ => rfl, fun _ => (.cons trivial (.cons trivial (fun _ h => by cases h)))⟩
set_option maxRecDepth 1000000 in
theorem nX8_9 : zNew RX8 9 0 3 [.int 0, .null, .null] := ⟨RX0, TX0, tyX0, rfl, zin_X0, tyX0_ok, (zt_at 66 rfl rfl), (zt_at 67 rfl rfl), (zt_at 39 rfl rfl), fun j hj => by rcases (show j = 0 ∨ j = 1 ∨ j = 2 by omega) with rfl | rfl | rfl <;> rfl, fun _ => rfl, fun _ => (.cons trivial (.cons trivial (.cons trivial (fun _ h => by cases h))))⟩
set_option maxRecDepth 1000000 in
theorem nX8_21 : zNew RX8 21 4 2 [.null, .int 0] := ⟨RX4, TX4, tyX4, rfl, zin_X4, tyX4_ok, (zt_at 96 rfl rfl), (zt_at 73 rfl rfl), (zt_at 40 rfl rfl), fun j hj => by rcases (show j = 0 ∨ j = 1 by omega) with rfl | rfl <;> rfl, fun _ => rfl, fun _ => (.cons trivial (.cons trivial (fun _ h => by cases h)))⟩
set_option maxRecDepth 1000000 in
theorem nX8_31 : zNew RX8 31 7 5 [.null, .null, .null, .null, .null] := ⟨RX7, TX7, tyX7, rfl, zin_X7, tyX7_ok, (zt_at 98 rfl rfl), (zt_at 99 rfl rfl), (zt_at 41 rfl rfl), fun j hj => by rcases (show j = 0 ∨ j = 1 ∨ j = 2 ∨ j = 3 ∨ j = 4 by omega) with rfl | rfl | rfl | rfl | rfl <;> rfl, fun _ => rfl, fun _ => (.cons trivial (.cons trivial (.cons trivial (.cons trivial (.cons trivial (fun _ h => by cases h))))))⟩
set_option maxRecDepth 1000000 in
theorem nX8_38 : zNew RX8 38 6 8 [.null, .null, .null, .null, .null, .null, .int 0, .int 0] := ⟨RX6, TX6, tyX6, rfl, zin_X6, tyX6_ok, (zt_at 122 rfl rfl), (zt_at 123 rfl rfl), (zt_at 42 rfl rfl), fun j hj => by rcases (show j = 0 ∨ j = 1 ∨ j = 2 ∨ j = 3 ∨ j = 4 ∨ j = 5 ∨ j = 6 ∨ j = 7 by omega) with rfl | rfl | rfl | rfl | rfl | rfl | rfl | rfl <;> rfl, fun _ => rfl, fun _ => (.cons trivial (.cons trivial (.cons trivial (.cons trivial (.cons trivial (.cons trivial (.cons trivial (.cons trivial (fun _ h => by cases h)))))))))⟩
set_option maxRecDepth 1000000 in
theorem nX8_45 : zNew RX8 45 2 9 [.null, .null, .null, .null, .null, .int 0, .int 0, .int 0, .int 0] := ⟨RX2, TX2, tyX2, rfl, zin_X2, tyX2_ok, (zt_at 203 rfl rfl), (zt_at 204 rfl rfl), (zt_at 45 rfl rfl), fun j hj => by rcases (show j = 0 ∨ j = 1 ∨ j = 2 ∨ j = 3 ∨ j = 4 ∨ j = 5 ∨ j = 6 ∨ j = 7 ∨ j = 8 by omega) with rfl | rfl | rfl | rfl | rfl | rfl | rfl | rfl | rfl <;> rfl, fun _ => rfl, fun _ => (.cons trivial (.cons trivial (.cons trivial (.cons trivial (.cons trivial (.cons trivial (.cons trivial (.cons trivial (.cons trivial (fun _ h => by cases h))))))))))⟩
set_option maxRecDepth 1000000 in
theorem nX8_52 : zNew RX8 52 3 2 [.null, .null] := ⟨RX3, TX3, tyX3, rfl, zin_X3, tyX3_ok, (zt_at 239 rfl rfl), (zt_at 240 rfl rfl), (zt_at 46 rfl rfl), fun j hj => by rcases (show j = 0 ∨ j = 1 by omega) with rfl | rfl <;> rfl, fun _ => rfl, fun _ => (.cons trivial (.cons trivial (fun _ h => by cases h)))⟩
set_option maxRecDepth 1000000 in
theorem zall0 {p : Cond → Prop} : ∀ w ∈ ([] : List Cond), p w := fun _ h => by cases h
set_option maxRecDepth 1000000 in
theorem zallc {p : Cond → Prop} {a : Cond} {l : List Cond} (h : p a) (t : ∀ w ∈ l, p w) : ∀ w ∈ a :: l, p w := List.forall_mem_cons.mpr ⟨h, t⟩
set_option maxRecDepth 1000000 in
theorem xa_69_l : vx_atS RX8 73 "java/lang/IllegalArgumentException" ["java/lang/RuntimeException", "java/lang/Exception"] = [47, 366, 375, 382, 385, 387, 367, 368, 64, 65, 369, 374, 383, 403, 356, 404, 358, 405, 360, 370, 372, 362, 399, 400, 402, 362, 390, 391, 392, 393, 348, 393, 394, 395, 396, 350, 396, 397, 398, 399, 352, 389, 345, 346, 353, 354, 355, 357, 359, 361, 365, 364, 363].filterMap (fun i => lw_tbl[i]?) := by decide +kernel
set_option maxRecDepth 1000000 in
theorem xa_69 : (∀ w ∈ vx_atS RX8 73 "java/lang/IllegalArgumentException" ["java/lang/RuntimeException", "java/lang/Exception"], w ∈ zt ∨ w ∈ zbad) ∧ (∀ w ∈ Cond.classLink RX8 69 "java/lang/IllegalArgumentException" :: Cond.initialized "java/lang/IllegalArgumentException" :: vx_atS RX8 73 "java/lang/IllegalArgumentException" ["java/lang/RuntimeException", "java/lang/Exception"], vx_ot w = true) := by
  refine ⟨fun w hw => ?_, by decide +kernel⟩
  have hg : (vx_atS RX8 73 "java/lang/IllegalArgumentException" ["java/lang/RuntimeException", "java/lang/Exception"]).all (fun w => goodWord w || zfair w) = true := by decide +kernel
  have h1 := List.all_eq_true.mp hg w hw
  rw [xa_69_l] at hw
  obtain ⟨i, -, hi⟩ := List.mem_filterMap.mp hw
  have hm : w ∈ lw_tbl := List.mem_of_getElem? hi
  by_cases hgw : goodWord w = true
  · exact Or.inl (List.mem_filter.mpr ⟨hm, hgw⟩)
  · refine Or.inr (List.mem_filter.mpr ⟨hm, ?_⟩)
    rw [Bool.or_eq_true] at h1
    have h2 := h1.resolve_left hgw
    simp only [Bool.and_eq_true, Bool.not_eq_true']
    exact ⟨by cases hx : goodWord w <;> first | rfl | exact absurd hx hgw, h2⟩
set_option maxRecDepth 1000000 in
theorem xa_86_l : vx_atS RX8 90 "java/lang/IllegalStateException" ["java/lang/RuntimeException", "java/lang/Exception"] = [47, 366, 375, 382, 385, 387, 367, 368, 64, 65, 369, 374, 383, 403, 356, 404, 358, 405, 360, 370, 372, 362, 399, 400, 402, 362, 742, 743, 744, 393, 348, 393, 394, 395, 396, 350, 396, 397, 398, 399, 352, 741, 732, 733, 734, 378, 735, 736, 737, 738, 365, 364, 739].filterMap (fun i => lw_tbl[i]?) := by decide +kernel
set_option maxRecDepth 1000000 in
theorem xa_86 : (∀ w ∈ vx_atS RX8 90 "java/lang/IllegalStateException" ["java/lang/RuntimeException", "java/lang/Exception"], w ∈ zt ∨ w ∈ zbad) ∧ (∀ w ∈ Cond.classLink RX8 86 "java/lang/IllegalStateException" :: Cond.initialized "java/lang/IllegalStateException" :: vx_atS RX8 90 "java/lang/IllegalStateException" ["java/lang/RuntimeException", "java/lang/Exception"], vx_ot w = true) := by
  refine ⟨fun w hw => ?_, by decide +kernel⟩
  have hg : (vx_atS RX8 90 "java/lang/IllegalStateException" ["java/lang/RuntimeException", "java/lang/Exception"]).all (fun w => goodWord w || zfair w) = true := by decide +kernel
  have h1 := List.all_eq_true.mp hg w hw
  rw [xa_86_l] at hw
  obtain ⟨i, -, hi⟩ := List.mem_filterMap.mp hw
  have hm : w ∈ lw_tbl := List.mem_of_getElem? hi
  by_cases hgw : goodWord w = true
  · exact Or.inl (List.mem_filter.mpr ⟨hm, hgw⟩)
  · refine Or.inr (List.mem_filter.mpr ⟨hm, ?_⟩)
    rw [Bool.or_eq_true] at h1
    have h2 := h1.resolve_left hgw
    simp only [Bool.and_eq_true, Bool.not_eq_true']
    exact ⟨by cases hx : goodWord w <;> first | rfl | exact absurd hx hgw, h2⟩
set_option maxRecDepth 1000000 in
theorem xa_95_l : vx_atS RX8 99 "java/lang/UnsupportedOperationException" ["java/lang/RuntimeException", "java/lang/Exception"] = [47, 366, 375, 382, 385, 387, 367, 368, 64, 65, 369, 374, 383, 403, 356, 404, 358, 405, 360, 370, 372, 362, 399, 400, 402, 362, 758, 759, 760, 393, 348, 393, 394, 395, 396, 350, 396, 397, 398, 399, 352, 757, 748, 749, 750, 380, 751, 752, 753, 754, 365, 364, 755].filterMap (fun i => lw_tbl[i]?) := by decide +kernel
set_option maxRecDepth 1000000 in
theorem xa_95 : (∀ w ∈ vx_atS RX8 99 "java/lang/UnsupportedOperationException" ["java/lang/RuntimeException", "java/lang/Exception"], w ∈ zt ∨ w ∈ zbad) ∧ (∀ w ∈ Cond.classLink RX8 95 "java/lang/UnsupportedOperationException" :: Cond.initialized "java/lang/UnsupportedOperationException" :: vx_atS RX8 99 "java/lang/UnsupportedOperationException" ["java/lang/RuntimeException", "java/lang/Exception"], vx_ot w = true) := by
  refine ⟨fun w hw => ?_, by decide +kernel⟩
  have hg : (vx_atS RX8 99 "java/lang/UnsupportedOperationException" ["java/lang/RuntimeException", "java/lang/Exception"]).all (fun w => goodWord w || zfair w) = true := by decide +kernel
  have h1 := List.all_eq_true.mp hg w hw
  rw [xa_95_l] at hw
  obtain ⟨i, -, hi⟩ := List.mem_filterMap.mp hw
  have hm : w ∈ lw_tbl := List.mem_of_getElem? hi
  by_cases hgw : goodWord w = true
  · exact Or.inl (List.mem_filter.mpr ⟨hm, hgw⟩)
  · refine Or.inr (List.mem_filter.mpr ⟨hm, ?_⟩)
    rw [Bool.or_eq_true] at h1
    have h2 := h1.resolve_left hgw
    simp only [Bool.and_eq_true, Bool.not_eq_true']
    exact ⟨by cases hx : goodWord w <;> first | rfl | exact absurd hx hgw, h2⟩
set_option maxRecDepth 1000000 in
theorem xa_157_l : ((znAtoms RX8 161 "java/util/NoSuchElementException" 13 ⟨#[0x2a, 0x2b, 0xb7, 0x00, 0x0d, 0xb1]⟩ "java/lang/RuntimeException" ["java/lang/Exception"]).filter vx_no) = [47, 366, 375, 382, 385, 387, 367, 368, 64, 65, 369, 374, 383, 403, 356, 404, 358, 405, 360, 370, 372, 362, 399, 400, 402, 362, 856, 857, 858, 393, 348, 393, 394, 395, 396, 350, 396, 397, 398, 399, 352, 855, 846, 847, 848, 381, 849, 850, 851, 852, 365, 364, 853].filterMap (fun i => lw_tbl[i]?) := by decide +kernel
set_option maxRecDepth 1000000 in
theorem xa_157 : (∀ w ∈ ((znAtoms RX8 161 "java/util/NoSuchElementException" 13 ⟨#[0x2a, 0x2b, 0xb7, 0x00, 0x0d, 0xb1]⟩ "java/lang/RuntimeException" ["java/lang/Exception"]).filter vx_no), w ∈ zt ∨ w ∈ zbad) ∧ (∀ w ∈ Cond.classLink RX8 157 "java/util/NoSuchElementException" :: Cond.initialized "java/util/NoSuchElementException" :: ((znAtoms RX8 161 "java/util/NoSuchElementException" 13 ⟨#[0x2a, 0x2b, 0xb7, 0x00, 0x0d, 0xb1]⟩ "java/lang/RuntimeException" ["java/lang/Exception"]).filter vx_no), vx_ot w = true) := by
  refine ⟨fun w hw => ?_, by decide +kernel⟩
  have hg : (((znAtoms RX8 161 "java/util/NoSuchElementException" 13 ⟨#[0x2a, 0x2b, 0xb7, 0x00, 0x0d, 0xb1]⟩ "java/lang/RuntimeException" ["java/lang/Exception"]).filter vx_no)).all (fun w => goodWord w || zfair w) = true := by decide +kernel
  have h1 := List.all_eq_true.mp hg w hw
  rw [xa_157_l] at hw
  obtain ⟨i, -, hi⟩ := List.mem_filterMap.mp hw
  have hm : w ∈ lw_tbl := List.mem_of_getElem? hi
  by_cases hgw : goodWord w = true
  · exact Or.inl (List.mem_filter.mpr ⟨hm, hgw⟩)
  · refine Or.inr (List.mem_filter.mpr ⟨hm, ?_⟩)
    rw [Bool.or_eq_true] at h1
    have h2 := h1.resolve_left hgw
    simp only [Bool.and_eq_true, Bool.not_eq_true']
    exact ⟨by cases hx : goodWord w <;> first | rfl | exact absurd hx hgw, h2⟩
set_option maxRecDepth 1000000 in
theorem xa_307_l : vx_atS RX8 311 "java/lang/IndexOutOfBoundsException" ["java/lang/RuntimeException", "java/lang/Exception"] = [47, 366, 375, 382, 385, 387, 367, 368, 64, 65, 369, 374, 383, 403, 356, 404, 358, 405, 360, 370, 372, 362, 399, 400, 402, 362, 699, 700, 701, 393, 348, 393, 394, 395, 396, 350, 396, 397, 398, 399, 352, 787, 778, 779, 780, 379, 781, 782, 783, 784, 365, 364, 785].filterMap (fun i => lw_tbl[i]?) := by decide +kernel
set_option maxRecDepth 1000000 in
theorem xa_307 : (∀ w ∈ vx_atS RX8 311 "java/lang/IndexOutOfBoundsException" ["java/lang/RuntimeException", "java/lang/Exception"], w ∈ zt ∨ w ∈ zbad) ∧ (∀ w ∈ Cond.classLink RX8 307 "java/lang/IndexOutOfBoundsException" :: Cond.initialized "java/lang/IndexOutOfBoundsException" :: vx_atS RX8 311 "java/lang/IndexOutOfBoundsException" ["java/lang/RuntimeException", "java/lang/Exception"], vx_ot w = true) := by
  refine ⟨fun w hw => ?_, by decide +kernel⟩
  have hg : (vx_atS RX8 311 "java/lang/IndexOutOfBoundsException" ["java/lang/RuntimeException", "java/lang/Exception"]).all (fun w => goodWord w || zfair w) = true := by decide +kernel
  have h1 := List.all_eq_true.mp hg w hw
  rw [xa_307_l] at hw
  obtain ⟨i, -, hi⟩ := List.mem_filterMap.mp hw
  have hm : w ∈ lw_tbl := List.mem_of_getElem? hi
  by_cases hgw : goodWord w = true
  · exact Or.inl (List.mem_filter.mpr ⟨hm, hgw⟩)
  · refine Or.inr (List.mem_filter.mpr ⟨hm, ?_⟩)
    rw [Bool.or_eq_true] at h1
    have h2 := h1.resolve_left hgw
    simp only [Bool.and_eq_true, Bool.not_eq_true']
    exact ⟨by cases hx : goodWord w <;> first | rfl | exact absurd hx hgw, h2⟩
set_option maxRecDepth 1000000 in
theorem xX8_69_71 : zThr RX8 69 71 73 "java/lang/IllegalArgumentException" "a size is out of range" ["java/lang/RuntimeException", "java/lang/Exception"] := ⟨by decide +kernel, by decide +kernel, (zt_at 344 rfl rfl), (zt_at 53 rfl rfl), List.mem_of_getElem? (i := 1) (by decide +kernel), xa_69.1, xa_69.2, rfl⟩
set_option maxRecDepth 1000000 in
theorem xX8_69_80 : zThr RX8 69 80 73 "java/lang/IllegalArgumentException" "the shape does not lie on the slide" ["java/lang/RuntimeException", "java/lang/Exception"] := ⟨by decide +kernel, by decide +kernel, (zt_at 344 rfl rfl), (zt_at 53 rfl rfl), List.mem_of_getElem? (i := 2) (by decide +kernel), xa_69.1, xa_69.2, rfl⟩
set_option maxRecDepth 1000000 in
theorem xX8_86_88 : zThr RX8 86 88 90 "java/lang/IllegalStateException" "there are as many shapes as there may be" ["java/lang/RuntimeException", "java/lang/Exception"] := ⟨by decide +kernel, by decide +kernel, (zt_at 731 rfl rfl), (zt_at 56 rfl rfl), List.mem_of_getElem? (i := 3) (by decide +kernel), xa_86.1, xa_86.2, rfl⟩
set_option maxRecDepth 1000000 in
theorem xX8_95_97 : zThr RX8 95 97 99 "java/lang/UnsupportedOperationException" "the shape overlaps another one" ["java/lang/RuntimeException", "java/lang/Exception"] := ⟨by decide +kernel, by decide +kernel, (zt_at 747 rfl rfl), (zt_at 57 rfl rfl), List.mem_of_getElem? (i := 4) (by decide +kernel), xa_95.1, xa_95.2, rfl⟩
set_option maxRecDepth 1000000 in
theorem xX8_86_131 : zThr RX8 86 131 90 "java/lang/IllegalStateException" "the shape is locked" ["java/lang/RuntimeException", "java/lang/Exception"] := ⟨by decide +kernel, by decide +kernel, (zt_at 731 rfl rfl), (zt_at 56 rfl rfl), List.mem_of_getElem? (i := 6) (by decide +kernel), xa_86.1, xa_86.2, rfl⟩
set_option maxRecDepth 1000000 in
theorem xX8_69_133 : zThr RX8 69 133 73 "java/lang/IllegalArgumentException" "the shape would not lie on the slide" ["java/lang/RuntimeException", "java/lang/Exception"] := ⟨by decide +kernel, by decide +kernel, (zt_at 344 rfl rfl), (zt_at 53 rfl rfl), List.mem_of_getElem? (i := 7) (by decide +kernel), xa_69.1, xa_69.2, rfl⟩
set_option maxRecDepth 1000000 in
theorem xX8_95_135 : zThr RX8 95 135 99 "java/lang/UnsupportedOperationException" "the shape would overlap another one" ["java/lang/RuntimeException", "java/lang/Exception"] := ⟨by decide +kernel, by decide +kernel, (zt_at 747 rfl rfl), (zt_at 57 rfl rfl), List.mem_of_getElem? (i := 8) (by decide +kernel), xa_95.1, xa_95.2, rfl⟩
set_option maxRecDepth 1000000 in
theorem xX8_69_145 : zThr RX8 69 145 73 "java/lang/IllegalArgumentException" "the number of letters is out of range" ["java/lang/RuntimeException", "java/lang/Exception"] := ⟨by decide +kernel, by decide +kernel, (zt_at 344 rfl rfl), (zt_at 53 rfl rfl), List.mem_of_getElem? (i := 9) (by decide +kernel), xa_69.1, xa_69.2, rfl⟩
set_option maxRecDepth 1000000 in
theorem xX8_157_159 : zThrN RX8 157 159 161 "java/util/NoSuchElementException" "the text fits" 13 ⟨#[0x2a, 0x2b, 0xb7, 0x00, 0x0d, 0xb1]⟩ "java/lang/RuntimeException" ["java/lang/Exception"] := ⟨by decide +kernel, by decide +kernel, by decide +kernel, (zt_at 845 rfl rfl), (zt_at 54 rfl rfl), List.mem_of_getElem? (i := 10) (by decide +kernel), xa_157.1, xa_157.2, rfl, by decide +kernel, by decide +kernel, by decide +kernel, by decide +kernel⟩
set_option maxRecDepth 1000000 in
theorem xX8_95_162 : zThr RX8 95 162 99 "java/lang/UnsupportedOperationException" "the shape has no room to grow" ["java/lang/RuntimeException", "java/lang/Exception"] := ⟨by decide +kernel, by decide +kernel, (zt_at 747 rfl rfl), (zt_at 57 rfl rfl), List.mem_of_getElem? (i := 11) (by decide +kernel), xa_95.1, xa_95.2, rfl⟩
set_option maxRecDepth 1000000 in
theorem xX8_157_170 : zThrN RX8 157 170 161 "java/util/NoSuchElementException" "the shape does not grow on the slide" 13 ⟨#[0x2a, 0x2b, 0xb7, 0x00, 0x0d, 0xb1]⟩ "java/lang/RuntimeException" ["java/lang/Exception"] := ⟨by decide +kernel, by decide +kernel, by decide +kernel, (zt_at 845 rfl rfl), (zt_at 54 rfl rfl), List.mem_of_getElem? (i := 15) (by decide +kernel), xa_157.1, xa_157.2, rfl, by decide +kernel, by decide +kernel, by decide +kernel, by decide +kernel⟩
set_option maxRecDepth 1000000 in
theorem xX8_157_175 : zThrN RX8 157 175 161 "java/util/NoSuchElementException" "no shape is in the way" 13 ⟨#[0x2a, 0x2b, 0xb7, 0x00, 0x0d, 0xb1]⟩ "java/lang/RuntimeException" ["java/lang/Exception"] := ⟨by decide +kernel, by decide +kernel, by decide +kernel, (zt_at 845 rfl rfl), (zt_at 54 rfl rfl), List.mem_of_getElem? (i := 16) (by decide +kernel), xa_157.1, xa_157.2, rfl, by decide +kernel, by decide +kernel, by decide +kernel, by decide +kernel⟩
set_option maxRecDepth 1000000 in
theorem xX8_69_180 : zThr RX8 69 180 73 "java/lang/IllegalArgumentException" "there is no such wish" ["java/lang/RuntimeException", "java/lang/Exception"] := ⟨by decide +kernel, by decide +kernel, (zt_at 344 rfl rfl), (zt_at 53 rfl rfl), List.mem_of_getElem? (i := 12) (by decide +kernel), xa_69.1, xa_69.2, rfl⟩
set_option maxRecDepth 1000000 in
theorem xX8_86_185 : zThr RX8 86 185 90 "java/lang/IllegalStateException" "as many wishes were added as may be" ["java/lang/RuntimeException", "java/lang/Exception"] := ⟨by decide +kernel, by decide +kernel, (zt_at 731 rfl rfl), (zt_at 56 rfl rfl), List.mem_of_getElem? (i := 13) (by decide +kernel), xa_86.1, xa_86.2, rfl⟩
set_option maxRecDepth 1000000 in
theorem xX8_157_263 : zThrN RX8 157 263 161 "java/util/NoSuchElementException" "there is no such guide" 13 ⟨#[0x2a, 0x2b, 0xb7, 0x00, 0x0d, 0xb1]⟩ "java/lang/RuntimeException" ["java/lang/Exception"] := ⟨by decide +kernel, by decide +kernel, by decide +kernel, (zt_at 845 rfl rfl), (zt_at 54 rfl rfl), List.mem_of_getElem? (i := 17) (by decide +kernel), xa_157.1, xa_157.2, rfl, by decide +kernel, by decide +kernel, by decide +kernel, by decide +kernel⟩
set_option maxRecDepth 1000000 in
theorem xX8_69_268 : zThr RX8 69 268 73 "java/lang/IllegalArgumentException" "both shapes are the same" ["java/lang/RuntimeException", "java/lang/Exception"] := ⟨by decide +kernel, by decide +kernel, (zt_at 344 rfl rfl), (zt_at 53 rfl rfl), List.mem_of_getElem? (i := 18) (by decide +kernel), xa_69.1, xa_69.2, rfl⟩
set_option maxRecDepth 1000000 in
theorem xX8_307_309 : zThr RX8 307 309 311 "java/lang/IndexOutOfBoundsException" "there is no such shape" ["java/lang/RuntimeException", "java/lang/Exception"] := ⟨by decide +kernel, by decide +kernel, (zt_at 777 rfl rfl), (zt_at 50 rfl rfl), List.mem_of_getElem? (i := 5) (by decide +kernel), xa_307.1, xa_307.2, rfl⟩
set_option maxRecDepth 1000000 in
theorem xX8_157_180 : zThrN RX8 157 180 161 "java/util/NoSuchElementException" "there is no such wish" 13 ⟨#[0x2a, 0x2b, 0xb7, 0x00, 0x0d, 0xb1]⟩ "java/lang/RuntimeException" ["java/lang/Exception"] := ⟨by decide +kernel, by decide +kernel, by decide +kernel, (zt_at 845 rfl rfl), (zt_at 54 rfl rfl), List.mem_of_getElem? (i := 12) (by decide +kernel), xa_157.1, xa_157.2, rfl, by decide +kernel, by decide +kernel, by decide +kernel, by decide +kernel⟩
set_option maxRecDepth 1000000 in
theorem xX8_69_312 : zThr RX8 69 312 73 "java/lang/IllegalArgumentException" "the distance is out of range" ["java/lang/RuntimeException", "java/lang/Exception"] := ⟨by decide +kernel, by decide +kernel, (zt_at 344 rfl rfl), (zt_at 53 rfl rfl), List.mem_of_getElem? (i := 19) (by decide +kernel), xa_69.1, xa_69.2, rfl⟩
set_option maxRecDepth 1000000 in
theorem xX8_157_314 : zThrN RX8 157 314 161 "java/util/NoSuchElementException" "there is no even layout" 13 ⟨#[0x2a, 0x2b, 0xb7, 0x00, 0x0d, 0xb1]⟩ "java/lang/RuntimeException" ["java/lang/Exception"] := ⟨by decide +kernel, by decide +kernel, by decide +kernel, (zt_at 845 rfl rfl), (zt_at 54 rfl rfl), List.mem_of_getElem? (i := 14) (by decide +kernel), xa_157.1, xa_157.2, rfl, by decide +kernel, by decide +kernel, by decide +kernel, by decide +kernel⟩
set_option maxRecDepth 1000000 in
theorem xX8_69_316 : zThr RX8 69 316 73 "java/lang/IllegalArgumentException" "there is no such axis" ["java/lang/RuntimeException", "java/lang/Exception"] := ⟨by decide +kernel, by decide +kernel, (zt_at 344 rfl rfl), (zt_at 53 rfl rfl), List.mem_of_getElem? (i := 0) (by decide +kernel), xa_69.1, xa_69.2, rfl⟩
set_option maxRecDepth 1000000 in
theorem wa_int : Cond.arrayClass .int ∈ zt := (zt_at 85 rfl rfl)
