set_option maxRecDepth 1000000 in
theorem zt_at {w : Cond} (i : Nat) (h : lw_tbl[i]? = some w) (hg : goodWord w = true) : w ∈ zt := List.mem_filter.mpr ⟨List.mem_of_getElem? h, hg⟩
set_option maxRecDepth 1000000 in
theorem zbad_at {w : Cond} (i : Nat) (h : lw_tbl[i]? = some w) (hg : (!goodWord w && zfair w) = true) : w ∈ zbad := List.mem_filter.mpr ⟨List.mem_of_getElem? h, hg⟩
set_option maxRecDepth 1000000 in
theorem w_68 : Cond.methodLink RX8 11 yX0_init ∈ zt := zt_at 68 rfl rfl
set_option maxRecDepth 1000000 in
theorem w_39 : Cond.initialized RX0 ∈ zt := zt_at 39 rfl rfl
set_option maxRecDepth 1000000 in
theorem w_70 : mX0_init.cond ∈ zt := zt_at 70 rfl rfl
set_option maxRecDepth 1000000 in
theorem w_69 : Cond.instanceMethod yX0_init ∈ zt := zt_at 69 rfl rfl
set_option maxRecDepth 1000000 in
theorem qX0_init : (mX0_init.y.cls ≠ "java/lang/invoke/MethodHandle" ∧ mX0_init.y.cls ≠ "java/lang/invoke/VarHandle") ∧ (parseMethodDescriptor mX0_init.y.desc).map (fun d => d.parameters.length) = some 1 := by decide +kernel
set_option maxRecDepth 1000000 in
theorem kX8_11 : zCalI RX8 11 mX0_init 1 := ⟨⟨w_68, w_39, w_70, qX0_init.1, qX0_init.2⟩, w_69, rfl, rfl⟩
set_option maxRecDepth 1000000 in
theorem w_97 : Cond.methodLink RX8 23 yX4_init ∈ zt := zt_at 97 rfl rfl
set_option maxRecDepth 1000000 in
theorem w_40 : Cond.initialized RX4 ∈ zt := zt_at 40 rfl rfl
set_option maxRecDepth 1000000 in
theorem w_76 : mX4_init.cond ∈ zt := zt_at 76 rfl rfl
set_option maxRecDepth 1000000 in
theorem w_75 : Cond.instanceMethod yX4_init ∈ zt := zt_at 75 rfl rfl
set_option maxRecDepth 1000000 in
theorem qX4_init : (mX4_init.y.cls ≠ "java/lang/invoke/MethodHandle" ∧ mX4_init.y.cls ≠ "java/lang/invoke/VarHandle") ∧ (parseMethodDescriptor mX4_init.y.desc).map (fun d => d.parameters.length) = some 1 := by decide +kernel
set_option maxRecDepth 1000000 in
theorem kX8_23 : zCalI RX8 23 mX4_init 1 := ⟨⟨w_97, w_40, w_76, qX4_init.1, qX4_init.2⟩, w_75, rfl, rfl⟩
set_option maxRecDepth 1000000 in
theorem w_100 : Cond.methodLinkNest RX8 33 yX7_init "SlideLayout" ∈ zbad := zbad_at 100 rfl rfl
set_option maxRecDepth 1000000 in
theorem w_41 : Cond.initialized RX7 ∈ zt := zt_at 41 rfl rfl
set_option maxRecDepth 1000000 in
theorem w_102 : mX7_init.cond ∈ zt := zt_at 102 rfl rfl
set_option maxRecDepth 1000000 in
theorem w_101 : Cond.instanceMethod yX7_init ∈ zt := zt_at 101 rfl rfl
set_option maxRecDepth 1000000 in
theorem qX7_init : (mX7_init.y.cls ≠ "java/lang/invoke/MethodHandle" ∧ mX7_init.y.cls ≠ "java/lang/invoke/VarHandle") ∧ (parseMethodDescriptor mX7_init.y.desc).map (fun d => d.parameters.length) = some 0 := by decide +kernel
set_option maxRecDepth 1000000 in
theorem kX8_33 : zCalIN RX8 33 mX7_init 0 "SlideLayout" := ⟨w_100, w_41, w_102, qX7_init.1, qX7_init.2, w_101, rfl, rfl⟩
set_option maxRecDepth 1000000 in
theorem w_124 : Cond.methodLinkNest RX8 40 yX6_init "SlideLayout" ∈ zbad := zbad_at 124 rfl rfl
set_option maxRecDepth 1000000 in
theorem w_42 : Cond.initialized RX6 ∈ zt := zt_at 42 rfl rfl
set_option maxRecDepth 1000000 in
theorem w_126 : mX6_init.cond ∈ zt := zt_at 126 rfl rfl
set_option maxRecDepth 1000000 in
theorem w_125 : Cond.instanceMethod yX6_init ∈ zt := zt_at 125 rfl rfl
set_option maxRecDepth 1000000 in
theorem qX6_init : (mX6_init.y.cls ≠ "java/lang/invoke/MethodHandle" ∧ mX6_init.y.cls ≠ "java/lang/invoke/VarHandle") ∧ (parseMethodDescriptor mX6_init.y.desc).map (fun d => d.parameters.length) = some 0 := by decide +kernel
set_option maxRecDepth 1000000 in
theorem kX8_40 : zCalIN RX8 40 mX6_init 0 "SlideLayout" := ⟨w_124, w_42, w_126, qX6_init.1, qX6_init.2, w_125, rfl, rfl⟩
set_option maxRecDepth 1000000 in
theorem w_205 : Cond.methodLinkNest RX8 47 yX2_init "SlideLayout" ∈ zbad := zbad_at 205 rfl rfl
set_option maxRecDepth 1000000 in
theorem w_45 : Cond.initialized RX2 ∈ zt := zt_at 45 rfl rfl
set_option maxRecDepth 1000000 in
theorem w_207 : mX2_init.cond ∈ zt := zt_at 207 rfl rfl
set_option maxRecDepth 1000000 in
theorem w_206 : Cond.instanceMethod yX2_init ∈ zt := zt_at 206 rfl rfl
set_option maxRecDepth 1000000 in
theorem qX2_init : (mX2_init.y.cls ≠ "java/lang/invoke/MethodHandle" ∧ mX2_init.y.cls ≠ "java/lang/invoke/VarHandle") ∧ (parseMethodDescriptor mX2_init.y.desc).map (fun d => d.parameters.length) = some 0 := by decide +kernel
set_option maxRecDepth 1000000 in
theorem kX8_47 : zCalIN RX8 47 mX2_init 0 "SlideLayout" := ⟨w_205, w_45, w_207, qX2_init.1, qX2_init.2, w_206, rfl, rfl⟩
set_option maxRecDepth 1000000 in
theorem w_241 : Cond.methodLinkNest RX8 54 yX3_init "SlideLayout" ∈ zbad := zbad_at 241 rfl rfl
set_option maxRecDepth 1000000 in
theorem w_46 : Cond.initialized RX3 ∈ zt := zt_at 46 rfl rfl
set_option maxRecDepth 1000000 in
theorem w_243 : mX3_init.cond ∈ zt := zt_at 243 rfl rfl
set_option maxRecDepth 1000000 in
theorem w_242 : Cond.instanceMethod yX3_init ∈ zt := zt_at 242 rfl rfl
set_option maxRecDepth 1000000 in
theorem qX3_init : (mX3_init.y.cls ≠ "java/lang/invoke/MethodHandle" ∧ mX3_init.y.cls ≠ "java/lang/invoke/VarHandle") ∧ (parseMethodDescriptor mX3_init.y.desc).map (fun d => d.parameters.length) = some 0 := by decide +kernel
set_option maxRecDepth 1000000 in
theorem kX8_54 : zCalIN RX8 54 mX3_init 0 "SlideLayout" := ⟨w_241, w_46, w_243, qX3_init.1, qX3_init.2, w_242, rfl, rfl⟩
set_option maxRecDepth 1000000 in
theorem w_320 : Cond.methodLink RX8 76 yX0_holds ∈ zt := zt_at 320 rfl rfl
set_option maxRecDepth 1000000 in
theorem w_323 : mX0_holds.cond ∈ zt := zt_at 323 rfl rfl
set_option maxRecDepth 1000000 in
theorem w_321 : Cond.instanceMethod yX0_holds ∈ zt := zt_at 321 rfl rfl
set_option maxRecDepth 1000000 in
theorem w_322 : Cond.selects RX0 yX0_holds yX0_holds ∈ zt := zt_at 322 rfl rfl
set_option maxRecDepth 1000000 in
theorem qX0_holds : (mX0_holds.y.cls ≠ "java/lang/invoke/MethodHandle" ∧ mX0_holds.y.cls ≠ "java/lang/invoke/VarHandle") ∧ (parseMethodDescriptor mX0_holds.y.desc).map (fun d => d.parameters.length) = some 2 := by decide +kernel
set_option maxRecDepth 1000000 in
theorem kX8_76 : zCalV RX8 76 mX0_holds 2 := ⟨⟨w_320, w_39, w_323, qX0_holds.1, qX0_holds.2⟩, w_321, w_322, rfl⟩
set_option maxRecDepth 1000000 in
theorem w_296 : Cond.methodLink RX8 82 yX8_shapeCount ∈ zt := zt_at 296 rfl rfl
set_option maxRecDepth 1000000 in
theorem w_38 : Cond.initialized RX8 ∈ zt := zt_at 38 rfl rfl
set_option maxRecDepth 1000000 in
theorem w_299 : mX8_shapeCount.cond ∈ zt := zt_at 299 rfl rfl
set_option maxRecDepth 1000000 in
theorem w_298 : Cond.instanceMethod yX8_shapeCount ∈ zt := zt_at 298 rfl rfl
set_option maxRecDepth 1000000 in
theorem w_1 : Cond.selects RX8 yX8_shapeCount yX8_shapeCount ∈ zt := zt_at 1 rfl rfl
set_option maxRecDepth 1000000 in
theorem qX8_shapeCount : (mX8_shapeCount.y.cls ≠ "java/lang/invoke/MethodHandle" ∧ mX8_shapeCount.y.cls ≠ "java/lang/invoke/VarHandle") ∧ (parseMethodDescriptor mX8_shapeCount.y.desc).map (fun d => d.parameters.length) = some 0 := by decide +kernel
set_option maxRecDepth 1000000 in
theorem kX8_82 : zCalV RX8 82 mX8_shapeCount 0 := ⟨⟨w_296, w_38, w_299, qX8_shapeCount.1, qX8_shapeCount.2⟩, w_298, w_1, rfl⟩
set_option maxRecDepth 1000000 in
theorem w_324 : Cond.methodLink RX8 91 yX8_firstOverlapped ∈ zt := zt_at 324 rfl rfl
set_option maxRecDepth 1000000 in
theorem w_327 : mX8_firstOverlapped.cond ∈ zt := zt_at 327 rfl rfl
set_option maxRecDepth 1000000 in
theorem w_326 : Cond.instanceMethod yX8_firstOverlapped ∈ zt := zt_at 326 rfl rfl
set_option maxRecDepth 1000000 in
theorem w_2 : Cond.selects RX8 yX8_firstOverlapped yX8_firstOverlapped ∈ zt := zt_at 2 rfl rfl
set_option maxRecDepth 1000000 in
theorem qX8_firstOverlapped : (mX8_firstOverlapped.y.cls ≠ "java/lang/invoke/MethodHandle" ∧ mX8_firstOverlapped.y.cls ≠ "java/lang/invoke/VarHandle") ∧ (parseMethodDescriptor mX8_firstOverlapped.y.desc).map (fun d => d.parameters.length) = some 5 := by decide +kernel
set_option maxRecDepth 1000000 in
theorem kX8_91 : zCalV RX8 91 mX8_firstOverlapped 5 := ⟨⟨w_324, w_38, w_327, qX8_firstOverlapped.1, qX8_firstOverlapped.2⟩, w_326, w_2, rfl⟩
set_option maxRecDepth 1000000 in
theorem w_763 : Cond.methodLink RX8 100 yX0_append ∈ zt := zt_at 763 rfl rfl
set_option maxRecDepth 1000000 in
theorem w_766 : mX0_append.cond ∈ zt := zt_at 766 rfl rfl
set_option maxRecDepth 1000000 in
theorem w_764 : Cond.instanceMethod yX0_append ∈ zt := zt_at 764 rfl rfl
set_option maxRecDepth 1000000 in
theorem w_765 : Cond.selects RX0 yX0_append yX0_append ∈ zt := zt_at 765 rfl rfl
set_option maxRecDepth 1000000 in
theorem qX0_append : (mX0_append.y.cls ≠ "java/lang/invoke/MethodHandle" ∧ mX0_append.y.cls ≠ "java/lang/invoke/VarHandle") ∧ (parseMethodDescriptor mX0_append.y.desc).map (fun d => d.parameters.length) = some 2 := by decide +kernel
set_option maxRecDepth 1000000 in
theorem kX8_100 : zCalV RX8 100 mX0_append 2 := ⟨⟨w_763, w_39, w_766, qX0_append.1, qX0_append.2⟩, w_764, w_765, rfl⟩
set_option maxRecDepth 1000000 in
theorem w_768 : Cond.methodLink RX8 104 yX4_append ∈ zt := zt_at 768 rfl rfl
set_option maxRecDepth 1000000 in
theorem w_453 : mX4_append.cond ∈ zt := zt_at 453 rfl rfl
set_option maxRecDepth 1000000 in
theorem w_451 : Cond.instanceMethod yX4_append ∈ zt := zt_at 451 rfl rfl
set_option maxRecDepth 1000000 in
theorem w_452 : Cond.selects RX4 yX4_append yX4_append ∈ zt := zt_at 452 rfl rfl
set_option maxRecDepth 1000000 in
theorem qX4_append : (mX4_append.y.cls ≠ "java/lang/invoke/MethodHandle" ∧ mX4_append.y.cls ≠ "java/lang/invoke/VarHandle") ∧ (parseMethodDescriptor mX4_append.y.desc).map (fun d => d.parameters.length) = some 1 := by decide +kernel
set_option maxRecDepth 1000000 in
theorem kX8_104 : zCalV RX8 104 mX4_append 1 := ⟨⟨w_768, w_40, w_453, qX4_append.1, qX4_append.2⟩, w_451, w_452, rfl⟩
set_option maxRecDepth 1000000 in
theorem w_773 : Cond.methodLink RX8 106 yX8_requireShape ∈ zt := zt_at 773 rfl rfl
set_option maxRecDepth 1000000 in
theorem w_776 : mX8_requireShape.cond ∈ zt := zt_at 776 rfl rfl
set_option maxRecDepth 1000000 in
theorem w_775 : Cond.instanceMethod yX8_requireShape ∈ zt := zt_at 775 rfl rfl
set_option maxRecDepth 1000000 in
theorem w_24 : Cond.selects RX8 yX8_requireShape yX8_requireShape ∈ zt := zt_at 24 rfl rfl
set_option maxRecDepth 1000000 in
theorem qX8_requireShape : (mX8_requireShape.y.cls ≠ "java/lang/invoke/MethodHandle" ∧ mX8_requireShape.y.cls ≠ "java/lang/invoke/VarHandle") ∧ (parseMethodDescriptor mX8_requireShape.y.desc).map (fun d => d.parameters.length) = some 1 := by decide +kernel
set_option maxRecDepth 1000000 in
theorem kX8_106 : zCalV RX8 106 mX8_requireShape 1 := ⟨⟨w_773, w_38, w_776, qX8_requireShape.1, qX8_requireShape.2⟩, w_775, w_24, rfl⟩
set_option maxRecDepth 1000000 in
theorem w_790 : Cond.methodLink RX8 109 yX8_isLockedShape ∈ zt := zt_at 790 rfl rfl
set_option maxRecDepth 1000000 in
theorem w_793 : mX8_isLockedShape.cond ∈ zt := zt_at 793 rfl rfl
set_option maxRecDepth 1000000 in
theorem w_792 : Cond.instanceMethod yX8_isLockedShape ∈ zt := zt_at 792 rfl rfl
set_option maxRecDepth 1000000 in
theorem w_25 : Cond.selects RX8 yX8_isLockedShape yX8_isLockedShape ∈ zt := zt_at 25 rfl rfl
set_option maxRecDepth 1000000 in
theorem qX8_isLockedShape : (mX8_isLockedShape.y.cls ≠ "java/lang/invoke/MethodHandle" ∧ mX8_isLockedShape.y.cls ≠ "java/lang/invoke/VarHandle") ∧ (parseMethodDescriptor mX8_isLockedShape.y.desc).map (fun d => d.parameters.length) = some 1 := by decide +kernel
set_option maxRecDepth 1000000 in
theorem kX8_109 : zCalV RX8 109 mX8_isLockedShape 1 := ⟨⟨w_790, w_38, w_793, qX8_isLockedShape.1, qX8_isLockedShape.2⟩, w_792, w_25, rfl⟩
set_option maxRecDepth 1000000 in
theorem w_795 : Cond.methodLink RX8 113 yX4_set ∈ zt := zt_at 795 rfl rfl
set_option maxRecDepth 1000000 in
theorem w_449 : mX4_set.cond ∈ zt := zt_at 449 rfl rfl
set_option maxRecDepth 1000000 in
theorem w_447 : Cond.instanceMethod yX4_set ∈ zt := zt_at 447 rfl rfl
set_option maxRecDepth 1000000 in
theorem w_448 : Cond.selects RX4 yX4_set yX4_set ∈ zt := zt_at 448 rfl rfl
set_option maxRecDepth 1000000 in
theorem qX4_set : (mX4_set.y.cls ≠ "java/lang/invoke/MethodHandle" ∧ mX4_set.y.cls ≠ "java/lang/invoke/VarHandle") ∧ (parseMethodDescriptor mX4_set.y.desc).map (fun d => d.parameters.length) = some 2 := by decide +kernel
set_option maxRecDepth 1000000 in
theorem kX8_113 : zCalV RX8 113 mX4_set 2 := ⟨⟨w_795, w_40, w_449, qX4_set.1, qX4_set.2⟩, w_447, w_448, rfl⟩
set_option maxRecDepth 1000000 in
theorem w_340 : Cond.methodLink RX8 116 yX8_axisNamed ∈ zt := zt_at 340 rfl rfl
set_option maxRecDepth 1000000 in
theorem w_343 : mX8_axisNamed.cond ∈ zt := zt_at 343 rfl rfl
set_option maxRecDepth 1000000 in
theorem w_342 : Cond.instanceMethod yX8_axisNamed ∈ zt := zt_at 342 rfl rfl
set_option maxRecDepth 1000000 in
theorem w_5 : Cond.selects RX8 yX8_axisNamed yX8_axisNamed ∈ zt := zt_at 5 rfl rfl
set_option maxRecDepth 1000000 in
theorem qX8_axisNamed : (mX8_axisNamed.y.cls ≠ "java/lang/invoke/MethodHandle" ∧ mX8_axisNamed.y.cls ≠ "java/lang/invoke/VarHandle") ∧ (parseMethodDescriptor mX8_axisNamed.y.desc).map (fun d => d.parameters.length) = some 1 := by decide +kernel
set_option maxRecDepth 1000000 in
theorem kX8_116 : zCalV RX8 116 mX8_axisNamed 1 := ⟨⟨w_340, w_38, w_343, qX8_axisNamed.1, qX8_axisNamed.2⟩, w_342, w_5, rfl⟩
set_option maxRecDepth 1000000 in
theorem w_308 : Cond.methodLink RX8 120 yX0_startAt ∈ zt := zt_at 308 rfl rfl
set_option maxRecDepth 1000000 in
theorem w_311 : mX0_startAt.cond ∈ zt := zt_at 311 rfl rfl
set_option maxRecDepth 1000000 in
theorem w_309 : Cond.instanceMethod yX0_startAt ∈ zt := zt_at 309 rfl rfl
set_option maxRecDepth 1000000 in
theorem w_310 : Cond.selects RX0 yX0_startAt yX0_startAt ∈ zt := zt_at 310 rfl rfl
set_option maxRecDepth 1000000 in
theorem qX0_startAt : (mX0_startAt.y.cls ≠ "java/lang/invoke/MethodHandle" ∧ mX0_startAt.y.cls ≠ "java/lang/invoke/VarHandle") ∧ (parseMethodDescriptor mX0_startAt.y.desc).map (fun d => d.parameters.length) = some 1 := by decide +kernel
set_option maxRecDepth 1000000 in
theorem kX8_120 : zCalV RX8 120 mX0_startAt 1 := ⟨⟨w_308, w_39, w_311, qX0_startAt.1, qX0_startAt.2⟩, w_309, w_310, rfl⟩
set_option maxRecDepth 1000000 in
theorem w_316 : Cond.methodLink RX8 124 yX0_sizeAt ∈ zt := zt_at 316 rfl rfl
set_option maxRecDepth 1000000 in
theorem w_319 : mX0_sizeAt.cond ∈ zt := zt_at 319 rfl rfl
set_option maxRecDepth 1000000 in
theorem w_317 : Cond.instanceMethod yX0_sizeAt ∈ zt := zt_at 317 rfl rfl
set_option maxRecDepth 1000000 in
theorem w_318 : Cond.selects RX0 yX0_sizeAt yX0_sizeAt ∈ zt := zt_at 318 rfl rfl
set_option maxRecDepth 1000000 in
theorem qX0_sizeAt : (mX0_sizeAt.y.cls ≠ "java/lang/invoke/MethodHandle" ∧ mX0_sizeAt.y.cls ≠ "java/lang/invoke/VarHandle") ∧ (parseMethodDescriptor mX0_sizeAt.y.desc).map (fun d => d.parameters.length) = some 1 := by decide +kernel
set_option maxRecDepth 1000000 in
theorem kX8_124 : zCalV RX8 124 mX0_sizeAt 1 := ⟨⟨w_316, w_39, w_319, qX0_sizeAt.1, qX0_sizeAt.2⟩, w_317, w_318, rfl⟩
set_option maxRecDepth 1000000 in
theorem w_803 : Cond.methodLink RX8 127 yX8_moveHindrance ∈ zt := zt_at 803 rfl rfl
set_option maxRecDepth 1000000 in
theorem w_806 : mX8_moveHindrance.cond ∈ zt := zt_at 806 rfl rfl
set_option maxRecDepth 1000000 in
theorem w_805 : Cond.instanceMethod yX8_moveHindrance ∈ zt := zt_at 805 rfl rfl
set_option maxRecDepth 1000000 in
theorem w_26 : Cond.selects RX8 yX8_moveHindrance yX8_moveHindrance ∈ zt := zt_at 26 rfl rfl
set_option maxRecDepth 1000000 in
theorem qX8_moveHindrance : (mX8_moveHindrance.y.cls ≠ "java/lang/invoke/MethodHandle" ∧ mX8_moveHindrance.y.cls ≠ "java/lang/invoke/VarHandle") ∧ (parseMethodDescriptor mX8_moveHindrance.y.desc).map (fun d => d.parameters.length) = some 3 := by decide +kernel
set_option maxRecDepth 1000000 in
theorem kX8_127 : zCalV RX8 127 mX8_moveHindrance 3 := ⟨⟨w_803, w_38, w_806, qX8_moveHindrance.1, qX8_moveHindrance.2⟩, w_805, w_26, rfl⟩
set_option maxRecDepth 1000000 in
theorem w_811 : Cond.methodLink RX8 142 yX0_setStart ∈ zt := zt_at 811 rfl rfl
set_option maxRecDepth 1000000 in
theorem w_814 : mX0_setStart.cond ∈ zt := zt_at 814 rfl rfl
set_option maxRecDepth 1000000 in
theorem w_812 : Cond.instanceMethod yX0_setStart ∈ zt := zt_at 812 rfl rfl
set_option maxRecDepth 1000000 in
theorem w_813 : Cond.selects RX0 yX0_setStart yX0_setStart ∈ zt := zt_at 813 rfl rfl
set_option maxRecDepth 1000000 in
theorem qX0_setStart : (mX0_setStart.y.cls ≠ "java/lang/invoke/MethodHandle" ∧ mX0_setStart.y.cls ≠ "java/lang/invoke/VarHandle") ∧ (parseMethodDescriptor mX0_setStart.y.desc).map (fun d => d.parameters.length) = some 2 := by decide +kernel
set_option maxRecDepth 1000000 in
theorem kX8_142 : zCalV RX8 142 mX0_setStart 2 := ⟨⟨w_811, w_39, w_814, qX0_setStart.1, qX0_setStart.2⟩, w_812, w_813, rfl⟩
set_option maxRecDepth 1000000 in
theorem w_821 : Cond.methodLink RX8 147 yX8_neededHeight ∈ zt := zt_at 821 rfl rfl
set_option maxRecDepth 1000000 in
theorem w_824 : mX8_neededHeight.cond ∈ zt := zt_at 824 rfl rfl
set_option maxRecDepth 1000000 in
theorem w_823 : Cond.instanceMethod yX8_neededHeight ∈ zt := zt_at 823 rfl rfl
set_option maxRecDepth 1000000 in
theorem w_27 : Cond.selects RX8 yX8_neededHeight yX8_neededHeight ∈ zt := zt_at 27 rfl rfl
set_option maxRecDepth 1000000 in
theorem qX8_neededHeight : (mX8_neededHeight.y.cls ≠ "java/lang/invoke/MethodHandle" ∧ mX8_neededHeight.y.cls ≠ "java/lang/invoke/VarHandle") ∧ (parseMethodDescriptor mX8_neededHeight.y.desc).map (fun d => d.parameters.length) = some 1 := by decide +kernel
set_option maxRecDepth 1000000 in
theorem kX8_147 : zCalV RX8 147 mX8_neededHeight 1 := ⟨⟨w_821, w_38, w_824, qX8_neededHeight.1, qX8_neededHeight.2⟩, w_823, w_27, rfl⟩
set_option maxRecDepth 1000000 in
theorem w_833 : Cond.methodLink RX8 150 yX8_textFits ∈ zt := zt_at 833 rfl rfl
set_option maxRecDepth 1000000 in
theorem w_836 : mX8_textFits.cond ∈ zt := zt_at 836 rfl rfl
set_option maxRecDepth 1000000 in
theorem w_835 : Cond.instanceMethod yX8_textFits ∈ zt := zt_at 835 rfl rfl
set_option maxRecDepth 1000000 in
theorem w_29 : Cond.selects RX8 yX8_textFits yX8_textFits ∈ zt := zt_at 29 rfl rfl
set_option maxRecDepth 1000000 in
theorem qX8_textFits : (mX8_textFits.y.cls ≠ "java/lang/invoke/MethodHandle" ∧ mX8_textFits.y.cls ≠ "java/lang/invoke/VarHandle") ∧ (parseMethodDescriptor mX8_textFits.y.desc).map (fun d => d.parameters.length) = some 1 := by decide +kernel
set_option maxRecDepth 1000000 in
theorem kX8_150 : zCalV RX8 150 mX8_textFits 1 := ⟨⟨w_833, w_38, w_836, qX8_textFits.1, qX8_textFits.2⟩, w_835, w_29, rfl⟩
set_option maxRecDepth 1000000 in
theorem w_829 : Cond.methodLink RX8 153 yX8_growHindrance ∈ zt := zt_at 829 rfl rfl
set_option maxRecDepth 1000000 in
theorem w_832 : mX8_growHindrance.cond ∈ zt := zt_at 832 rfl rfl
set_option maxRecDepth 1000000 in
theorem w_831 : Cond.instanceMethod yX8_growHindrance ∈ zt := zt_at 831 rfl rfl
set_option maxRecDepth 1000000 in
theorem w_28 : Cond.selects RX8 yX8_growHindrance yX8_growHindrance ∈ zt := zt_at 28 rfl rfl
set_option maxRecDepth 1000000 in
theorem qX8_growHindrance : (mX8_growHindrance.y.cls ≠ "java/lang/invoke/MethodHandle" ∧ mX8_growHindrance.y.cls ≠ "java/lang/invoke/VarHandle") ∧ (parseMethodDescriptor mX8_growHindrance.y.desc).map (fun d => d.parameters.length) = some 1 := by decide +kernel
set_option maxRecDepth 1000000 in
theorem kX8_153 : zCalV RX8 153 mX8_growHindrance 1 := ⟨⟨w_829, w_38, w_832, qX8_growHindrance.1, qX8_growHindrance.2⟩, w_831, w_28, rfl⟩
set_option maxRecDepth 1000000 in
theorem w_862 : Cond.methodLink RX8 164 yX0_setSize ∈ zt := zt_at 862 rfl rfl
set_option maxRecDepth 1000000 in
theorem w_865 : mX0_setSize.cond ∈ zt := zt_at 865 rfl rfl
set_option maxRecDepth 1000000 in
theorem w_863 : Cond.instanceMethod yX0_setSize ∈ zt := zt_at 863 rfl rfl
set_option maxRecDepth 1000000 in
theorem w_864 : Cond.selects RX0 yX0_setSize yX0_setSize ∈ zt := zt_at 864 rfl rfl
set_option maxRecDepth 1000000 in
theorem qX0_setSize : (mX0_setSize.y.cls ≠ "java/lang/invoke/MethodHandle" ∧ mX0_setSize.y.cls ≠ "java/lang/invoke/VarHandle") ∧ (parseMethodDescriptor mX0_setSize.y.desc).map (fun d => d.parameters.length) = some 2 := by decide +kernel
set_option maxRecDepth 1000000 in
theorem kX8_164 : zCalV RX8 164 mX0_setSize 2 := ⟨⟨w_862, w_39, w_865, qX0_setSize.1, qX0_setSize.2⟩, w_863, w_864, rfl⟩
set_option maxRecDepth 1000000 in
theorem w_837 : Cond.methodLink RX8 167 yX8_grownLiesOnSlide ∈ zt := zt_at 837 rfl rfl
set_option maxRecDepth 1000000 in
theorem w_840 : mX8_grownLiesOnSlide.cond ∈ zt := zt_at 840 rfl rfl
set_option maxRecDepth 1000000 in
theorem w_839 : Cond.instanceMethod yX8_grownLiesOnSlide ∈ zt := zt_at 839 rfl rfl
set_option maxRecDepth 1000000 in
theorem w_30 : Cond.selects RX8 yX8_grownLiesOnSlide yX8_grownLiesOnSlide ∈ zt := zt_at 30 rfl rfl
set_option maxRecDepth 1000000 in
theorem qX8_grownLiesOnSlide : (mX8_grownLiesOnSlide.y.cls ≠ "java/lang/invoke/MethodHandle" ∧ mX8_grownLiesOnSlide.y.cls ≠ "java/lang/invoke/VarHandle") ∧ (parseMethodDescriptor mX8_grownLiesOnSlide.y.desc).map (fun d => d.parameters.length) = some 1 := by decide +kernel
set_option maxRecDepth 1000000 in
theorem kX8_167 : zCalV RX8 167 mX8_grownLiesOnSlide 1 := ⟨⟨w_837, w_38, w_840, qX8_grownLiesOnSlide.1, qX8_grownLiesOnSlide.2⟩, w_839, w_30, rfl⟩
set_option maxRecDepth 1000000 in
theorem w_841 : Cond.methodLink RX8 172 yX8_firstOverlappedIfGrown ∈ zt := zt_at 841 rfl rfl
set_option maxRecDepth 1000000 in
theorem w_844 : mX8_firstOverlappedIfGrown.cond ∈ zt := zt_at 844 rfl rfl
set_option maxRecDepth 1000000 in
theorem w_843 : Cond.instanceMethod yX8_firstOverlappedIfGrown ∈ zt := zt_at 843 rfl rfl
set_option maxRecDepth 1000000 in
theorem w_31 : Cond.selects RX8 yX8_firstOverlappedIfGrown yX8_firstOverlappedIfGrown ∈ zt := zt_at 31 rfl rfl
set_option maxRecDepth 1000000 in
theorem qX8_firstOverlappedIfGrown : (mX8_firstOverlappedIfGrown.y.cls ≠ "java/lang/invoke/MethodHandle" ∧ mX8_firstOverlappedIfGrown.y.cls ≠ "java/lang/invoke/VarHandle") ∧ (parseMethodDescriptor mX8_firstOverlappedIfGrown.y.desc).map (fun d => d.parameters.length) = some 1 := by decide +kernel
set_option maxRecDepth 1000000 in
theorem kX8_172 : zCalV RX8 172 mX8_firstOverlappedIfGrown 1 := ⟨⟨w_841, w_38, w_844, qX8_firstOverlappedIfGrown.1, qX8_firstOverlappedIfGrown.2⟩, w_843, w_31, rfl⟩
set_option maxRecDepth 1000000 in
theorem w_870 : Cond.methodLink RX8 177 yX7_isKind ∈ zt := zt_at 870 rfl rfl
set_option maxRecDepth 1000000 in
theorem w_872 : mX7_isKind.cond ∈ zt := zt_at 872 rfl rfl
set_option maxRecDepth 1000000 in
theorem w_871 : Cond.static yX7_isKind ∈ zt := zt_at 871 rfl rfl
set_option maxRecDepth 1000000 in
theorem qX7_isKind : (mX7_isKind.y.cls ≠ "java/lang/invoke/MethodHandle" ∧ mX7_isKind.y.cls ≠ "java/lang/invoke/VarHandle") ∧ (parseMethodDescriptor mX7_isKind.y.desc).map (fun d => d.parameters.length) = some 1 := by decide +kernel
set_option maxRecDepth 1000000 in
theorem kX8_177 : zCalS RX8 177 mX7_isKind 1 := ⟨⟨w_870, w_41, w_872, qX7_isKind.1, qX7_isKind.2⟩, w_871, rfl⟩
set_option maxRecDepth 1000000 in
theorem w_874 : Cond.methodLink RX8 182 yX7_addedCount ∈ zt := zt_at 874 rfl rfl
set_option maxRecDepth 1000000 in
theorem w_479 : mX7_addedCount.cond ∈ zt := zt_at 479 rfl rfl
set_option maxRecDepth 1000000 in
theorem w_477 : Cond.instanceMethod yX7_addedCount ∈ zt := zt_at 477 rfl rfl
set_option maxRecDepth 1000000 in
theorem w_478 : Cond.selects RX7 yX7_addedCount yX7_addedCount ∈ zt := zt_at 478 rfl rfl
set_option maxRecDepth 1000000 in
theorem qX7_addedCount : (mX7_addedCount.y.cls ≠ "java/lang/invoke/MethodHandle" ∧ mX7_addedCount.y.cls ≠ "java/lang/invoke/VarHandle") ∧ (parseMethodDescriptor mX7_addedCount.y.desc).map (fun d => d.parameters.length) = some 0 := by decide +kernel
set_option maxRecDepth 1000000 in
theorem kX8_182 : zCalV RX8 182 mX7_addedCount 0 := ⟨⟨w_874, w_41, w_479, qX7_addedCount.1, qX7_addedCount.2⟩, w_477, w_478, rfl⟩
set_option maxRecDepth 1000000 in
theorem w_876 : Cond.methodLink RX8 187 yX7_append ∈ zt := zt_at 876 rfl rfl
set_option maxRecDepth 1000000 in
theorem w_879 : mX7_append.cond ∈ zt := zt_at 879 rfl rfl
set_option maxRecDepth 1000000 in
theorem w_877 : Cond.instanceMethod yX7_append ∈ zt := zt_at 877 rfl rfl
set_option maxRecDepth 1000000 in
theorem w_878 : Cond.selects RX7 yX7_append yX7_append ∈ zt := zt_at 878 rfl rfl
set_option maxRecDepth 1000000 in
theorem qX7_append : (mX7_append.y.cls ≠ "java/lang/invoke/MethodHandle" ∧ mX7_append.y.cls ≠ "java/lang/invoke/VarHandle") ∧ (parseMethodDescriptor mX7_append.y.desc).map (fun d => d.parameters.length) = some 4 := by decide +kernel
set_option maxRecDepth 1000000 in
theorem kX8_187 : zCalV RX8 187 mX7_append 4 := ⟨⟨w_876, w_41, w_879, qX7_append.1, qX7_append.2⟩, w_877, w_878, rfl⟩
set_option maxRecDepth 1000000 in
theorem w_885 : Cond.methodLink RX8 190 yX8_requireWish ∈ zt := zt_at 885 rfl rfl
set_option maxRecDepth 1000000 in
theorem w_888 : mX8_requireWish.cond ∈ zt := zt_at 888 rfl rfl
set_option maxRecDepth 1000000 in
theorem w_887 : Cond.instanceMethod yX8_requireWish ∈ zt := zt_at 887 rfl rfl
set_option maxRecDepth 1000000 in
theorem w_32 : Cond.selects RX8 yX8_requireWish yX8_requireWish ∈ zt := zt_at 32 rfl rfl
set_option maxRecDepth 1000000 in
theorem qX8_requireWish : (mX8_requireWish.y.cls ≠ "java/lang/invoke/MethodHandle" ∧ mX8_requireWish.y.cls ≠ "java/lang/invoke/VarHandle") ∧ (parseMethodDescriptor mX8_requireWish.y.desc).map (fun d => d.parameters.length) = some 1 := by decide +kernel
set_option maxRecDepth 1000000 in
theorem kX8_190 : zCalV RX8 190 mX8_requireWish 1 := ⟨⟨w_885, w_38, w_888, qX8_requireWish.1, qX8_requireWish.2⟩, w_887, w_32, rfl⟩
set_option maxRecDepth 1000000 in
theorem w_890 : Cond.methodLink RX8 193 yX7_remove ∈ zt := zt_at 890 rfl rfl
set_option maxRecDepth 1000000 in
theorem w_893 : mX7_remove.cond ∈ zt := zt_at 893 rfl rfl
set_option maxRecDepth 1000000 in
theorem w_891 : Cond.instanceMethod yX7_remove ∈ zt := zt_at 891 rfl rfl
set_option maxRecDepth 1000000 in
theorem w_892 : Cond.selects RX7 yX7_remove yX7_remove ∈ zt := zt_at 892 rfl rfl
set_option maxRecDepth 1000000 in
theorem qX7_remove : (mX7_remove.y.cls ≠ "java/lang/invoke/MethodHandle" ∧ mX7_remove.y.cls ≠ "java/lang/invoke/VarHandle") ∧ (parseMethodDescriptor mX7_remove.y.desc).map (fun d => d.parameters.length) = some 1 := by decide +kernel
set_option maxRecDepth 1000000 in
theorem kX8_193 : zCalV RX8 193 mX7_remove 1 := ⟨⟨w_890, w_41, w_893, qX7_remove.1, qX7_remove.2⟩, w_891, w_892, rfl⟩
set_option maxRecDepth 1000000 in
theorem w_895 : Cond.methodLink RX8 196 yX7_presentCount ∈ zt := zt_at 895 rfl rfl
set_option maxRecDepth 1000000 in
theorem w_898 : mX7_presentCount.cond ∈ zt := zt_at 898 rfl rfl
set_option maxRecDepth 1000000 in
theorem w_896 : Cond.instanceMethod yX7_presentCount ∈ zt := zt_at 896 rfl rfl
set_option maxRecDepth 1000000 in
theorem w_897 : Cond.selects RX7 yX7_presentCount yX7_presentCount ∈ zt := zt_at 897 rfl rfl
set_option maxRecDepth 1000000 in
theorem qX7_presentCount : (mX7_presentCount.y.cls ≠ "java/lang/invoke/MethodHandle" ∧ mX7_presentCount.y.cls ≠ "java/lang/invoke/VarHandle") ∧ (parseMethodDescriptor mX7_presentCount.y.desc).map (fun d => d.parameters.length) = some 0 := by decide +kernel
set_option maxRecDepth 1000000 in
theorem kX8_196 : zCalV RX8 196 mX7_presentCount 0 := ⟨⟨w_895, w_41, w_898, qX7_presentCount.1, qX7_presentCount.2⟩, w_896, w_897, rfl⟩
set_option maxRecDepth 1000000 in
theorem w_974 : Cond.methodLink RX8 199 yX7_axisAt ∈ zt := zt_at 974 rfl rfl
set_option maxRecDepth 1000000 in
theorem w_489 : mX7_axisAt.cond ∈ zt := zt_at 489 rfl rfl
set_option maxRecDepth 1000000 in
theorem w_487 : Cond.instanceMethod yX7_axisAt ∈ zt := zt_at 487 rfl rfl
set_option maxRecDepth 1000000 in
theorem w_488 : Cond.selects RX7 yX7_axisAt yX7_axisAt ∈ zt := zt_at 488 rfl rfl
set_option maxRecDepth 1000000 in
theorem qX7_axisAt : (mX7_axisAt.y.cls ≠ "java/lang/invoke/MethodHandle" ∧ mX7_axisAt.y.cls ≠ "java/lang/invoke/VarHandle") ∧ (parseMethodDescriptor mX7_axisAt.y.desc).map (fun d => d.parameters.length) = some 1 := by decide +kernel
set_option maxRecDepth 1000000 in
theorem kX8_199 : zCalV RX8 199 mX7_axisAt 1 := ⟨⟨w_974, w_41, w_489, qX7_axisAt.1, qX7_axisAt.2⟩, w_487, w_488, rfl⟩
set_option maxRecDepth 1000000 in
theorem w_975 : Cond.methodLink RX8 202 yX7_holdsIn ∈ zt := zt_at 975 rfl rfl
set_option maxRecDepth 1000000 in
theorem w_978 : mX7_holdsIn.cond ∈ zt := zt_at 978 rfl rfl
set_option maxRecDepth 1000000 in
theorem w_976 : Cond.instanceMethod yX7_holdsIn ∈ zt := zt_at 976 rfl rfl
set_option maxRecDepth 1000000 in
theorem w_977 : Cond.selects RX7 yX7_holdsIn yX7_holdsIn ∈ zt := zt_at 977 rfl rfl
set_option maxRecDepth 1000000 in
theorem qX7_holdsIn : (mX7_holdsIn.y.cls ≠ "java/lang/invoke/MethodHandle" ∧ mX7_holdsIn.y.cls ≠ "java/lang/invoke/VarHandle") ∧ (parseMethodDescriptor mX7_holdsIn.y.desc).map (fun d => d.parameters.length) = some 2 := by decide +kernel
set_option maxRecDepth 1000000 in
theorem kX8_202 : zCalV RX8 202 mX7_holdsIn 2 := ⟨⟨w_975, w_41, w_978, qX7_holdsIn.1, qX7_holdsIn.2⟩, w_976, w_977, rfl⟩
set_option maxRecDepth 1000000 in
theorem w_889 : Cond.methodLink RX8 206 yX7_isThere ∈ zt := zt_at 889 rfl rfl
set_option maxRecDepth 1000000 in
theorem w_484 : mX7_isThere.cond ∈ zt := zt_at 484 rfl rfl
set_option maxRecDepth 1000000 in
theorem w_482 : Cond.instanceMethod yX7_isThere ∈ zt := zt_at 482 rfl rfl
set_option maxRecDepth 1000000 in
theorem w_483 : Cond.selects RX7 yX7_isThere yX7_isThere ∈ zt := zt_at 483 rfl rfl
set_option maxRecDepth 1000000 in
theorem qX7_isThere : (mX7_isThere.y.cls ≠ "java/lang/invoke/MethodHandle" ∧ mX7_isThere.y.cls ≠ "java/lang/invoke/VarHandle") ∧ (parseMethodDescriptor mX7_isThere.y.desc).map (fun d => d.parameters.length) = some 1 := by decide +kernel
set_option maxRecDepth 1000000 in
theorem kX8_206 : zCalV RX8 206 mX7_isThere 1 := ⟨⟨w_889, w_41, w_484, qX7_isThere.1, qX7_isThere.2⟩, w_482, w_483, rfl⟩
set_option maxRecDepth 1000000 in
theorem w_990 : Cond.methodLink RX8 209 yX7_strengthAt ∈ zt := zt_at 990 rfl rfl
set_option maxRecDepth 1000000 in
theorem w_514 : mX7_strengthAt.cond ∈ zt := zt_at 514 rfl rfl
set_option maxRecDepth 1000000 in
theorem w_512 : Cond.instanceMethod yX7_strengthAt ∈ zt := zt_at 512 rfl rfl
set_option maxRecDepth 1000000 in
theorem w_513 : Cond.selects RX7 yX7_strengthAt yX7_strengthAt ∈ zt := zt_at 513 rfl rfl
set_option maxRecDepth 1000000 in
theorem qX7_strengthAt : (mX7_strengthAt.y.cls ≠ "java/lang/invoke/MethodHandle" ∧ mX7_strengthAt.y.cls ≠ "java/lang/invoke/VarHandle") ∧ (parseMethodDescriptor mX7_strengthAt.y.desc).map (fun d => d.parameters.length) = some 1 := by decide +kernel
set_option maxRecDepth 1000000 in
theorem kX8_209 : zCalV RX8 209 mX7_strengthAt 1 := ⟨⟨w_990, w_41, w_514, qX7_strengthAt.1, qX7_strengthAt.2⟩, w_512, w_513, rfl⟩
set_option maxRecDepth 1000000 in
theorem w_995 : Cond.methodLink RX8 212 yX0_listSnaps ∈ zt := zt_at 995 rfl rfl
set_option maxRecDepth 1000000 in
theorem w_431 : mX0_listSnaps.cond ∈ zt := zt_at 431 rfl rfl
set_option maxRecDepth 1000000 in
theorem w_429 : Cond.instanceMethod yX0_listSnaps ∈ zt := zt_at 429 rfl rfl
set_option maxRecDepth 1000000 in
theorem w_430 : Cond.selects RX0 yX0_listSnaps yX0_listSnaps ∈ zt := zt_at 430 rfl rfl
set_option maxRecDepth 1000000 in
theorem qX0_listSnaps : (mX0_listSnaps.y.cls ≠ "java/lang/invoke/MethodHandle" ∧ mX0_listSnaps.y.cls ≠ "java/lang/invoke/VarHandle") ∧ (parseMethodDescriptor mX0_listSnaps.y.desc).map (fun d => d.parameters.length) = some 2 := by decide +kernel
set_option maxRecDepth 1000000 in
theorem kX8_212 : zCalV RX8 212 mX0_listSnaps 2 := ⟨⟨w_995, w_39, w_431, qX0_listSnaps.1, qX0_listSnaps.2⟩, w_429, w_430, rfl⟩
set_option maxRecDepth 1000000 in
theorem w_996 : Cond.methodLink RX8 216 yX4_length ∈ zt := zt_at 996 rfl rfl
set_option maxRecDepth 1000000 in
theorem w_307 : mX4_length.cond ∈ zt := zt_at 307 rfl rfl
set_option maxRecDepth 1000000 in
theorem w_305 : Cond.instanceMethod yX4_length ∈ zt := zt_at 305 rfl rfl
set_option maxRecDepth 1000000 in
theorem w_306 : Cond.selects RX4 yX4_length yX4_length ∈ zt := zt_at 306 rfl rfl
set_option maxRecDepth 1000000 in
theorem qX4_length : (mX4_length.y.cls ≠ "java/lang/invoke/MethodHandle" ∧ mX4_length.y.cls ≠ "java/lang/invoke/VarHandle") ∧ (parseMethodDescriptor mX4_length.y.desc).map (fun d => d.parameters.length) = some 0 := by decide +kernel
set_option maxRecDepth 1000000 in
theorem kX8_216 : zCalV RX8 216 mX4_length 0 := ⟨⟨w_996, w_40, w_307, qX4_length.1, qX4_length.2⟩, w_305, w_306, rfl⟩
set_option maxRecDepth 1000000 in
theorem w_905 : Cond.methodLink RX8 219 yX8_searchTidiest ∈ zt := zt_at 905 rfl rfl
set_option maxRecDepth 1000000 in
theorem w_908 : mX8_searchTidiest.cond ∈ zt := zt_at 908 rfl rfl
set_option maxRecDepth 1000000 in
theorem w_907 : Cond.instanceMethod yX8_searchTidiest ∈ zt := zt_at 907 rfl rfl
set_option maxRecDepth 1000000 in
theorem w_33 : Cond.selects RX8 yX8_searchTidiest yX8_searchTidiest ∈ zt := zt_at 33 rfl rfl
set_option maxRecDepth 1000000 in
theorem qX8_searchTidiest : (mX8_searchTidiest.y.cls ≠ "java/lang/invoke/MethodHandle" ∧ mX8_searchTidiest.y.cls ≠ "java/lang/invoke/VarHandle") ∧ (parseMethodDescriptor mX8_searchTidiest.y.desc).map (fun d => d.parameters.length) = some 1 := by decide +kernel
set_option maxRecDepth 1000000 in
theorem kX8_219 : zCalV RX8 219 mX8_searchTidiest 1 := ⟨⟨w_905, w_38, w_908, qX8_searchTidiest.1, qX8_searchTidiest.2⟩, w_907, w_33, rfl⟩
set_option maxRecDepth 1000000 in
theorem w_563 : Cond.methodLink RX8 223 yX6_foundStrength ∈ zt := zt_at 563 rfl rfl
set_option maxRecDepth 1000000 in
theorem w_566 : mX6_foundStrength.cond ∈ zt := zt_at 566 rfl rfl
set_option maxRecDepth 1000000 in
theorem w_564 : Cond.instanceMethod yX6_foundStrength ∈ zt := zt_at 564 rfl rfl
set_option maxRecDepth 1000000 in
theorem w_565 : Cond.selects RX6 yX6_foundStrength yX6_foundStrength ∈ zt := zt_at 565 rfl rfl
set_option maxRecDepth 1000000 in
theorem qX6_foundStrength : (mX6_foundStrength.y.cls ≠ "java/lang/invoke/MethodHandle" ∧ mX6_foundStrength.y.cls ≠ "java/lang/invoke/VarHandle") ∧ (parseMethodDescriptor mX6_foundStrength.y.desc).map (fun d => d.parameters.length) = some 0 := by decide +kernel
set_option maxRecDepth 1000000 in
theorem kX8_223 : zCalV RX8 223 mX6_foundStrength 0 := ⟨⟨w_563, w_42, w_566, qX6_foundStrength.1, qX6_foundStrength.2⟩, w_564, w_565, rfl⟩
set_option maxRecDepth 1000000 in
theorem w_336 : Cond.methodLink RX8 226 yX8_loadTidySearch ∈ zt := zt_at 336 rfl rfl
set_option maxRecDepth 1000000 in
theorem w_339 : mX8_loadTidySearch.cond ∈ zt := zt_at 339 rfl rfl
set_option maxRecDepth 1000000 in
theorem w_338 : Cond.instanceMethod yX8_loadTidySearch ∈ zt := zt_at 338 rfl rfl
set_option maxRecDepth 1000000 in
theorem w_4 : Cond.selects RX8 yX8_loadTidySearch yX8_loadTidySearch ∈ zt := zt_at 4 rfl rfl
set_option maxRecDepth 1000000 in
theorem qX8_loadTidySearch : (mX8_loadTidySearch.y.cls ≠ "java/lang/invoke/MethodHandle" ∧ mX8_loadTidySearch.y.cls ≠ "java/lang/invoke/VarHandle") ∧ (parseMethodDescriptor mX8_loadTidySearch.y.desc).map (fun d => d.parameters.length) = some 1 := by decide +kernel
set_option maxRecDepth 1000000 in
theorem kX8_226 : zCalV RX8 226 mX8_loadTidySearch 1 := ⟨⟨w_336, w_38, w_339, qX8_loadTidySearch.1, qX8_loadTidySearch.2⟩, w_338, w_4, rfl⟩
set_option maxRecDepth 1000000 in
theorem w_567 : Cond.methodLink RX8 229 yX6_greatestStrengthOfAll ∈ zt := zt_at 567 rfl rfl
set_option maxRecDepth 1000000 in
theorem w_570 : mX6_greatestStrengthOfAll.cond ∈ zt := zt_at 570 rfl rfl
set_option maxRecDepth 1000000 in
theorem w_568 : Cond.instanceMethod yX6_greatestStrengthOfAll ∈ zt := zt_at 568 rfl rfl
set_option maxRecDepth 1000000 in
theorem w_569 : Cond.selects RX6 yX6_greatestStrengthOfAll yX6_greatestStrengthOfAll ∈ zt := zt_at 569 rfl rfl
set_option maxRecDepth 1000000 in
theorem qX6_greatestStrengthOfAll : (mX6_greatestStrengthOfAll.y.cls ≠ "java/lang/invoke/MethodHandle" ∧ mX6_greatestStrengthOfAll.y.cls ≠ "java/lang/invoke/VarHandle") ∧ (parseMethodDescriptor mX6_greatestStrengthOfAll.y.desc).map (fun d => d.parameters.length) = some 0 := by decide +kernel
set_option maxRecDepth 1000000 in
theorem kX8_229 : zCalV RX8 229 mX6_greatestStrengthOfAll 0 := ⟨⟨w_567, w_42, w_570, qX6_greatestStrengthOfAll.1, qX6_greatestStrengthOfAll.2⟩, w_568, w_569, rfl⟩
set_option maxRecDepth 1000000 in
theorem w_913 : Cond.methodLink RX8 232 yX6_foundCost ∈ zt := zt_at 913 rfl rfl
set_option maxRecDepth 1000000 in
theorem w_916 : mX6_foundCost.cond ∈ zt := zt_at 916 rfl rfl
set_option maxRecDepth 1000000 in
theorem w_914 : Cond.instanceMethod yX6_foundCost ∈ zt := zt_at 914 rfl rfl
set_option maxRecDepth 1000000 in
theorem w_915 : Cond.selects RX6 yX6_foundCost yX6_foundCost ∈ zt := zt_at 915 rfl rfl
set_option maxRecDepth 1000000 in
theorem qX6_foundCost : (mX6_foundCost.y.cls ≠ "java/lang/invoke/MethodHandle" ∧ mX6_foundCost.y.cls ≠ "java/lang/invoke/VarHandle") ∧ (parseMethodDescriptor mX6_foundCost.y.desc).map (fun d => d.parameters.length) = some 0 := by decide +kernel
set_option maxRecDepth 1000000 in
theorem kX8_232 : zCalV RX8 232 mX6_foundCost 0 := ⟨⟨w_913, w_42, w_916, qX6_foundCost.1, qX6_foundCost.2⟩, w_914, w_915, rfl⟩
set_option maxRecDepth 1000000 in
theorem w_909 : Cond.methodLink RX8 235 yX6_foundStart ∈ zt := zt_at 909 rfl rfl
set_option maxRecDepth 1000000 in
theorem w_912 : mX6_foundStart.cond ∈ zt := zt_at 912 rfl rfl
set_option maxRecDepth 1000000 in
theorem w_910 : Cond.instanceMethod yX6_foundStart ∈ zt := zt_at 910 rfl rfl
set_option maxRecDepth 1000000 in
theorem w_911 : Cond.selects RX6 yX6_foundStart yX6_foundStart ∈ zt := zt_at 911 rfl rfl
set_option maxRecDepth 1000000 in
theorem qX6_foundStart : (mX6_foundStart.y.cls ≠ "java/lang/invoke/MethodHandle" ∧ mX6_foundStart.y.cls ≠ "java/lang/invoke/VarHandle") ∧ (parseMethodDescriptor mX6_foundStart.y.desc).map (fun d => d.parameters.length) = some 1 := by decide +kernel
set_option maxRecDepth 1000000 in
theorem kX8_235 : zCalV RX8 235 mX6_foundStart 1 := ⟨⟨w_909, w_42, w_912, qX6_foundStart.1, qX6_foundStart.2⟩, w_910, w_911, rfl⟩
set_option maxRecDepth 1000000 in
theorem w_580 : Cond.methodLink RX8 238 yX2_load ∈ zt := zt_at 580 rfl rfl
set_option maxRecDepth 1000000 in
theorem w_583 : mX2_load.cond ∈ zt := zt_at 583 rfl rfl
set_option maxRecDepth 1000000 in
theorem w_581 : Cond.instanceMethod yX2_load ∈ zt := zt_at 581 rfl rfl
set_option maxRecDepth 1000000 in
theorem w_582 : Cond.selects RX2 yX2_load yX2_load ∈ zt := zt_at 582 rfl rfl
set_option maxRecDepth 1000000 in
theorem qX2_load : (mX2_load.y.cls ≠ "java/lang/invoke/MethodHandle" ∧ mX2_load.y.cls ≠ "java/lang/invoke/VarHandle") ∧ (parseMethodDescriptor mX2_load.y.desc).map (fun d => d.parameters.length) = some 2 := by decide +kernel
set_option maxRecDepth 1000000 in
theorem kX8_238 : zCalV RX8 238 mX2_load 2 := ⟨⟨w_580, w_45, w_583, qX2_load.1, qX2_load.2⟩, w_581, w_582, rfl⟩
set_option maxRecDepth 1000000 in
theorem w_601 : Cond.methodLink RX8 242 yX2_searchBestStarts ∈ zt := zt_at 601 rfl rfl
set_option maxRecDepth 1000000 in
theorem w_604 : mX2_searchBestStarts.cond ∈ zt := zt_at 604 rfl rfl
set_option maxRecDepth 1000000 in
theorem w_602 : Cond.instanceMethod yX2_searchBestStarts ∈ zt := zt_at 602 rfl rfl
set_option maxRecDepth 1000000 in
theorem w_603 : Cond.selects RX2 yX2_searchBestStarts yX2_searchBestStarts ∈ zt := zt_at 603 rfl rfl
set_option maxRecDepth 1000000 in
theorem qX2_searchBestStarts : (mX2_searchBestStarts.y.cls ≠ "java/lang/invoke/MethodHandle" ∧ mX2_searchBestStarts.y.cls ≠ "java/lang/invoke/VarHandle") ∧ (parseMethodDescriptor mX2_searchBestStarts.y.desc).map (fun d => d.parameters.length) = some 0 := by decide +kernel
set_option maxRecDepth 1000000 in
theorem kX8_242 : zCalV RX8 242 mX2_searchBestStarts 0 := ⟨⟨w_601, w_45, w_604, qX2_searchBestStarts.1, qX2_searchBestStarts.2⟩, w_602, w_603, rfl⟩
set_option maxRecDepth 1000000 in
theorem w_921 : Cond.methodLink RX8 245 yX8_requireEvenLayout ∈ zt := zt_at 921 rfl rfl
set_option maxRecDepth 1000000 in
theorem w_924 : mX8_requireEvenLayout.cond ∈ zt := zt_at 924 rfl rfl
set_option maxRecDepth 1000000 in
theorem w_923 : Cond.instanceMethod yX8_requireEvenLayout ∈ zt := zt_at 923 rfl rfl
set_option maxRecDepth 1000000 in
theorem w_34 : Cond.selects RX8 yX8_requireEvenLayout yX8_requireEvenLayout ∈ zt := zt_at 34 rfl rfl
set_option maxRecDepth 1000000 in
theorem qX8_requireEvenLayout : (mX8_requireEvenLayout.y.cls ≠ "java/lang/invoke/MethodHandle" ∧ mX8_requireEvenLayout.y.cls ≠ "java/lang/invoke/VarHandle") ∧ (parseMethodDescriptor mX8_requireEvenLayout.y.desc).map (fun d => d.parameters.length) = some 0 := by decide +kernel
set_option maxRecDepth 1000000 in
theorem kX8_245 : zCalV RX8 245 mX8_requireEvenLayout 0 := ⟨⟨w_921, w_38, w_924, qX8_requireEvenLayout.1, qX8_requireEvenLayout.2⟩, w_923, w_34, rfl⟩
set_option maxRecDepth 1000000 in
theorem w_636 : Cond.methodLink RX8 248 yX2_foundCost ∈ zt := zt_at 636 rfl rfl
set_option maxRecDepth 1000000 in
theorem w_639 : mX2_foundCost.cond ∈ zt := zt_at 639 rfl rfl
set_option maxRecDepth 1000000 in
theorem w_637 : Cond.instanceMethod yX2_foundCost ∈ zt := zt_at 637 rfl rfl
set_option maxRecDepth 1000000 in
theorem w_638 : Cond.selects RX2 yX2_foundCost yX2_foundCost ∈ zt := zt_at 638 rfl rfl
set_option maxRecDepth 1000000 in
theorem qX2_foundCost : (mX2_foundCost.y.cls ≠ "java/lang/invoke/MethodHandle" ∧ mX2_foundCost.y.cls ≠ "java/lang/invoke/VarHandle") ∧ (parseMethodDescriptor mX2_foundCost.y.desc).map (fun d => d.parameters.length) = some 0 := by decide +kernel
set_option maxRecDepth 1000000 in
theorem kX8_248 : zCalV RX8 248 mX2_foundCost 0 := ⟨⟨w_636, w_45, w_639, qX2_foundCost.1, qX2_foundCost.2⟩, w_637, w_638, rfl⟩
set_option maxRecDepth 1000000 in
theorem w_640 : Cond.methodLink RX8 249 yX2_searchAll ∈ zt := zt_at 640 rfl rfl
set_option maxRecDepth 1000000 in
theorem w_643 : mX2_searchAll.cond ∈ zt := zt_at 643 rfl rfl
set_option maxRecDepth 1000000 in
theorem w_641 : Cond.instanceMethod yX2_searchAll ∈ zt := zt_at 641 rfl rfl
set_option maxRecDepth 1000000 in
theorem w_642 : Cond.selects RX2 yX2_searchAll yX2_searchAll ∈ zt := zt_at 642 rfl rfl
set_option maxRecDepth 1000000 in
theorem qX2_searchAll : (mX2_searchAll.y.cls ≠ "java/lang/invoke/MethodHandle" ∧ mX2_searchAll.y.cls ≠ "java/lang/invoke/VarHandle") ∧ (parseMethodDescriptor mX2_searchAll.y.desc).map (fun d => d.parameters.length) = some 0 := by decide +kernel
set_option maxRecDepth 1000000 in
theorem kX8_249 : zCalV RX8 249 mX2_searchAll 0 := ⟨⟨w_640, w_45, w_643, qX2_searchAll.1, qX2_searchAll.2⟩, w_641, w_642, rfl⟩
set_option maxRecDepth 1000000 in
theorem w_926 : Cond.methodLink RX8 252 yX2_shapeInPlace ∈ zt := zt_at 926 rfl rfl
set_option maxRecDepth 1000000 in
theorem w_929 : mX2_shapeInPlace.cond ∈ zt := zt_at 929 rfl rfl
set_option maxRecDepth 1000000 in
theorem w_927 : Cond.instanceMethod yX2_shapeInPlace ∈ zt := zt_at 927 rfl rfl
set_option maxRecDepth 1000000 in
theorem w_928 : Cond.selects RX2 yX2_shapeInPlace yX2_shapeInPlace ∈ zt := zt_at 928 rfl rfl
set_option maxRecDepth 1000000 in
theorem qX2_shapeInPlace : (mX2_shapeInPlace.y.cls ≠ "java/lang/invoke/MethodHandle" ∧ mX2_shapeInPlace.y.cls ≠ "java/lang/invoke/VarHandle") ∧ (parseMethodDescriptor mX2_shapeInPlace.y.desc).map (fun d => d.parameters.length) = some 1 := by decide +kernel
set_option maxRecDepth 1000000 in
theorem kX8_252 : zCalV RX8 252 mX2_shapeInPlace 1 := ⟨⟨w_926, w_45, w_929, qX2_shapeInPlace.1, qX2_shapeInPlace.2⟩, w_927, w_928, rfl⟩
set_option maxRecDepth 1000000 in
theorem w_930 : Cond.methodLink RX8 255 yX2_foundStart ∈ zt := zt_at 930 rfl rfl
set_option maxRecDepth 1000000 in
theorem w_933 : mX2_foundStart.cond ∈ zt := zt_at 933 rfl rfl
set_option maxRecDepth 1000000 in
theorem w_931 : Cond.instanceMethod yX2_foundStart ∈ zt := zt_at 931 rfl rfl
set_option maxRecDepth 1000000 in
theorem w_932 : Cond.selects RX2 yX2_foundStart yX2_foundStart ∈ zt := zt_at 932 rfl rfl
set_option maxRecDepth 1000000 in
theorem qX2_foundStart : (mX2_foundStart.y.cls ≠ "java/lang/invoke/MethodHandle" ∧ mX2_foundStart.y.cls ≠ "java/lang/invoke/VarHandle") ∧ (parseMethodDescriptor mX2_foundStart.y.desc).map (fun d => d.parameters.length) = some 1 := by decide +kernel
set_option maxRecDepth 1000000 in
theorem kX8_255 : zCalV RX8 255 mX2_foundStart 1 := ⟨⟨w_930, w_45, w_933, qX2_foundStart.1, qX2_foundStart.2⟩, w_931, w_932, rfl⟩
set_option maxRecDepth 1000000 in
theorem w_934 : Cond.methodLink RX8 256 yX2_foundGap ∈ zt := zt_at 934 rfl rfl
set_option maxRecDepth 1000000 in
theorem w_937 : mX2_foundGap.cond ∈ zt := zt_at 937 rfl rfl
set_option maxRecDepth 1000000 in
theorem w_935 : Cond.instanceMethod yX2_foundGap ∈ zt := zt_at 935 rfl rfl
set_option maxRecDepth 1000000 in
theorem w_936 : Cond.selects RX2 yX2_foundGap yX2_foundGap ∈ zt := zt_at 936 rfl rfl
set_option maxRecDepth 1000000 in
theorem qX2_foundGap : (mX2_foundGap.y.cls ≠ "java/lang/invoke/MethodHandle" ∧ mX2_foundGap.y.cls ≠ "java/lang/invoke/VarHandle") ∧ (parseMethodDescriptor mX2_foundGap.y.desc).map (fun d => d.parameters.length) = some 0 := by decide +kernel
set_option maxRecDepth 1000000 in
theorem kX8_256 : zCalV RX8 256 mX2_foundGap 0 := ⟨⟨w_934, w_45, w_937, qX2_foundGap.1, qX2_foundGap.2⟩, w_935, w_936, rfl⟩
set_option maxRecDepth 1000000 in
theorem w_1025 : Cond.methodLink RX8 259 yX0_listGuides ∈ zt := zt_at 1025 rfl rfl
set_option maxRecDepth 1000000 in
theorem w_1028 : mX0_listGuides.cond ∈ zt := zt_at 1028 rfl rfl
set_option maxRecDepth 1000000 in
theorem w_1026 : Cond.instanceMethod yX0_listGuides ∈ zt := zt_at 1026 rfl rfl
set_option maxRecDepth 1000000 in
theorem w_1027 : Cond.selects RX0 yX0_listGuides yX0_listGuides ∈ zt := zt_at 1027 rfl rfl
set_option maxRecDepth 1000000 in
theorem qX0_listGuides : (mX0_listGuides.y.cls ≠ "java/lang/invoke/MethodHandle" ∧ mX0_listGuides.y.cls ≠ "java/lang/invoke/VarHandle") ∧ (parseMethodDescriptor mX0_listGuides.y.desc).map (fun d => d.parameters.length) = some 1 := by decide +kernel
set_option maxRecDepth 1000000 in
theorem kX8_259 : zCalV RX8 259 mX0_listGuides 1 := ⟨⟨w_1025, w_39, w_1028, qX0_listGuides.1, qX0_listGuides.2⟩, w_1026, w_1027, rfl⟩
set_option maxRecDepth 1000000 in
theorem w_794 : Cond.methodLink RX8 265 yX4_get ∈ zt := zt_at 794 rfl rfl
set_option maxRecDepth 1000000 in
theorem w_315 : mX4_get.cond ∈ zt := zt_at 315 rfl rfl
set_option maxRecDepth 1000000 in
theorem w_313 : Cond.instanceMethod yX4_get ∈ zt := zt_at 313 rfl rfl
set_option maxRecDepth 1000000 in
theorem w_314 : Cond.selects RX4 yX4_get yX4_get ∈ zt := zt_at 314 rfl rfl
set_option maxRecDepth 1000000 in
theorem qX4_get : (mX4_get.y.cls ≠ "java/lang/invoke/MethodHandle" ∧ mX4_get.y.cls ≠ "java/lang/invoke/VarHandle") ∧ (parseMethodDescriptor mX4_get.y.desc).map (fun d => d.parameters.length) = some 1 := by decide +kernel
set_option maxRecDepth 1000000 in
theorem kX8_265 : zCalV RX8 265 mX4_get 1 := ⟨⟨w_794, w_40, w_315, qX4_get.1, qX4_get.2⟩, w_313, w_314, rfl⟩
set_option maxRecDepth 1000000 in
theorem w_1044 : Cond.methodLink RX8 270 yX3_unitsBetween ∈ zt := zt_at 1044 rfl rfl
set_option maxRecDepth 1000000 in
theorem w_664 : mX3_unitsBetween.cond ∈ zt := zt_at 664 rfl rfl
set_option maxRecDepth 1000000 in
theorem w_663 : Cond.static yX3_unitsBetween ∈ zt := zt_at 663 rfl rfl
set_option maxRecDepth 1000000 in
theorem qX3_unitsBetween : (mX3_unitsBetween.y.cls ≠ "java/lang/invoke/MethodHandle" ∧ mX3_unitsBetween.y.cls ≠ "java/lang/invoke/VarHandle") ∧ (parseMethodDescriptor mX3_unitsBetween.y.desc).map (fun d => d.parameters.length) = some 4 := by decide +kernel
set_option maxRecDepth 1000000 in
theorem kX8_270 : zCalS RX8 270 mX3_unitsBetween 4 := ⟨⟨w_1044, w_46, w_664, qX3_unitsBetween.1, qX3_unitsBetween.2⟩, w_663, rfl⟩
set_option maxRecDepth 1000000 in
theorem w_1049 : Cond.methodLink RX8 274 yX8_requireDistance ∈ zt := zt_at 1049 rfl rfl
set_option maxRecDepth 1000000 in
theorem w_1052 : mX8_requireDistance.cond ∈ zt := zt_at 1052 rfl rfl
set_option maxRecDepth 1000000 in
theorem w_1051 : Cond.instanceMethod yX8_requireDistance ∈ zt := zt_at 1051 rfl rfl
set_option maxRecDepth 1000000 in
theorem w_36 : Cond.selects RX8 yX8_requireDistance yX8_requireDistance ∈ zt := zt_at 36 rfl rfl
set_option maxRecDepth 1000000 in
theorem qX8_requireDistance : (mX8_requireDistance.y.cls ≠ "java/lang/invoke/MethodHandle" ∧ mX8_requireDistance.y.cls ≠ "java/lang/invoke/VarHandle") ∧ (parseMethodDescriptor mX8_requireDistance.y.desc).map (fun d => d.parameters.length) = some 1 := by decide +kernel
set_option maxRecDepth 1000000 in
theorem kX8_274 : zCalV RX8 274 mX8_requireDistance 1 := ⟨⟨w_1049, w_38, w_1052, qX8_requireDistance.1, qX8_requireDistance.2⟩, w_1051, w_36, rfl⟩
set_option maxRecDepth 1000000 in
theorem w_648 : Cond.methodLink RX8 277 yX3_countByGoing ∈ zt := zt_at 648 rfl rfl
set_option maxRecDepth 1000000 in
theorem w_651 : mX3_countByGoing.cond ∈ zt := zt_at 651 rfl rfl
set_option maxRecDepth 1000000 in
theorem w_649 : Cond.instanceMethod yX3_countByGoing ∈ zt := zt_at 649 rfl rfl
set_option maxRecDepth 1000000 in
theorem w_650 : Cond.selects RX3 yX3_countByGoing yX3_countByGoing ∈ zt := zt_at 650 rfl rfl
set_option maxRecDepth 1000000 in
theorem qX3_countByGoing : (mX3_countByGoing.y.cls ≠ "java/lang/invoke/MethodHandle" ∧ mX3_countByGoing.y.cls ≠ "java/lang/invoke/VarHandle") ∧ (parseMethodDescriptor mX3_countByGoing.y.desc).map (fun d => d.parameters.length) = some 3 := by decide +kernel
set_option maxRecDepth 1000000 in
theorem kX8_277 : zCalV RX8 277 mX3_countByGoing 3 := ⟨⟨w_648, w_46, w_651, qX3_countByGoing.1, qX3_countByGoing.2⟩, w_649, w_650, rfl⟩
set_option maxRecDepth 1000000 in
theorem w_671 : Cond.methodLink RX8 281 yX3_countByJoining ∈ zt := zt_at 671 rfl rfl
set_option maxRecDepth 1000000 in
theorem w_674 : mX3_countByJoining.cond ∈ zt := zt_at 674 rfl rfl
set_option maxRecDepth 1000000 in
theorem w_672 : Cond.instanceMethod yX3_countByJoining ∈ zt := zt_at 672 rfl rfl
set_option maxRecDepth 1000000 in
theorem w_673 : Cond.selects RX3 yX3_countByJoining yX3_countByJoining ∈ zt := zt_at 673 rfl rfl
set_option maxRecDepth 1000000 in
theorem qX3_countByJoining : (mX3_countByJoining.y.cls ≠ "java/lang/invoke/MethodHandle" ∧ mX3_countByJoining.y.cls ≠ "java/lang/invoke/VarHandle") ∧ (parseMethodDescriptor mX3_countByJoining.y.desc).map (fun d => d.parameters.length) = some 3 := by decide +kernel
set_option maxRecDepth 1000000 in
theorem kX8_281 : zCalV RX8 281 mX3_countByJoining 3 := ⟨⟨w_671, w_46, w_674, qX3_countByJoining.1, qX3_countByJoining.2⟩, w_672, w_673, rfl⟩
set_option maxRecDepth 1000000 in
theorem w_1062 : Cond.methodLink RX8 284 yX3_lowestOfGroup ∈ zt := zt_at 1062 rfl rfl
set_option maxRecDepth 1000000 in
theorem w_1065 : mX3_lowestOfGroup.cond ∈ zt := zt_at 1065 rfl rfl
set_option maxRecDepth 1000000 in
theorem w_1063 : Cond.instanceMethod yX3_lowestOfGroup ∈ zt := zt_at 1063 rfl rfl
set_option maxRecDepth 1000000 in
theorem w_1064 : Cond.selects RX3 yX3_lowestOfGroup yX3_lowestOfGroup ∈ zt := zt_at 1064 rfl rfl
set_option maxRecDepth 1000000 in
theorem qX3_lowestOfGroup : (mX3_lowestOfGroup.y.cls ≠ "java/lang/invoke/MethodHandle" ∧ mX3_lowestOfGroup.y.cls ≠ "java/lang/invoke/VarHandle") ∧ (parseMethodDescriptor mX3_lowestOfGroup.y.desc).map (fun d => d.parameters.length) = some 1 := by decide +kernel
set_option maxRecDepth 1000000 in
theorem kX8_284 : zCalV RX8 284 mX3_lowestOfGroup 1 := ⟨⟨w_1062, w_46, w_1065, qX3_lowestOfGroup.1, qX3_lowestOfGroup.2⟩, w_1063, w_1064, rfl⟩
set_option maxRecDepth 1000000 in
theorem w_292 : Cond.methodLink RX8 293 yX8_allShapesStandRight ∈ zt := zt_at 292 rfl rfl
set_option maxRecDepth 1000000 in
theorem w_295 : mX8_allShapesStandRight.cond ∈ zt := zt_at 295 rfl rfl
set_option maxRecDepth 1000000 in
theorem w_294 : Cond.instanceMethod yX8_allShapesStandRight ∈ zt := zt_at 294 rfl rfl
set_option maxRecDepth 1000000 in
theorem w_0 : Cond.selects RX8 yX8_allShapesStandRight yX8_allShapesStandRight ∈ zt := zt_at 0 rfl rfl
set_option maxRecDepth 1000000 in
theorem qX8_allShapesStandRight : (mX8_allShapesStandRight.y.cls ≠ "java/lang/invoke/MethodHandle" ∧ mX8_allShapesStandRight.y.cls ≠ "java/lang/invoke/VarHandle") ∧ (parseMethodDescriptor mX8_allShapesStandRight.y.desc).map (fun d => d.parameters.length) = some 0 := by decide +kernel
set_option maxRecDepth 1000000 in
theorem kX8_293 : zCalV RX8 293 mX8_allShapesStandRight 0 := ⟨⟨w_292, w_38, w_295, qX8_allShapesStandRight.1, qX8_allShapesStandRight.2⟩, w_294, w_0, rfl⟩
set_option maxRecDepth 1000000 in
theorem w_332 : Cond.methodLink RX8 297 yX8_bothWaysAgreeAlong ∈ zt := zt_at 332 rfl rfl
set_option maxRecDepth 1000000 in
theorem w_335 : mX8_bothWaysAgreeAlong.cond ∈ zt := zt_at 335 rfl rfl
set_option maxRecDepth 1000000 in
theorem w_334 : Cond.instanceMethod yX8_bothWaysAgreeAlong ∈ zt := zt_at 334 rfl rfl
set_option maxRecDepth 1000000 in
theorem w_3 : Cond.selects RX8 yX8_bothWaysAgreeAlong yX8_bothWaysAgreeAlong ∈ zt := zt_at 3 rfl rfl
set_option maxRecDepth 1000000 in
theorem qX8_bothWaysAgreeAlong : (mX8_bothWaysAgreeAlong.y.cls ≠ "java/lang/invoke/MethodHandle" ∧ mX8_bothWaysAgreeAlong.y.cls ≠ "java/lang/invoke/VarHandle") ∧ (parseMethodDescriptor mX8_bothWaysAgreeAlong.y.desc).map (fun d => d.parameters.length) = some 1 := by decide +kernel
set_option maxRecDepth 1000000 in
theorem kX8_297 : zCalV RX8 297 mX8_bothWaysAgreeAlong 1 := ⟨⟨w_332, w_38, w_335, qX8_bothWaysAgreeAlong.1, qX8_bothWaysAgreeAlong.2⟩, w_334, w_3, rfl⟩
set_option maxRecDepth 1000000 in
theorem w_644 : Cond.methodLink RX8 301 yX8_groupCountsAgree ∈ zt := zt_at 644 rfl rfl
set_option maxRecDepth 1000000 in
theorem w_647 : mX8_groupCountsAgree.cond ∈ zt := zt_at 647 rfl rfl
set_option maxRecDepth 1000000 in
theorem w_646 : Cond.instanceMethod yX8_groupCountsAgree ∈ zt := zt_at 646 rfl rfl
set_option maxRecDepth 1000000 in
theorem w_21 : Cond.selects RX8 yX8_groupCountsAgree yX8_groupCountsAgree ∈ zt := zt_at 21 rfl rfl
set_option maxRecDepth 1000000 in
theorem qX8_groupCountsAgree : (mX8_groupCountsAgree.y.cls ≠ "java/lang/invoke/MethodHandle" ∧ mX8_groupCountsAgree.y.cls ≠ "java/lang/invoke/VarHandle") ∧ (parseMethodDescriptor mX8_groupCountsAgree.y.desc).map (fun d => d.parameters.length) = some 1 := by decide +kernel
set_option maxRecDepth 1000000 in
theorem kX8_301 : zCalV RX8 301 mX8_groupCountsAgree 1 := ⟨⟨w_644, w_38, w_647, qX8_groupCountsAgree.1, qX8_groupCountsAgree.2⟩, w_646, w_21, rfl⟩
set_option maxRecDepth 1000000 in
theorem w_300 : Cond.methodLink RX8 304 yX0_count ∈ zt := zt_at 300 rfl rfl
set_option maxRecDepth 1000000 in
theorem w_303 : mX0_count.cond ∈ zt := zt_at 303 rfl rfl
set_option maxRecDepth 1000000 in
theorem w_301 : Cond.instanceMethod yX0_count ∈ zt := zt_at 301 rfl rfl
set_option maxRecDepth 1000000 in
theorem w_302 : Cond.selects RX0 yX0_count yX0_count ∈ zt := zt_at 302 rfl rfl
set_option maxRecDepth 1000000 in
theorem qX0_count : (mX0_count.y.cls ≠ "java/lang/invoke/MethodHandle" ∧ mX0_count.y.cls ≠ "java/lang/invoke/VarHandle") ∧ (parseMethodDescriptor mX0_count.y.desc).map (fun d => d.parameters.length) = some 0 := by decide +kernel
set_option maxRecDepth 1000000 in
theorem kX8_304 : zCalV RX8 304 mX0_count 0 := ⟨⟨w_300, w_39, w_303, qX0_count.1, qX0_count.2⟩, w_301, w_302, rfl⟩
set_option maxRecDepth 1000000 in
theorem w_328 : Cond.methodLink RX8 318 yX0_meets ∈ zt := zt_at 328 rfl rfl
set_option maxRecDepth 1000000 in
theorem w_331 : mX0_meets.cond ∈ zt := zt_at 331 rfl rfl
set_option maxRecDepth 1000000 in
theorem w_329 : Cond.instanceMethod yX0_meets ∈ zt := zt_at 329 rfl rfl
set_option maxRecDepth 1000000 in
theorem w_330 : Cond.selects RX0 yX0_meets yX0_meets ∈ zt := zt_at 330 rfl rfl
set_option maxRecDepth 1000000 in
theorem qX0_meets : (mX0_meets.y.cls ≠ "java/lang/invoke/MethodHandle" ∧ mX0_meets.y.cls ≠ "java/lang/invoke/VarHandle") ∧ (parseMethodDescriptor mX0_meets.y.desc).map (fun d => d.parameters.length) = some 3 := by decide +kernel
set_option maxRecDepth 1000000 in
theorem kX8_318 : zCalV RX8 318 mX0_meets 3 := ⟨⟨w_328, w_39, w_331, qX0_meets.1, qX0_meets.2⟩, w_329, w_330, rfl⟩
set_option maxRecDepth 1000000 in
theorem w_415 : Cond.methodLink RX8 322 yX6_load ∈ zt := zt_at 415 rfl rfl
set_option maxRecDepth 1000000 in
theorem w_418 : mX6_load.cond ∈ zt := zt_at 418 rfl rfl
set_option maxRecDepth 1000000 in
theorem w_416 : Cond.instanceMethod yX6_load ∈ zt := zt_at 416 rfl rfl
set_option maxRecDepth 1000000 in
theorem w_417 : Cond.selects RX6 yX6_load yX6_load ∈ zt := zt_at 417 rfl rfl
set_option maxRecDepth 1000000 in
theorem qX6_load : (mX6_load.y.cls ≠ "java/lang/invoke/MethodHandle" ∧ mX6_load.y.cls ≠ "java/lang/invoke/VarHandle") ∧ (parseMethodDescriptor mX6_load.y.desc).map (fun d => d.parameters.length) = some 3 := by decide +kernel
set_option maxRecDepth 1000000 in
theorem kX8_322 : zCalV RX8 322 mX6_load 3 := ⟨⟨w_415, w_42, w_418, qX6_load.1, qX6_load.2⟩, w_416, w_417, rfl⟩
set_option maxRecDepth 1000000 in
theorem w_468 : Cond.methodLink RX8 325 yX6_loadWishes ∈ zt := zt_at 468 rfl rfl
set_option maxRecDepth 1000000 in
theorem w_471 : mX6_loadWishes.cond ∈ zt := zt_at 471 rfl rfl
set_option maxRecDepth 1000000 in
theorem w_469 : Cond.instanceMethod yX6_loadWishes ∈ zt := zt_at 469 rfl rfl
set_option maxRecDepth 1000000 in
theorem w_470 : Cond.selects RX6 yX6_loadWishes yX6_loadWishes ∈ zt := zt_at 470 rfl rfl
set_option maxRecDepth 1000000 in
theorem qX6_loadWishes : (mX6_loadWishes.y.cls ≠ "java/lang/invoke/MethodHandle" ∧ mX6_loadWishes.y.cls ≠ "java/lang/invoke/VarHandle") ∧ (parseMethodDescriptor mX6_loadWishes.y.desc).map (fun d => d.parameters.length) = some 2 := by decide +kernel
set_option maxRecDepth 1000000 in
theorem kX8_325 : zCalV RX8 325 mX6_loadWishes 2 := ⟨⟨w_468, w_42, w_471, qX6_loadWishes.1, qX6_loadWishes.2⟩, w_469, w_470, rfl⟩
set_option maxRecDepth 1000000 in
theorem w_515 : Cond.methodLink RX8 329 yX6_searchTidiest ∈ zt := zt_at 515 rfl rfl
set_option maxRecDepth 1000000 in
theorem w_518 : mX6_searchTidiest.cond ∈ zt := zt_at 518 rfl rfl
set_option maxRecDepth 1000000 in
theorem w_516 : Cond.instanceMethod yX6_searchTidiest ∈ zt := zt_at 516 rfl rfl
set_option maxRecDepth 1000000 in
theorem w_517 : Cond.selects RX6 yX6_searchTidiest yX6_searchTidiest ∈ zt := zt_at 517 rfl rfl
set_option maxRecDepth 1000000 in
theorem qX6_searchTidiest : (mX6_searchTidiest.y.cls ≠ "java/lang/invoke/MethodHandle" ∧ mX6_searchTidiest.y.cls ≠ "java/lang/invoke/VarHandle") ∧ (parseMethodDescriptor mX6_searchTidiest.y.desc).map (fun d => d.parameters.length) = some 0 := by decide +kernel
set_option maxRecDepth 1000000 in
theorem kX8_329 : zCalV RX8 329 mX6_searchTidiest 0 := ⟨⟨w_515, w_42, w_518, qX6_searchTidiest.1, qX6_searchTidiest.2⟩, w_516, w_517, rfl⟩
set_option maxRecDepth 1000000 in
theorem w_74 : Cond.methodLink RX0 11 yX4_init ∈ zt := zt_at 74 rfl rfl
set_option maxRecDepth 1000000 in
theorem kX0_11 : zCalI RX0 11 mX4_init 1 := ⟨⟨w_74, w_40, w_76, qX4_init.1, qX4_init.2⟩, w_75, rfl, rfl⟩
set_option maxRecDepth 1000000 in
theorem w_304 : Cond.methodLink RX0 27 yX4_length ∈ zt := zt_at 304 rfl rfl
set_option maxRecDepth 1000000 in
theorem kX0_27 : zCalV RX0 27 mX4_length 0 := ⟨⟨w_304, w_40, w_307, qX4_length.1, qX4_length.2⟩, w_305, w_306, rfl⟩
set_option maxRecDepth 1000000 in
theorem w_767 : Cond.methodLink RX0 31 yX4_append ∈ zt := zt_at 767 rfl rfl
set_option maxRecDepth 1000000 in
theorem kX0_31 : zCalV RX0 31 mX4_append 1 := ⟨⟨w_767, w_40, w_453, qX4_append.1, qX4_append.2⟩, w_451, w_452, rfl⟩
set_option maxRecDepth 1000000 in
theorem w_312 : Cond.methodLink RX0 34 yX4_get ∈ zt := zt_at 312 rfl rfl
set_option maxRecDepth 1000000 in
theorem kX0_34 : zCalV RX0 34 mX4_get 1 := ⟨⟨w_312, w_40, w_315, qX4_get.1, qX4_get.2⟩, w_313, w_314, rfl⟩
set_option maxRecDepth 1000000 in
theorem w_815 : Cond.methodLink RX0 38 yX4_set ∈ zt := zt_at 815 rfl rfl
set_option maxRecDepth 1000000 in
theorem kX0_38 : zCalV RX0 38 mX4_set 2 := ⟨⟨w_815, w_40, w_449, qX4_set.1, qX4_set.2⟩, w_447, w_448, rfl⟩
set_option maxRecDepth 1000000 in
theorem w_432 : Cond.methodLink RX0 48 yX4_clear ∈ zt := zt_at 432 rfl rfl
set_option maxRecDepth 1000000 in
theorem w_426 : mX4_clear.cond ∈ zt := zt_at 426 rfl rfl
set_option maxRecDepth 1000000 in
theorem w_424 : Cond.instanceMethod yX4_clear ∈ zt := zt_at 424 rfl rfl
set_option maxRecDepth 1000000 in
theorem w_425 : Cond.selects RX4 yX4_clear yX4_clear ∈ zt := zt_at 425 rfl rfl
set_option maxRecDepth 1000000 in
theorem qX4_clear : (mX4_clear.y.cls ≠ "java/lang/invoke/MethodHandle" ∧ mX4_clear.y.cls ≠ "java/lang/invoke/VarHandle") ∧ (parseMethodDescriptor mX4_clear.y.desc).map (fun d => d.parameters.length) = some 0 := by decide +kernel
set_option maxRecDepth 1000000 in
theorem kX0_48 : zCalV RX0 48 mX4_clear 0 := ⟨⟨w_432, w_40, w_426, qX4_clear.1, qX4_clear.2⟩, w_424, w_425, rfl⟩
set_option maxRecDepth 1000000 in
theorem w_433 : Cond.methodLink RX0 51 yX4_insert ∈ zt := zt_at 433 rfl rfl
set_option maxRecDepth 1000000 in
theorem w_436 : mX4_insert.cond ∈ zt := zt_at 436 rfl rfl
set_option maxRecDepth 1000000 in
theorem w_434 : Cond.instanceMethod yX4_insert ∈ zt := zt_at 434 rfl rfl
set_option maxRecDepth 1000000 in
theorem w_435 : Cond.selects RX4 yX4_insert yX4_insert ∈ zt := zt_at 435 rfl rfl
set_option maxRecDepth 1000000 in
theorem qX4_insert : (mX4_insert.y.cls ≠ "java/lang/invoke/MethodHandle" ∧ mX4_insert.y.cls ≠ "java/lang/invoke/VarHandle") ∧ (parseMethodDescriptor mX4_insert.y.desc).map (fun d => d.parameters.length) = some 1 := by decide +kernel
set_option maxRecDepth 1000000 in
theorem kX0_51 : zCalV RX0 51 mX4_insert 1 := ⟨⟨w_433, w_40, w_436, qX4_insert.1, qX4_insert.2⟩, w_434, w_435, rfl⟩
set_option maxRecDepth 1000000 in
theorem w_437 : Cond.methodLink RX0 54 yX4_contains ∈ zt := zt_at 437 rfl rfl
set_option maxRecDepth 1000000 in
theorem w_440 : mX4_contains.cond ∈ zt := zt_at 440 rfl rfl
set_option maxRecDepth 1000000 in
theorem w_438 : Cond.instanceMethod yX4_contains ∈ zt := zt_at 438 rfl rfl
set_option maxRecDepth 1000000 in
theorem w_439 : Cond.selects RX4 yX4_contains yX4_contains ∈ zt := zt_at 439 rfl rfl
set_option maxRecDepth 1000000 in
theorem qX4_contains : (mX4_contains.y.cls ≠ "java/lang/invoke/MethodHandle" ∧ mX4_contains.y.cls ≠ "java/lang/invoke/VarHandle") ∧ (parseMethodDescriptor mX4_contains.y.desc).map (fun d => d.parameters.length) = some 1 := by decide +kernel
set_option maxRecDepth 1000000 in
theorem kX0_54 : zCalV RX0 54 mX4_contains 1 := ⟨⟨w_437, w_40, w_440, qX4_contains.1, qX4_contains.2⟩, w_438, w_439, rfl⟩
set_option maxRecDepth 1000000 in
theorem w_1029 : Cond.methodLink RX0 58 yX0_twiceEdge ∈ zt := zt_at 1029 rfl rfl
set_option maxRecDepth 1000000 in
theorem w_984 : mX0_twiceEdge.cond ∈ zt := zt_at 984 rfl rfl
set_option maxRecDepth 1000000 in
theorem w_982 : Cond.instanceMethod yX0_twiceEdge ∈ zt := zt_at 982 rfl rfl
set_option maxRecDepth 1000000 in
theorem w_983 : Cond.selects RX0 yX0_twiceEdge yX0_twiceEdge ∈ zt := zt_at 983 rfl rfl
set_option maxRecDepth 1000000 in
theorem qX0_twiceEdge : (mX0_twiceEdge.y.cls ≠ "java/lang/invoke/MethodHandle" ∧ mX0_twiceEdge.y.cls ≠ "java/lang/invoke/VarHandle") ∧ (parseMethodDescriptor mX0_twiceEdge.y.desc).map (fun d => d.parameters.length) = some 2 := by decide +kernel
set_option maxRecDepth 1000000 in
theorem kX0_58 : zCalV RX0 58 mX0_twiceEdge 2 := ⟨⟨w_1029, w_39, w_984, qX0_twiceEdge.1, qX0_twiceEdge.2⟩, w_982, w_983, rfl⟩
set_option maxRecDepth 1000000 in
theorem w_1030 : Cond.methodLink RX0 61 yX0_isEdgeOfLower ∈ zt := zt_at 1030 rfl rfl
set_option maxRecDepth 1000000 in
theorem w_1033 : mX0_isEdgeOfLower.cond ∈ zt := zt_at 1033 rfl rfl
set_option maxRecDepth 1000000 in
theorem w_1032 : Cond.instanceMethod yX0_isEdgeOfLower ∈ zt := zt_at 1032 rfl rfl
set_option maxRecDepth 1000000 in
theorem w_35 : Cond.selects RX0 yX0_isEdgeOfLower yX0_isEdgeOfLower ∈ zt := zt_at 35 rfl rfl
set_option maxRecDepth 1000000 in
theorem qX0_isEdgeOfLower : (mX0_isEdgeOfLower.y.cls ≠ "java/lang/invoke/MethodHandle" ∧ mX0_isEdgeOfLower.y.cls ≠ "java/lang/invoke/VarHandle") ∧ (parseMethodDescriptor mX0_isEdgeOfLower.y.desc).map (fun d => d.parameters.length) = some 2 := by decide +kernel
set_option maxRecDepth 1000000 in
theorem kX0_61 : zCalV RX0 61 mX0_isEdgeOfLower 2 := ⟨⟨w_1030, w_39, w_1033, qX0_isEdgeOfLower.1, qX0_isEdgeOfLower.2⟩, w_1032, w_35, rfl⟩
set_option maxRecDepth 1000000 in
theorem w_135 : Cond.methodLink RX1 11 yX4_init ∈ zt := zt_at 135 rfl rfl
set_option maxRecDepth 1000000 in
theorem kX1_11 : zCalI RX1 11 mX4_init 1 := ⟨⟨w_135, w_40, w_76, qX4_init.1, qX4_init.2⟩, w_75, rfl, rfl⟩
set_option maxRecDepth 1000000 in
theorem w_423 : Cond.methodLink RX1 26 yX4_clear ∈ zt := zt_at 423 rfl rfl
set_option maxRecDepth 1000000 in
theorem kX1_26 : zCalV RX1 26 mX4_clear 0 := ⟨⟨w_423, w_40, w_426, qX4_clear.1, qX4_clear.2⟩, w_424, w_425, rfl⟩
set_option maxRecDepth 1000000 in
theorem w_427 : Cond.methodLink RX1 29 yX0_count ∈ zt := zt_at 427 rfl rfl
set_option maxRecDepth 1000000 in
theorem kX1_29 : zCalV RX1 29 mX0_count 0 := ⟨⟨w_427, w_39, w_303, qX0_count.1, qX0_count.2⟩, w_301, w_302, rfl⟩
set_option maxRecDepth 1000000 in
theorem w_428 : Cond.methodLink RX1 35 yX0_listSnaps ∈ zt := zt_at 428 rfl rfl
set_option maxRecDepth 1000000 in
theorem kX1_35 : zCalV RX1 35 mX0_listSnaps 2 := ⟨⟨w_428, w_39, w_431, qX0_listSnaps.1, qX0_listSnaps.2⟩, w_429, w_430, rfl⟩
set_option maxRecDepth 1000000 in
theorem w_441 : Cond.methodLink RX1 39 yX4_length ∈ zt := zt_at 441 rfl rfl
set_option maxRecDepth 1000000 in
theorem kX1_39 : zCalV RX1 39 mX4_length 0 := ⟨⟨w_441, w_40, w_307, qX4_length.1, qX4_length.2⟩, w_305, w_306, rfl⟩
set_option maxRecDepth 1000000 in
theorem w_442 : Cond.methodLink RX1 42 yX4_get ∈ zt := zt_at 442 rfl rfl
set_option maxRecDepth 1000000 in
theorem kX1_42 : zCalV RX1 42 mX4_get 1 := ⟨⟨w_442, w_40, w_315, qX4_get.1, qX4_get.2⟩, w_313, w_314, rfl⟩
set_option maxRecDepth 1000000 in
theorem w_443 : Cond.methodLink RX1 46 yX0_startAt ∈ zt := zt_at 443 rfl rfl
set_option maxRecDepth 1000000 in
theorem kX1_46 : zCalV RX1 46 mX0_startAt 1 := ⟨⟨w_443, w_39, w_311, qX0_startAt.1, qX0_startAt.2⟩, w_309, w_310, rfl⟩
set_option maxRecDepth 1000000 in
theorem w_444 : Cond.methodLink RX1 49 yX0_sizeAt ∈ zt := zt_at 444 rfl rfl
set_option maxRecDepth 1000000 in
theorem kX1_49 : zCalV RX1 49 mX0_sizeAt 1 := ⟨⟨w_444, w_39, w_319, qX0_sizeAt.1, qX0_sizeAt.2⟩, w_317, w_318, rfl⟩
set_option maxRecDepth 1000000 in
theorem w_445 : Cond.methodLink RX1 52 yX0_holds ∈ zt := zt_at 445 rfl rfl
set_option maxRecDepth 1000000 in
theorem kX1_52 : zCalV RX1 52 mX0_holds 2 := ⟨⟨w_445, w_39, w_323, qX0_holds.1, qX0_holds.2⟩, w_321, w_322, rfl⟩
set_option maxRecDepth 1000000 in
theorem w_446 : Cond.methodLink RX1 56 yX4_set ∈ zt := zt_at 446 rfl rfl
set_option maxRecDepth 1000000 in
theorem kX1_56 : zCalV RX1 56 mX4_set 2 := ⟨⟨w_446, w_40, w_449, qX4_set.1, qX4_set.2⟩, w_447, w_448, rfl⟩
set_option maxRecDepth 1000000 in
theorem w_450 : Cond.methodLink RX1 60 yX4_append ∈ zt := zt_at 450 rfl rfl
set_option maxRecDepth 1000000 in
theorem kX1_60 : zCalV RX1 60 mX4_append 1 := ⟨⟨w_450, w_40, w_453, qX4_append.1, qX4_append.2⟩, w_451, w_452, rfl⟩
set_option maxRecDepth 1000000 in
theorem w_210 : Cond.methodLink RX2 11 yX4_init ∈ zt := zt_at 210 rfl rfl
set_option maxRecDepth 1000000 in
theorem kX2_11 : zCalI RX2 11 mX4_init 1 := ⟨⟨w_210, w_40, w_76, qX4_init.1, qX4_init.2⟩, w_75, rfl, rfl⟩
set_option maxRecDepth 1000000 in
theorem w_584 : Cond.methodLink RX2 32 yX2_listOrder ∈ zt := zt_at 584 rfl rfl
set_option maxRecDepth 1000000 in
theorem w_587 : mX2_listOrder.cond ∈ zt := zt_at 587 rfl rfl
set_option maxRecDepth 1000000 in
theorem w_586 : Cond.instanceMethod yX2_listOrder ∈ zt := zt_at 586 rfl rfl
set_option maxRecDepth 1000000 in
theorem w_13 : Cond.selects RX2 yX2_listOrder yX2_listOrder ∈ zt := zt_at 13 rfl rfl
set_option maxRecDepth 1000000 in
theorem qX2_listOrder : (mX2_listOrder.y.cls ≠ "java/lang/invoke/MethodHandle" ∧ mX2_listOrder.y.cls ≠ "java/lang/invoke/VarHandle") ∧ (parseMethodDescriptor mX2_listOrder.y.desc).map (fun d => d.parameters.length) = some 1 := by decide +kernel
set_option maxRecDepth 1000000 in
theorem kX2_32 : zCalV RX2 32 mX2_listOrder 1 := ⟨⟨w_584, w_45, w_587, qX2_listOrder.1, qX2_listOrder.2⟩, w_586, w_13, rfl⟩
set_option maxRecDepth 1000000 in
theorem w_588 : Cond.methodLink RX2 36 yX4_clear ∈ zt := zt_at 588 rfl rfl
set_option maxRecDepth 1000000 in
theorem kX2_36 : zCalV RX2 36 mX4_clear 0 := ⟨⟨w_588, w_40, w_426, qX4_clear.1, qX4_clear.2⟩, w_424, w_425, rfl⟩
set_option maxRecDepth 1000000 in
theorem w_592 : Cond.methodLink RX2 39 yX4_length ∈ zt := zt_at 592 rfl rfl
set_option maxRecDepth 1000000 in
theorem kX2_39 : zCalV RX2 39 mX4_length 0 := ⟨⟨w_592, w_40, w_307, qX4_length.1, qX4_length.2⟩, w_305, w_306, rfl⟩
set_option maxRecDepth 1000000 in
theorem w_593 : Cond.methodLink RX2 43 yX4_get ∈ zt := zt_at 593 rfl rfl
set_option maxRecDepth 1000000 in
theorem kX2_43 : zCalV RX2 43 mX4_get 1 := ⟨⟨w_593, w_40, w_315, qX4_get.1, qX4_get.2⟩, w_313, w_314, rfl⟩
set_option maxRecDepth 1000000 in
theorem w_590 : Cond.methodLink RX2 47 yX0_startAt ∈ zt := zt_at 590 rfl rfl
set_option maxRecDepth 1000000 in
theorem kX2_47 : zCalV RX2 47 mX0_startAt 1 := ⟨⟨w_590, w_39, w_311, qX0_startAt.1, qX0_startAt.2⟩, w_309, w_310, rfl⟩
set_option maxRecDepth 1000000 in
theorem w_595 : Cond.methodLink RX2 52 yX4_append ∈ zt := zt_at 595 rfl rfl
set_option maxRecDepth 1000000 in
theorem kX2_52 : zCalV RX2 52 mX4_append 1 := ⟨⟨w_595, w_40, w_453, qX4_append.1, qX4_append.2⟩, w_451, w_452, rfl⟩
set_option maxRecDepth 1000000 in
theorem w_596 : Cond.methodLink RX2 55 yX0_sizeAt ∈ zt := zt_at 596 rfl rfl
set_option maxRecDepth 1000000 in
theorem kX2_55 : zCalV RX2 55 mX0_sizeAt 1 := ⟨⟨w_596, w_39, w_319, qX0_sizeAt.1, qX0_sizeAt.2⟩, w_317, w_318, rfl⟩
set_option maxRecDepth 1000000 in
theorem w_597 : Cond.methodLink RX2 58 yX0_limit ∈ zt := zt_at 597 rfl rfl
set_option maxRecDepth 1000000 in
theorem w_600 : mX0_limit.cond ∈ zt := zt_at 600 rfl rfl
set_option maxRecDepth 1000000 in
theorem w_598 : Cond.instanceMethod yX0_limit ∈ zt := zt_at 598 rfl rfl
set_option maxRecDepth 1000000 in
theorem w_599 : Cond.selects RX0 yX0_limit yX0_limit ∈ zt := zt_at 599 rfl rfl
set_option maxRecDepth 1000000 in
theorem qX0_limit : (mX0_limit.y.cls ≠ "java/lang/invoke/MethodHandle" ∧ mX0_limit.y.cls ≠ "java/lang/invoke/VarHandle") ∧ (parseMethodDescriptor mX0_limit.y.desc).map (fun d => d.parameters.length) = some 0 := by decide +kernel
set_option maxRecDepth 1000000 in
theorem kX2_58 : zCalV RX2 58 mX0_limit 0 := ⟨⟨w_597, w_39, w_600, qX0_limit.1, qX0_limit.2⟩, w_598, w_599, rfl⟩
set_option maxRecDepth 1000000 in
theorem w_589 : Cond.methodLink RX2 65 yX0_count ∈ zt := zt_at 589 rfl rfl
set_option maxRecDepth 1000000 in
theorem kX2_65 : zCalV RX2 65 mX0_count 0 := ⟨⟨w_589, w_39, w_303, qX0_count.1, qX0_count.2⟩, w_301, w_302, rfl⟩
set_option maxRecDepth 1000000 in
theorem w_591 : Cond.methodLink RX2 68 yX4_insert ∈ zt := zt_at 591 rfl rfl
set_option maxRecDepth 1000000 in
theorem kX2_68 : zCalV RX2 68 mX4_insert 1 := ⟨⟨w_591, w_40, w_436, qX4_insert.1, qX4_insert.2⟩, w_434, w_435, rfl⟩
set_option maxRecDepth 1000000 in
theorem w_594 : Cond.methodLink RX2 71 yX4_set ∈ zt := zt_at 594 rfl rfl
set_option maxRecDepth 1000000 in
theorem kX2_71 : zCalV RX2 71 mX4_set 2 := ⟨⟨w_594, w_40, w_449, qX4_set.1, qX4_set.2⟩, w_447, w_448, rfl⟩
set_option maxRecDepth 1000000 in
theorem w_617 : Cond.methodLink RX2 84 yX2_startInPlace ∈ zt := zt_at 617 rfl rfl
set_option maxRecDepth 1000000 in
theorem w_620 : mX2_startInPlace.cond ∈ zt := zt_at 620 rfl rfl
set_option maxRecDepth 1000000 in
theorem w_619 : Cond.instanceMethod yX2_startInPlace ∈ zt := zt_at 619 rfl rfl
set_option maxRecDepth 1000000 in
theorem w_17 : Cond.selects RX2 yX2_startInPlace yX2_startInPlace ∈ zt := zt_at 17 rfl rfl
set_option maxRecDepth 1000000 in
theorem qX2_startInPlace : (mX2_startInPlace.y.cls ≠ "java/lang/invoke/MethodHandle" ∧ mX2_startInPlace.y.cls ≠ "java/lang/invoke/VarHandle") ∧ (parseMethodDescriptor mX2_startInPlace.y.desc).map (fun d => d.parameters.length) = some 3 := by decide +kernel
set_option maxRecDepth 1000000 in
theorem kX2_84 : zCalV RX2 84 mX2_startInPlace 3 := ⟨⟨w_617, w_45, w_620, qX2_startInPlace.1, qX2_startInPlace.2⟩, w_619, w_17, rfl⟩
set_option maxRecDepth 1000000 in
theorem w_605 : Cond.methodLink RX2 88 yX2_bestStart ∈ zt := zt_at 605 rfl rfl
set_option maxRecDepth 1000000 in
theorem w_608 : mX2_bestStart.cond ∈ zt := zt_at 608 rfl rfl
set_option maxRecDepth 1000000 in
theorem w_607 : Cond.instanceMethod yX2_bestStart ∈ zt := zt_at 607 rfl rfl
set_option maxRecDepth 1000000 in
theorem w_14 : Cond.selects RX2 yX2_bestStart yX2_bestStart ∈ zt := zt_at 14 rfl rfl
set_option maxRecDepth 1000000 in
theorem qX2_bestStart : (mX2_bestStart.y.cls ≠ "java/lang/invoke/MethodHandle" ∧ mX2_bestStart.y.cls ≠ "java/lang/invoke/VarHandle") ∧ (parseMethodDescriptor mX2_bestStart.y.desc).map (fun d => d.parameters.length) = some 1 := by decide +kernel
set_option maxRecDepth 1000000 in
theorem kX2_88 : zCalV RX2 88 mX2_bestStart 1 := ⟨⟨w_605, w_45, w_608, qX2_bestStart.1, qX2_bestStart.2⟩, w_607, w_14, rfl⟩
set_option maxRecDepth 1000000 in
theorem w_627 : Cond.methodLink RX2 91 yX2_compare ∈ zt := zt_at 627 rfl rfl
set_option maxRecDepth 1000000 in
theorem w_630 : mX2_compare.cond ∈ zt := zt_at 630 rfl rfl
set_option maxRecDepth 1000000 in
theorem w_629 : Cond.instanceMethod yX2_compare ∈ zt := zt_at 629 rfl rfl
set_option maxRecDepth 1000000 in
theorem w_19 : Cond.selects RX2 yX2_compare yX2_compare ∈ zt := zt_at 19 rfl rfl
set_option maxRecDepth 1000000 in
theorem qX2_compare : (mX2_compare.y.cls ≠ "java/lang/invoke/MethodHandle" ∧ mX2_compare.y.cls ≠ "java/lang/invoke/VarHandle") ∧ (parseMethodDescriptor mX2_compare.y.desc).map (fun d => d.parameters.length) = some 2 := by decide +kernel
set_option maxRecDepth 1000000 in
theorem kX2_91 : zCalV RX2 91 mX2_compare 2 := ⟨⟨w_627, w_45, w_630, qX2_compare.1, qX2_compare.2⟩, w_629, w_19, rfl⟩
set_option maxRecDepth 1000000 in
theorem w_609 : Cond.methodLink RX2 94 yX2_lastStart ∈ zt := zt_at 609 rfl rfl
set_option maxRecDepth 1000000 in
theorem w_612 : mX2_lastStart.cond ∈ zt := zt_at 612 rfl rfl
set_option maxRecDepth 1000000 in
theorem w_611 : Cond.instanceMethod yX2_lastStart ∈ zt := zt_at 611 rfl rfl
set_option maxRecDepth 1000000 in
theorem w_15 : Cond.selects RX2 yX2_lastStart yX2_lastStart ∈ zt := zt_at 15 rfl rfl
set_option maxRecDepth 1000000 in
theorem qX2_lastStart : (mX2_lastStart.y.cls ≠ "java/lang/invoke/MethodHandle" ∧ mX2_lastStart.y.cls ≠ "java/lang/invoke/VarHandle") ∧ (parseMethodDescriptor mX2_lastStart.y.desc).map (fun d => d.parameters.length) = some 1 := by decide +kernel
set_option maxRecDepth 1000000 in
theorem kX2_94 : zCalV RX2 94 mX2_lastStart 1 := ⟨⟨w_609, w_45, w_612, qX2_lastStart.1, qX2_lastStart.2⟩, w_611, w_15, rfl⟩
set_option maxRecDepth 1000000 in
theorem w_623 : Cond.methodLink RX2 97 yX2_keepsLocks ∈ zt := zt_at 623 rfl rfl
set_option maxRecDepth 1000000 in
theorem w_626 : mX2_keepsLocks.cond ∈ zt := zt_at 626 rfl rfl
set_option maxRecDepth 1000000 in
theorem w_625 : Cond.instanceMethod yX2_keepsLocks ∈ zt := zt_at 625 rfl rfl
set_option maxRecDepth 1000000 in
theorem w_18 : Cond.selects RX2 yX2_keepsLocks yX2_keepsLocks ∈ zt := zt_at 18 rfl rfl
set_option maxRecDepth 1000000 in
theorem qX2_keepsLocks : (mX2_keepsLocks.y.cls ≠ "java/lang/invoke/MethodHandle" ∧ mX2_keepsLocks.y.cls ≠ "java/lang/invoke/VarHandle") ∧ (parseMethodDescriptor mX2_keepsLocks.y.desc).map (fun d => d.parameters.length) = some 2 := by decide +kernel
set_option maxRecDepth 1000000 in
theorem kX2_97 : zCalV RX2 97 mX2_keepsLocks 2 := ⟨⟨w_623, w_45, w_626, qX2_keepsLocks.1, qX2_keepsLocks.2⟩, w_625, w_18, rfl⟩
set_option maxRecDepth 1000000 in
theorem w_631 : Cond.methodLink RX2 101 yX2_costOf ∈ zt := zt_at 631 rfl rfl
set_option maxRecDepth 1000000 in
theorem w_634 : mX2_costOf.cond ∈ zt := zt_at 634 rfl rfl
set_option maxRecDepth 1000000 in
theorem w_633 : Cond.instanceMethod yX2_costOf ∈ zt := zt_at 633 rfl rfl
set_option maxRecDepth 1000000 in
theorem w_20 : Cond.selects RX2 yX2_costOf yX2_costOf ∈ zt := zt_at 20 rfl rfl
set_option maxRecDepth 1000000 in
theorem qX2_costOf : (mX2_costOf.y.cls ≠ "java/lang/invoke/MethodHandle" ∧ mX2_costOf.y.cls ≠ "java/lang/invoke/VarHandle") ∧ (parseMethodDescriptor mX2_costOf.y.desc).map (fun d => d.parameters.length) = some 2 := by decide +kernel
set_option maxRecDepth 1000000 in
theorem kX2_101 : zCalV RX2 101 mX2_costOf 2 := ⟨⟨w_631, w_45, w_634, qX2_costOf.1, qX2_costOf.2⟩, w_633, w_20, rfl⟩
set_option maxRecDepth 1000000 in
theorem w_613 : Cond.methodLink RX2 110 yX2_stayOf ∈ zt := zt_at 613 rfl rfl
set_option maxRecDepth 1000000 in
theorem w_616 : mX2_stayOf.cond ∈ zt := zt_at 616 rfl rfl
set_option maxRecDepth 1000000 in
theorem w_615 : Cond.instanceMethod yX2_stayOf ∈ zt := zt_at 615 rfl rfl
set_option maxRecDepth 1000000 in
theorem w_16 : Cond.selects RX2 yX2_stayOf yX2_stayOf ∈ zt := zt_at 16 rfl rfl
set_option maxRecDepth 1000000 in
theorem qX2_stayOf : (mX2_stayOf.y.cls ≠ "java/lang/invoke/MethodHandle" ∧ mX2_stayOf.y.cls ≠ "java/lang/invoke/VarHandle") ∧ (parseMethodDescriptor mX2_stayOf.y.desc).map (fun d => d.parameters.length) = some 2 := by decide +kernel
set_option maxRecDepth 1000000 in
theorem kX2_110 : zCalV RX2 110 mX2_stayOf 2 := ⟨⟨w_613, w_45, w_616, qX2_stayOf.1, qX2_stayOf.2⟩, w_615, w_16, rfl⟩
set_option maxRecDepth 1000000 in
theorem w_246 : Cond.methodLink RX3 11 yX4_init ∈ zt := zt_at 246 rfl rfl
set_option maxRecDepth 1000000 in
theorem kX3_11 : zCalI RX3 11 mX4_init 1 := ⟨⟨w_246, w_40, w_76, qX4_init.1, qX4_init.2⟩, w_75, rfl, rfl⟩
set_option maxRecDepth 1000000 in
theorem w_665 : Cond.methodLink RX3 23 yX0_gapBetween ∈ zt := zt_at 665 rfl rfl
set_option maxRecDepth 1000000 in
theorem w_668 : mX0_gapBetween.cond ∈ zt := zt_at 668 rfl rfl
set_option maxRecDepth 1000000 in
theorem w_666 : Cond.instanceMethod yX0_gapBetween ∈ zt := zt_at 666 rfl rfl
set_option maxRecDepth 1000000 in
theorem w_667 : Cond.selects RX0 yX0_gapBetween yX0_gapBetween ∈ zt := zt_at 667 rfl rfl
set_option maxRecDepth 1000000 in
theorem qX0_gapBetween : (mX0_gapBetween.y.cls ≠ "java/lang/invoke/MethodHandle" ∧ mX0_gapBetween.y.cls ≠ "java/lang/invoke/VarHandle") ∧ (parseMethodDescriptor mX0_gapBetween.y.desc).map (fun d => d.parameters.length) = some 2 := by decide +kernel
set_option maxRecDepth 1000000 in
theorem kX3_23 : zCalV RX3 23 mX0_gapBetween 2 := ⟨⟨w_665, w_39, w_668, qX0_gapBetween.1, qX0_gapBetween.2⟩, w_666, w_667, rfl⟩
set_option maxRecDepth 1000000 in
theorem w_655 : Cond.methodLink RX3 34 yX4_get ∈ zt := zt_at 655 rfl rfl
set_option maxRecDepth 1000000 in
theorem kX3_34 : zCalV RX3 34 mX4_get 1 := ⟨⟨w_655, w_40, w_315, qX4_get.1, qX4_get.2⟩, w_313, w_314, rfl⟩
set_option maxRecDepth 1000000 in
theorem w_652 : Cond.methodLink RX3 38 yX4_clear ∈ zt := zt_at 652 rfl rfl
set_option maxRecDepth 1000000 in
theorem kX3_38 : zCalV RX3 38 mX4_clear 0 := ⟨⟨w_652, w_40, w_426, qX4_clear.1, qX4_clear.2⟩, w_424, w_425, rfl⟩
set_option maxRecDepth 1000000 in
theorem w_653 : Cond.methodLink RX3 41 yX0_count ∈ zt := zt_at 653 rfl rfl
set_option maxRecDepth 1000000 in
theorem kX3_41 : zCalV RX3 41 mX0_count 0 := ⟨⟨w_653, w_39, w_303, qX0_count.1, qX0_count.2⟩, w_301, w_302, rfl⟩
set_option maxRecDepth 1000000 in
theorem w_654 : Cond.methodLink RX3 45 yX4_append ∈ zt := zt_at 654 rfl rfl
set_option maxRecDepth 1000000 in
theorem kX3_45 : zCalV RX3 45 mX4_append 1 := ⟨⟨w_654, w_40, w_453, qX4_append.1, qX4_append.2⟩, w_451, w_452, rfl⟩
set_option maxRecDepth 1000000 in
theorem w_656 : Cond.methodLink RX3 48 yX3_goFrom ∈ zt := zt_at 656 rfl rfl
set_option maxRecDepth 1000000 in
theorem w_659 : mX3_goFrom.cond ∈ zt := zt_at 659 rfl rfl
set_option maxRecDepth 1000000 in
theorem w_658 : Cond.instanceMethod yX3_goFrom ∈ zt := zt_at 658 rfl rfl
set_option maxRecDepth 1000000 in
theorem w_22 : Cond.selects RX3 yX3_goFrom yX3_goFrom ∈ zt := zt_at 22 rfl rfl
set_option maxRecDepth 1000000 in
theorem qX3_goFrom : (mX3_goFrom.y.cls ≠ "java/lang/invoke/MethodHandle" ∧ mX3_goFrom.y.cls ≠ "java/lang/invoke/VarHandle") ∧ (parseMethodDescriptor mX3_goFrom.y.desc).map (fun d => d.parameters.length) = some 4 := by decide +kernel
set_option maxRecDepth 1000000 in
theorem kX3_48 : zCalV RX3 48 mX3_goFrom 4 := ⟨⟨w_656, w_46, w_659, qX3_goFrom.1, qX3_goFrom.2⟩, w_658, w_22, rfl⟩
set_option maxRecDepth 1000000 in
theorem w_660 : Cond.methodLink RX3 52 yX4_set ∈ zt := zt_at 660 rfl rfl
set_option maxRecDepth 1000000 in
theorem kX3_52 : zCalV RX3 52 mX4_set 2 := ⟨⟨w_660, w_40, w_449, qX4_set.1, qX4_set.2⟩, w_447, w_448, rfl⟩
set_option maxRecDepth 1000000 in
theorem w_661 : Cond.methodLink RX3 56 yX4_length ∈ zt := zt_at 661 rfl rfl
set_option maxRecDepth 1000000 in
theorem kX3_56 : zCalV RX3 56 mX4_length 0 := ⟨⟨w_661, w_40, w_307, qX4_length.1, qX4_length.2⟩, w_305, w_306, rfl⟩
set_option maxRecDepth 1000000 in
theorem w_662 : Cond.methodLink RX3 59 yX3_unitsBetween ∈ zt := zt_at 662 rfl rfl
set_option maxRecDepth 1000000 in
theorem kX3_59 : zCalS RX3 59 mX3_unitsBetween 4 := ⟨⟨w_662, w_46, w_664, qX3_unitsBetween.1, qX3_unitsBetween.2⟩, w_663, rfl⟩
set_option maxRecDepth 1000000 in
theorem w_675 : Cond.methodLink RX3 63 yX3_join ∈ zt := zt_at 675 rfl rfl
set_option maxRecDepth 1000000 in
theorem w_678 : mX3_join.cond ∈ zt := zt_at 678 rfl rfl
set_option maxRecDepth 1000000 in
theorem w_677 : Cond.instanceMethod yX3_join ∈ zt := zt_at 677 rfl rfl
set_option maxRecDepth 1000000 in
theorem w_23 : Cond.selects RX3 yX3_join yX3_join ∈ zt := zt_at 23 rfl rfl
set_option maxRecDepth 1000000 in
theorem qX3_join : (mX3_join.y.cls ≠ "java/lang/invoke/MethodHandle" ∧ mX3_join.y.cls ≠ "java/lang/invoke/VarHandle") ∧ (parseMethodDescriptor mX3_join.y.desc).map (fun d => d.parameters.length) = some 2 := by decide +kernel
set_option maxRecDepth 1000000 in
theorem kX3_63 : zCalV RX3 63 mX3_join 2 := ⟨⟨w_675, w_46, w_678, qX3_join.1, qX3_join.2⟩, w_677, w_23, rfl⟩
set_option maxRecDepth 1000000 in
theorem w_153 : Cond.methodLink RX5 11 yX4_init ∈ zt := zt_at 153 rfl rfl
set_option maxRecDepth 1000000 in
theorem kX5_11 : zCalI RX5 11 mX4_init 1 := ⟨⟨w_153, w_40, w_76, qX4_init.1, qX4_init.2⟩, w_75, rfl, rfl⟩
set_option maxRecDepth 1000000 in
theorem w_458 : Cond.methodLink RX5 38 yX4_clear ∈ zt := zt_at 458 rfl rfl
set_option maxRecDepth 1000000 in
theorem kX5_38 : zCalV RX5 38 mX4_clear 0 := ⟨⟨w_458, w_40, w_426, qX4_clear.1, qX4_clear.2⟩, w_424, w_425, rfl⟩
set_option maxRecDepth 1000000 in
theorem w_459 : Cond.methodLink RX5 41 yX0_count ∈ zt := zt_at 459 rfl rfl
set_option maxRecDepth 1000000 in
theorem kX5_41 : zCalV RX5 41 mX0_count 0 := ⟨⟨w_459, w_39, w_303, qX0_count.1, qX0_count.2⟩, w_301, w_302, rfl⟩
set_option maxRecDepth 1000000 in
theorem w_460 : Cond.methodLink RX5 47 yX0_sizeAt ∈ zt := zt_at 460 rfl rfl
set_option maxRecDepth 1000000 in
theorem kX5_47 : zCalV RX5 47 mX0_sizeAt 1 := ⟨⟨w_460, w_39, w_319, qX0_sizeAt.1, qX0_sizeAt.2⟩, w_317, w_318, rfl⟩
set_option maxRecDepth 1000000 in
theorem w_461 : Cond.methodLink RX5 51 yX4_append ∈ zt := zt_at 461 rfl rfl
set_option maxRecDepth 1000000 in
theorem kX5_51 : zCalV RX5 51 mX4_append 1 := ⟨⟨w_461, w_40, w_453, qX4_append.1, qX4_append.2⟩, w_451, w_452, rfl⟩
set_option maxRecDepth 1000000 in
theorem w_462 : Cond.methodLink RX5 54 yX0_startAt ∈ zt := zt_at 462 rfl rfl
set_option maxRecDepth 1000000 in
theorem kX5_54 : zCalV RX5 54 mX0_startAt 1 := ⟨⟨w_462, w_39, w_311, qX0_startAt.1, qX0_startAt.2⟩, w_309, w_310, rfl⟩
set_option maxRecDepth 1000000 in
theorem w_463 : Cond.methodLink RX5 57 yX0_meets ∈ zt := zt_at 463 rfl rfl
set_option maxRecDepth 1000000 in
theorem kX5_57 : zCalV RX5 57 mX0_meets 3 := ⟨⟨w_463, w_39, w_331, qX0_meets.1, qX0_meets.2⟩, w_329, w_330, rfl⟩
set_option maxRecDepth 1000000 in
theorem w_476 : Cond.methodLink RX5 61 yX7_addedCount ∈ zt := zt_at 476 rfl rfl
set_option maxRecDepth 1000000 in
theorem kX5_61 : zCalV RX5 61 mX7_addedCount 0 := ⟨⟨w_476, w_41, w_479, qX7_addedCount.1, qX7_addedCount.2⟩, w_477, w_478, rfl⟩
set_option maxRecDepth 1000000 in
theorem w_481 : Cond.methodLink RX5 66 yX7_isThere ∈ zt := zt_at 481 rfl rfl
set_option maxRecDepth 1000000 in
theorem kX5_66 : zCalV RX5 66 mX7_isThere 1 := ⟨⟨w_481, w_41, w_484, qX7_isThere.1, qX7_isThere.2⟩, w_482, w_483, rfl⟩
set_option maxRecDepth 1000000 in
theorem w_486 : Cond.methodLink RX5 70 yX7_axisAt ∈ zt := zt_at 486 rfl rfl
set_option maxRecDepth 1000000 in
theorem kX5_70 : zCalV RX5 70 mX7_axisAt 1 := ⟨⟨w_486, w_41, w_489, qX7_axisAt.1, qX7_axisAt.2⟩, w_487, w_488, rfl⟩
set_option maxRecDepth 1000000 in
theorem w_493 : Cond.methodLink RX5 74 yX7_shapeAt ∈ zt := zt_at 493 rfl rfl
set_option maxRecDepth 1000000 in
theorem w_496 : mX7_shapeAt.cond ∈ zt := zt_at 496 rfl rfl
set_option maxRecDepth 1000000 in
theorem w_494 : Cond.instanceMethod yX7_shapeAt ∈ zt := zt_at 494 rfl rfl
set_option maxRecDepth 1000000 in
theorem w_495 : Cond.selects RX7 yX7_shapeAt yX7_shapeAt ∈ zt := zt_at 495 rfl rfl
set_option maxRecDepth 1000000 in
theorem qX7_shapeAt : (mX7_shapeAt.y.cls ≠ "java/lang/invoke/MethodHandle" ∧ mX7_shapeAt.y.cls ≠ "java/lang/invoke/VarHandle") ∧ (parseMethodDescriptor mX7_shapeAt.y.desc).map (fun d => d.parameters.length) = some 1 := by decide +kernel
set_option maxRecDepth 1000000 in
theorem kX5_74 : zCalV RX5 74 mX7_shapeAt 1 := ⟨⟨w_493, w_41, w_496, qX7_shapeAt.1, qX7_shapeAt.2⟩, w_494, w_495, rfl⟩
set_option maxRecDepth 1000000 in
theorem w_497 : Cond.methodLink RX5 77 yX7_otherAt ∈ zt := zt_at 497 rfl rfl
set_option maxRecDepth 1000000 in
theorem w_500 : mX7_otherAt.cond ∈ zt := zt_at 500 rfl rfl
set_option maxRecDepth 1000000 in
theorem w_498 : Cond.instanceMethod yX7_otherAt ∈ zt := zt_at 498 rfl rfl
set_option maxRecDepth 1000000 in
theorem w_499 : Cond.selects RX7 yX7_otherAt yX7_otherAt ∈ zt := zt_at 499 rfl rfl
set_option maxRecDepth 1000000 in
theorem qX7_otherAt : (mX7_otherAt.y.cls ≠ "java/lang/invoke/MethodHandle" ∧ mX7_otherAt.y.cls ≠ "java/lang/invoke/VarHandle") ∧ (parseMethodDescriptor mX7_otherAt.y.desc).map (fun d => d.parameters.length) = some 1 := by decide +kernel
set_option maxRecDepth 1000000 in
theorem kX5_77 : zCalV RX5 77 mX7_otherAt 1 := ⟨⟨w_497, w_41, w_500, qX7_otherAt.1, qX7_otherAt.2⟩, w_498, w_499, rfl⟩
set_option maxRecDepth 1000000 in
theorem w_507 : Cond.methodLink RX5 89 yX7_edgeAt ∈ zt := zt_at 507 rfl rfl
set_option maxRecDepth 1000000 in
theorem w_510 : mX7_edgeAt.cond ∈ zt := zt_at 510 rfl rfl
set_option maxRecDepth 1000000 in
theorem w_508 : Cond.instanceMethod yX7_edgeAt ∈ zt := zt_at 508 rfl rfl
set_option maxRecDepth 1000000 in
theorem w_509 : Cond.selects RX7 yX7_edgeAt yX7_edgeAt ∈ zt := zt_at 509 rfl rfl
set_option maxRecDepth 1000000 in
theorem qX7_edgeAt : (mX7_edgeAt.y.cls ≠ "java/lang/invoke/MethodHandle" ∧ mX7_edgeAt.y.cls ≠ "java/lang/invoke/VarHandle") ∧ (parseMethodDescriptor mX7_edgeAt.y.desc).map (fun d => d.parameters.length) = some 1 := by decide +kernel
set_option maxRecDepth 1000000 in
theorem kX5_89 : zCalV RX5 89 mX7_edgeAt 1 := ⟨⟨w_507, w_41, w_510, qX7_edgeAt.1, qX7_edgeAt.2⟩, w_508, w_509, rfl⟩
set_option maxRecDepth 1000000 in
theorem w_511 : Cond.methodLink RX5 92 yX7_strengthAt ∈ zt := zt_at 511 rfl rfl
set_option maxRecDepth 1000000 in
theorem kX5_92 : zCalV RX5 92 mX7_strengthAt 1 := ⟨⟨w_511, w_41, w_514, qX7_strengthAt.1, qX7_strengthAt.2⟩, w_512, w_513, rfl⟩
set_option maxRecDepth 1000000 in
theorem w_523 : Cond.methodLink RX5 95 yX4_length ∈ zt := zt_at 523 rfl rfl
set_option maxRecDepth 1000000 in
theorem kX5_95 : zCalV RX5 95 mX4_length 0 := ⟨⟨w_523, w_40, w_307, qX4_length.1, qX4_length.2⟩, w_305, w_306, rfl⟩
set_option maxRecDepth 1000000 in
theorem w_524 : Cond.methodLink RX5 98 yX4_get ∈ zt := zt_at 524 rfl rfl
set_option maxRecDepth 1000000 in
theorem kX5_98 : zCalV RX5 98 mX4_get 1 := ⟨⟨w_524, w_40, w_315, qX4_get.1, qX4_get.2⟩, w_313, w_314, rfl⟩
set_option maxRecDepth 1000000 in
theorem w_130 : Cond.methodLinkNest RX6 11 yX1_init "SlideLayout" ∈ zbad := zbad_at 130 rfl rfl
set_option maxRecDepth 1000000 in
theorem w_43 : Cond.initialized RX1 ∈ zt := zt_at 43 rfl rfl
set_option maxRecDepth 1000000 in
theorem w_132 : mX1_init.cond ∈ zt := zt_at 132 rfl rfl
set_option maxRecDepth 1000000 in
theorem w_131 : Cond.instanceMethod yX1_init ∈ zt := zt_at 131 rfl rfl
set_option maxRecDepth 1000000 in
theorem qX1_init : (mX1_init.y.cls ≠ "java/lang/invoke/MethodHandle" ∧ mX1_init.y.cls ≠ "java/lang/invoke/VarHandle") ∧ (parseMethodDescriptor mX1_init.y.desc).map (fun d => d.parameters.length) = some 0 := by decide +kernel
set_option maxRecDepth 1000000 in
theorem kX6_11 : zCalIN RX6 11 mX1_init 0 "SlideLayout" := ⟨w_130, w_43, w_132, qX1_init.1, qX1_init.2, w_131, rfl, rfl⟩
set_option maxRecDepth 1000000 in
theorem w_148 : Cond.methodLinkNest RX6 20 yX5_init "SlideLayout" ∈ zbad := zbad_at 148 rfl rfl
set_option maxRecDepth 1000000 in
theorem w_44 : Cond.initialized RX5 ∈ zt := zt_at 44 rfl rfl
set_option maxRecDepth 1000000 in
theorem w_150 : mX5_init.cond ∈ zt := zt_at 150 rfl rfl
set_option maxRecDepth 1000000 in
theorem w_149 : Cond.instanceMethod yX5_init ∈ zt := zt_at 149 rfl rfl
set_option maxRecDepth 1000000 in
theorem qX5_init : (mX5_init.y.cls ≠ "java/lang/invoke/MethodHandle" ∧ mX5_init.y.cls ≠ "java/lang/invoke/VarHandle") ∧ (parseMethodDescriptor mX5_init.y.desc).map (fun d => d.parameters.length) = some 0 := by decide +kernel
set_option maxRecDepth 1000000 in
theorem kX6_20 : zCalIN RX6 20 mX5_init 0 "SlideLayout" := ⟨w_148, w_44, w_150, qX5_init.1, qX5_init.2, w_149, rfl, rfl⟩
set_option maxRecDepth 1000000 in
theorem w_177 : Cond.methodLink RX6 27 yX4_init ∈ zt := zt_at 177 rfl rfl
set_option maxRecDepth 1000000 in
theorem kX6_27 : zCalI RX6 27 mX4_init 1 := ⟨⟨w_177, w_40, w_76, qX4_init.1, qX4_init.2⟩, w_75, rfl, rfl⟩
set_option maxRecDepth 1000000 in
theorem w_419 : Cond.methodLink RX6 43 yX1_load ∈ zt := zt_at 419 rfl rfl
set_option maxRecDepth 1000000 in
theorem w_422 : mX1_load.cond ∈ zt := zt_at 422 rfl rfl
set_option maxRecDepth 1000000 in
theorem w_420 : Cond.instanceMethod yX1_load ∈ zt := zt_at 420 rfl rfl
set_option maxRecDepth 1000000 in
theorem w_421 : Cond.selects RX1 yX1_load yX1_load ∈ zt := zt_at 421 rfl rfl
set_option maxRecDepth 1000000 in
theorem qX1_load : (mX1_load.y.cls ≠ "java/lang/invoke/MethodHandle" ∧ mX1_load.y.cls ≠ "java/lang/invoke/VarHandle") ∧ (parseMethodDescriptor mX1_load.y.desc).map (fun d => d.parameters.length) = some 2 := by decide +kernel
set_option maxRecDepth 1000000 in
theorem kX6_43 : zCalV RX6 43 mX1_load 2 := ⟨⟨w_419, w_43, w_422, qX1_load.1, qX1_load.2⟩, w_420, w_421, rfl⟩
set_option maxRecDepth 1000000 in
theorem w_454 : Cond.methodLink RX6 47 yX5_load ∈ zt := zt_at 454 rfl rfl
set_option maxRecDepth 1000000 in
theorem w_457 : mX5_load.cond ∈ zt := zt_at 457 rfl rfl
set_option maxRecDepth 1000000 in
theorem w_455 : Cond.instanceMethod yX5_load ∈ zt := zt_at 455 rfl rfl
set_option maxRecDepth 1000000 in
theorem w_456 : Cond.selects RX5 yX5_load yX5_load ∈ zt := zt_at 456 rfl rfl
set_option maxRecDepth 1000000 in
theorem qX5_load : (mX5_load.y.cls ≠ "java/lang/invoke/MethodHandle" ∧ mX5_load.y.cls ≠ "java/lang/invoke/VarHandle") ∧ (parseMethodDescriptor mX5_load.y.desc).map (fun d => d.parameters.length) = some 2 := by decide +kernel
set_option maxRecDepth 1000000 in
theorem kX6_47 : zCalV RX6 47 mX5_load 2 := ⟨⟨w_454, w_44, w_457, qX5_load.1, qX5_load.2⟩, w_455, w_456, rfl⟩
set_option maxRecDepth 1000000 in
theorem w_464 : Cond.methodLink RX6 50 yX4_clear ∈ zt := zt_at 464 rfl rfl
set_option maxRecDepth 1000000 in
theorem kX6_50 : zCalV RX6 50 mX4_clear 0 := ⟨⟨w_464, w_40, w_426, qX4_clear.1, qX4_clear.2⟩, w_424, w_425, rfl⟩
set_option maxRecDepth 1000000 in
theorem w_465 : Cond.methodLink RX6 53 yX0_count ∈ zt := zt_at 465 rfl rfl
set_option maxRecDepth 1000000 in
theorem kX6_53 : zCalV RX6 53 mX0_count 0 := ⟨⟨w_465, w_39, w_303, qX0_count.1, qX0_count.2⟩, w_301, w_302, rfl⟩
set_option maxRecDepth 1000000 in
theorem w_466 : Cond.methodLink RX6 59 yX0_startAt ∈ zt := zt_at 466 rfl rfl
set_option maxRecDepth 1000000 in
theorem kX6_59 : zCalV RX6 59 mX0_startAt 1 := ⟨⟨w_466, w_39, w_311, qX0_startAt.1, qX0_startAt.2⟩, w_309, w_310, rfl⟩
set_option maxRecDepth 1000000 in
theorem w_467 : Cond.methodLink RX6 63 yX4_append ∈ zt := zt_at 467 rfl rfl
set_option maxRecDepth 1000000 in
theorem kX6_63 : zCalV RX6 63 mX4_append 1 := ⟨⟨w_467, w_40, w_453, qX4_append.1, qX4_append.2⟩, w_451, w_452, rfl⟩
set_option maxRecDepth 1000000 in
theorem w_472 : Cond.methodLink RX6 66 yX5_loadWishes ∈ zt := zt_at 472 rfl rfl
set_option maxRecDepth 1000000 in
theorem w_475 : mX5_loadWishes.cond ∈ zt := zt_at 475 rfl rfl
set_option maxRecDepth 1000000 in
theorem w_473 : Cond.instanceMethod yX5_loadWishes ∈ zt := zt_at 473 rfl rfl
set_option maxRecDepth 1000000 in
theorem w_474 : Cond.selects RX5 yX5_loadWishes yX5_loadWishes ∈ zt := zt_at 474 rfl rfl
set_option maxRecDepth 1000000 in
theorem qX5_loadWishes : (mX5_loadWishes.y.cls ≠ "java/lang/invoke/MethodHandle" ∧ mX5_loadWishes.y.cls ≠ "java/lang/invoke/VarHandle") ∧ (parseMethodDescriptor mX5_loadWishes.y.desc).map (fun d => d.parameters.length) = some 2 := by decide +kernel
set_option maxRecDepth 1000000 in
theorem kX6_66 : zCalV RX6 66 mX5_loadWishes 2 := ⟨⟨w_472, w_44, w_475, qX5_loadWishes.1, qX5_loadWishes.2⟩, w_473, w_474, rfl⟩
set_option maxRecDepth 1000000 in
theorem w_530 : Cond.methodLink RX6 77 yX4_get ∈ zt := zt_at 530 rfl rfl
set_option maxRecDepth 1000000 in
theorem kX6_77 : zCalV RX6 77 mX4_get 1 := ⟨⟨w_530, w_40, w_315, qX4_get.1, qX4_get.2⟩, w_313, w_314, rfl⟩
set_option maxRecDepth 1000000 in
theorem w_519 : Cond.methodLink RX6 80 yX5_strengthOf ∈ zt := zt_at 519 rfl rfl
set_option maxRecDepth 1000000 in
theorem w_522 : mX5_strengthOf.cond ∈ zt := zt_at 522 rfl rfl
set_option maxRecDepth 1000000 in
theorem w_520 : Cond.instanceMethod yX5_strengthOf ∈ zt := zt_at 520 rfl rfl
set_option maxRecDepth 1000000 in
theorem w_521 : Cond.selects RX5 yX5_strengthOf yX5_strengthOf ∈ zt := zt_at 521 rfl rfl
set_option maxRecDepth 1000000 in
theorem qX5_strengthOf : (mX5_strengthOf.y.cls ≠ "java/lang/invoke/MethodHandle" ∧ mX5_strengthOf.y.cls ≠ "java/lang/invoke/VarHandle") ∧ (parseMethodDescriptor mX5_strengthOf.y.desc).map (fun d => d.parameters.length) = some 3 := by decide +kernel
set_option maxRecDepth 1000000 in
theorem kX6_80 : zCalV RX6 80 mX5_strengthOf 3 := ⟨⟨w_519, w_44, w_522, qX5_strengthOf.1, qX5_strengthOf.2⟩, w_520, w_521, rfl⟩
set_option maxRecDepth 1000000 in
theorem w_525 : Cond.methodLink RX6 84 yX6_keep ∈ zt := zt_at 525 rfl rfl
set_option maxRecDepth 1000000 in
theorem w_528 : mX6_keep.cond ∈ zt := zt_at 528 rfl rfl
set_option maxRecDepth 1000000 in
theorem w_527 : Cond.instanceMethod yX6_keep ∈ zt := zt_at 527 rfl rfl
set_option maxRecDepth 1000000 in
theorem w_7 : Cond.selects RX6 yX6_keep yX6_keep ∈ zt := zt_at 7 rfl rfl
set_option maxRecDepth 1000000 in
theorem qX6_keep : (mX6_keep.y.cls ≠ "java/lang/invoke/MethodHandle" ∧ mX6_keep.y.cls ≠ "java/lang/invoke/VarHandle") ∧ (parseMethodDescriptor mX6_keep.y.desc).map (fun d => d.parameters.length) = some 3 := by decide +kernel
set_option maxRecDepth 1000000 in
theorem kX6_84 : zCalV RX6 84 mX6_keep 3 := ⟨⟨w_525, w_42, w_528, qX6_keep.1, qX6_keep.2⟩, w_527, w_7, rfl⟩
set_option maxRecDepth 1000000 in
theorem w_532 : Cond.methodLink RX6 88 yX6_placeFrom ∈ zt := zt_at 532 rfl rfl
set_option maxRecDepth 1000000 in
theorem w_535 : mX6_placeFrom.cond ∈ zt := zt_at 535 rfl rfl
set_option maxRecDepth 1000000 in
theorem w_534 : Cond.instanceMethod yX6_placeFrom ∈ zt := zt_at 534 rfl rfl
set_option maxRecDepth 1000000 in
theorem w_8 : Cond.selects RX6 yX6_placeFrom yX6_placeFrom ∈ zt := zt_at 8 rfl rfl
set_option maxRecDepth 1000000 in
theorem qX6_placeFrom : (mX6_placeFrom.y.cls ≠ "java/lang/invoke/MethodHandle" ∧ mX6_placeFrom.y.cls ≠ "java/lang/invoke/VarHandle") ∧ (parseMethodDescriptor mX6_placeFrom.y.desc).map (fun d => d.parameters.length) = some 3 := by decide +kernel
set_option maxRecDepth 1000000 in
theorem kX6_88 : zCalV RX6 88 mX6_placeFrom 3 := ⟨⟨w_532, w_42, w_535, qX6_placeFrom.1, qX6_placeFrom.2⟩, w_534, w_8, rfl⟩
set_option maxRecDepth 1000000 in
theorem w_536 : Cond.methodLink RX6 92 yX5_strengthAtMost ∈ zt := zt_at 536 rfl rfl
set_option maxRecDepth 1000000 in
theorem w_539 : mX5_strengthAtMost.cond ∈ zt := zt_at 539 rfl rfl
set_option maxRecDepth 1000000 in
theorem w_537 : Cond.instanceMethod yX5_strengthAtMost ∈ zt := zt_at 537 rfl rfl
set_option maxRecDepth 1000000 in
theorem w_538 : Cond.selects RX5 yX5_strengthAtMost yX5_strengthAtMost ∈ zt := zt_at 538 rfl rfl
set_option maxRecDepth 1000000 in
theorem qX5_strengthAtMost : (mX5_strengthAtMost.y.cls ≠ "java/lang/invoke/MethodHandle" ∧ mX5_strengthAtMost.y.cls ≠ "java/lang/invoke/VarHandle") ∧ (parseMethodDescriptor mX5_strengthAtMost.y.desc).map (fun d => d.parameters.length) = some 1 := by decide +kernel
set_option maxRecDepth 1000000 in
theorem kX6_92 : zCalV RX6 92 mX5_strengthAtMost 1 := ⟨⟨w_536, w_44, w_539, qX5_strengthAtMost.1, qX5_strengthAtMost.2⟩, w_537, w_538, rfl⟩
set_option maxRecDepth 1000000 in
theorem w_540 : Cond.methodLink RX6 95 yX6_isTidier ∈ zt := zt_at 540 rfl rfl
set_option maxRecDepth 1000000 in
theorem w_543 : mX6_isTidier.cond ∈ zt := zt_at 543 rfl rfl
set_option maxRecDepth 1000000 in
theorem w_542 : Cond.instanceMethod yX6_isTidier ∈ zt := zt_at 542 rfl rfl
set_option maxRecDepth 1000000 in
theorem w_9 : Cond.selects RX6 yX6_isTidier yX6_isTidier ∈ zt := zt_at 9 rfl rfl
set_option maxRecDepth 1000000 in
theorem qX6_isTidier : (mX6_isTidier.y.cls ≠ "java/lang/invoke/MethodHandle" ∧ mX6_isTidier.y.cls ≠ "java/lang/invoke/VarHandle") ∧ (parseMethodDescriptor mX6_isTidier.y.desc).map (fun d => d.parameters.length) = some 2 := by decide +kernel
set_option maxRecDepth 1000000 in
theorem kX6_95 : zCalV RX6 95 mX6_isTidier 2 := ⟨⟨w_540, w_42, w_543, qX6_isTidier.1, qX6_isTidier.2⟩, w_542, w_9, rfl⟩
set_option maxRecDepth 1000000 in
theorem w_529 : Cond.methodLink RX6 99 yX4_length ∈ zt := zt_at 529 rfl rfl
set_option maxRecDepth 1000000 in
theorem kX6_99 : zCalV RX6 99 mX4_length 0 := ⟨⟨w_529, w_40, w_307, qX4_length.1, qX4_length.2⟩, w_305, w_306, rfl⟩
set_option maxRecDepth 1000000 in
theorem w_544 : Cond.methodLink RX6 102 yX1_count ∈ zt := zt_at 544 rfl rfl
set_option maxRecDepth 1000000 in
theorem w_547 : mX1_count.cond ∈ zt := zt_at 547 rfl rfl
set_option maxRecDepth 1000000 in
theorem w_545 : Cond.instanceMethod yX1_count ∈ zt := zt_at 545 rfl rfl
set_option maxRecDepth 1000000 in
theorem w_546 : Cond.selects RX1 yX1_count yX1_count ∈ zt := zt_at 546 rfl rfl
set_option maxRecDepth 1000000 in
theorem qX1_count : (mX1_count.y.cls ≠ "java/lang/invoke/MethodHandle" ∧ mX1_count.y.cls ≠ "java/lang/invoke/VarHandle") ∧ (parseMethodDescriptor mX1_count.y.desc).map (fun d => d.parameters.length) = some 1 := by decide +kernel
set_option maxRecDepth 1000000 in
theorem kX6_102 : zCalV RX6 102 mX1_count 1 := ⟨⟨w_544, w_43, w_547, qX1_count.1, qX1_count.2⟩, w_545, w_546, rfl⟩
set_option maxRecDepth 1000000 in
theorem w_548 : Cond.methodLink RX6 104 yX1_start ∈ zt := zt_at 548 rfl rfl
set_option maxRecDepth 1000000 in
theorem w_551 : mX1_start.cond ∈ zt := zt_at 551 rfl rfl
set_option maxRecDepth 1000000 in
theorem w_549 : Cond.instanceMethod yX1_start ∈ zt := zt_at 549 rfl rfl
set_option maxRecDepth 1000000 in
theorem w_550 : Cond.selects RX1 yX1_start yX1_start ∈ zt := zt_at 550 rfl rfl
set_option maxRecDepth 1000000 in
theorem qX1_start : (mX1_start.y.cls ≠ "java/lang/invoke/MethodHandle" ∧ mX1_start.y.cls ≠ "java/lang/invoke/VarHandle") ∧ (parseMethodDescriptor mX1_start.y.desc).map (fun d => d.parameters.length) = some 2 := by decide +kernel
set_option maxRecDepth 1000000 in
theorem kX6_104 : zCalV RX6 104 mX1_start 2 := ⟨⟨w_548, w_43, w_551, qX1_start.1, qX1_start.2⟩, w_549, w_550, rfl⟩
set_option maxRecDepth 1000000 in
theorem w_552 : Cond.methodLink RX6 108 yX6_placeAt ∈ zt := zt_at 552 rfl rfl
set_option maxRecDepth 1000000 in
theorem w_555 : mX6_placeAt.cond ∈ zt := zt_at 555 rfl rfl
set_option maxRecDepth 1000000 in
theorem w_554 : Cond.instanceMethod yX6_placeAt ∈ zt := zt_at 554 rfl rfl
set_option maxRecDepth 1000000 in
theorem w_10 : Cond.selects RX6 yX6_placeAt yX6_placeAt ∈ zt := zt_at 10 rfl rfl
set_option maxRecDepth 1000000 in
theorem qX6_placeAt : (mX6_placeAt.y.cls ≠ "java/lang/invoke/MethodHandle" ∧ mX6_placeAt.y.cls ≠ "java/lang/invoke/VarHandle") ∧ (parseMethodDescriptor mX6_placeAt.y.desc).map (fun d => d.parameters.length) = some 4 := by decide +kernel
set_option maxRecDepth 1000000 in
theorem kX6_108 : zCalV RX6 108 mX6_placeAt 4 := ⟨⟨w_552, w_42, w_555, qX6_placeAt.1, qX6_placeAt.2⟩, w_554, w_10, rfl⟩
set_option maxRecDepth 1000000 in
theorem w_531 : Cond.methodLink RX6 112 yX4_set ∈ zt := zt_at 531 rfl rfl
set_option maxRecDepth 1000000 in
theorem kX6_112 : zCalV RX6 112 mX4_set 2 := ⟨⟨w_531, w_40, w_449, qX4_set.1, qX4_set.2⟩, w_447, w_448, rfl⟩
set_option maxRecDepth 1000000 in
theorem w_556 : Cond.methodLink RX6 116 yX5_keepsApart ∈ zt := zt_at 556 rfl rfl
set_option maxRecDepth 1000000 in
theorem w_559 : mX5_keepsApart.cond ∈ zt := zt_at 559 rfl rfl
set_option maxRecDepth 1000000 in
theorem w_557 : Cond.instanceMethod yX5_keepsApart ∈ zt := zt_at 557 rfl rfl
set_option maxRecDepth 1000000 in
theorem w_558 : Cond.selects RX5 yX5_keepsApart yX5_keepsApart ∈ zt := zt_at 558 rfl rfl
set_option maxRecDepth 1000000 in
theorem qX5_keepsApart : (mX5_keepsApart.y.cls ≠ "java/lang/invoke/MethodHandle" ∧ mX5_keepsApart.y.cls ≠ "java/lang/invoke/VarHandle") ∧ (parseMethodDescriptor mX5_keepsApart.y.desc).map (fun d => d.parameters.length) = some 3 := by decide +kernel
set_option maxRecDepth 1000000 in
theorem kX6_116 : zCalV RX6 116 mX5_keepsApart 3 := ⟨⟨w_556, w_44, w_559, qX5_keepsApart.1, qX5_keepsApart.2⟩, w_557, w_558, rfl⟩
set_option maxRecDepth 1000000 in
theorem w_571 : Cond.methodLink RX6 125 yX6_pick ∈ zt := zt_at 571 rfl rfl
set_option maxRecDepth 1000000 in
theorem w_574 : mX6_pick.cond ∈ zt := zt_at 574 rfl rfl
set_option maxRecDepth 1000000 in
theorem w_573 : Cond.instanceMethod yX6_pick ∈ zt := zt_at 573 rfl rfl
set_option maxRecDepth 1000000 in
theorem w_11 : Cond.selects RX6 yX6_pick yX6_pick ∈ zt := zt_at 11 rfl rfl
set_option maxRecDepth 1000000 in
theorem qX6_pick : (mX6_pick.y.cls ≠ "java/lang/invoke/MethodHandle" ∧ mX6_pick.y.cls ≠ "java/lang/invoke/VarHandle") ∧ (parseMethodDescriptor mX6_pick.y.desc).map (fun d => d.parameters.length) = some 2 := by decide +kernel
set_option maxRecDepth 1000000 in
theorem kX6_125 : zCalV RX6 125 mX6_pick 2 := ⟨⟨w_571, w_42, w_574, qX6_pick.1, qX6_pick.2⟩, w_573, w_11, rfl⟩
set_option maxRecDepth 1000000 in
theorem w_576 : Cond.methodLink RX6 131 yX6_pickNextLayout ∈ zt := zt_at 576 rfl rfl
set_option maxRecDepth 1000000 in
theorem w_579 : mX6_pickNextLayout.cond ∈ zt := zt_at 579 rfl rfl
set_option maxRecDepth 1000000 in
theorem w_578 : Cond.instanceMethod yX6_pickNextLayout ∈ zt := zt_at 578 rfl rfl
set_option maxRecDepth 1000000 in
theorem w_12 : Cond.selects RX6 yX6_pickNextLayout yX6_pickNextLayout ∈ zt := zt_at 12 rfl rfl
set_option maxRecDepth 1000000 in
theorem qX6_pickNextLayout : (mX6_pickNextLayout.y.cls ≠ "java/lang/invoke/MethodHandle" ∧ mX6_pickNextLayout.y.cls ≠ "java/lang/invoke/VarHandle") ∧ (parseMethodDescriptor mX6_pickNextLayout.y.desc).map (fun d => d.parameters.length) = some 0 := by decide +kernel
set_option maxRecDepth 1000000 in
theorem kX6_131 : zCalV RX6 131 mX6_pickNextLayout 0 := ⟨⟨w_576, w_42, w_579, qX6_pickNextLayout.1, qX6_pickNextLayout.2⟩, w_578, w_12, rfl⟩
set_option maxRecDepth 1000000 in
theorem w_105 : Cond.methodLink RX7 11 yX4_init ∈ zt := zt_at 105 rfl rfl
set_option maxRecDepth 1000000 in
theorem kX7_11 : zCalI RX7 11 mX4_init 1 := ⟨⟨w_105, w_40, w_76, qX4_init.1, qX4_init.2⟩, w_75, rfl, rfl⟩
set_option maxRecDepth 1000000 in
theorem w_490 : Cond.methodLink RX7 32 yX7_isKindAcross ∈ zt := zt_at 490 rfl rfl
set_option maxRecDepth 1000000 in
theorem w_492 : mX7_isKindAcross.cond ∈ zt := zt_at 492 rfl rfl
set_option maxRecDepth 1000000 in
theorem w_491 : Cond.static yX7_isKindAcross ∈ zt := zt_at 491 rfl rfl
set_option maxRecDepth 1000000 in
theorem qX7_isKindAcross : (mX7_isKindAcross.y.cls ≠ "java/lang/invoke/MethodHandle" ∧ mX7_isKindAcross.y.cls ≠ "java/lang/invoke/VarHandle") ∧ (parseMethodDescriptor mX7_isKindAcross.y.desc).map (fun d => d.parameters.length) = some 1 := by decide +kernel
set_option maxRecDepth 1000000 in
theorem kX7_32 : zCalS RX7 32 mX7_isKindAcross 1 := ⟨⟨w_490, w_41, w_492, qX7_isKindAcross.1, qX7_isKindAcross.2⟩, w_491, rfl⟩
set_option maxRecDepth 1000000 in
theorem w_480 : Cond.methodLink RX7 36 yX4_length ∈ zt := zt_at 480 rfl rfl
set_option maxRecDepth 1000000 in
theorem kX7_36 : zCalV RX7 36 mX4_length 0 := ⟨⟨w_480, w_40, w_307, qX4_length.1, qX4_length.2⟩, w_305, w_306, rfl⟩
set_option maxRecDepth 1000000 in
theorem w_880 : Cond.methodLink RX7 40 yX4_append ∈ zt := zt_at 880 rfl rfl
set_option maxRecDepth 1000000 in
theorem kX7_40 : zCalV RX7 40 mX4_append 1 := ⟨⟨w_880, w_40, w_453, qX4_append.1, qX4_append.2⟩, w_451, w_452, rfl⟩
set_option maxRecDepth 1000000 in
theorem w_894 : Cond.methodLink RX7 43 yX4_set ∈ zt := zt_at 894 rfl rfl
set_option maxRecDepth 1000000 in
theorem kX7_43 : zCalV RX7 43 mX4_set 2 := ⟨⟨w_894, w_40, w_449, qX4_set.1, qX4_set.2⟩, w_447, w_448, rfl⟩
set_option maxRecDepth 1000000 in
theorem w_485 : Cond.methodLink RX7 47 yX4_get ∈ zt := zt_at 485 rfl rfl
set_option maxRecDepth 1000000 in
theorem kX7_47 : zCalV RX7 47 mX4_get 1 := ⟨⟨w_485, w_40, w_315, qX4_get.1, qX4_get.2⟩, w_313, w_314, rfl⟩
set_option maxRecDepth 1000000 in
theorem w_899 : Cond.methodLink RX7 51 yX7_addedCount ∈ zt := zt_at 899 rfl rfl
set_option maxRecDepth 1000000 in
theorem kX7_51 : zCalV RX7 51 mX7_addedCount 0 := ⟨⟨w_899, w_41, w_479, qX7_addedCount.1, qX7_addedCount.2⟩, w_477, w_478, rfl⟩
set_option maxRecDepth 1000000 in
theorem w_900 : Cond.methodLink RX7 54 yX7_isThere ∈ zt := zt_at 900 rfl rfl
set_option maxRecDepth 1000000 in
theorem kX7_54 : zCalV RX7 54 mX7_isThere 1 := ⟨⟨w_900, w_41, w_484, qX7_isThere.1, qX7_isThere.2⟩, w_482, w_483, rfl⟩
set_option maxRecDepth 1000000 in
theorem w_979 : Cond.methodLink RX7 57 yX7_edgeAt ∈ zt := zt_at 979 rfl rfl
set_option maxRecDepth 1000000 in
theorem kX7_57 : zCalV RX7 57 mX7_edgeAt 1 := ⟨⟨w_979, w_41, w_510, qX7_edgeAt.1, qX7_edgeAt.2⟩, w_508, w_509, rfl⟩
set_option maxRecDepth 1000000 in
theorem w_980 : Cond.methodLink RX7 60 yX7_shapeAt ∈ zt := zt_at 980 rfl rfl
set_option maxRecDepth 1000000 in
theorem kX7_60 : zCalV RX7 60 mX7_shapeAt 1 := ⟨⟨w_980, w_41, w_496, qX7_shapeAt.1, qX7_shapeAt.2⟩, w_494, w_495, rfl⟩
set_option maxRecDepth 1000000 in
theorem w_981 : Cond.methodLink RX7 63 yX0_twiceEdge ∈ zt := zt_at 981 rfl rfl
set_option maxRecDepth 1000000 in
theorem kX7_63 : zCalV RX7 63 mX0_twiceEdge 2 := ⟨⟨w_981, w_39, w_984, qX0_twiceEdge.1, qX0_twiceEdge.2⟩, w_982, w_983, rfl⟩
set_option maxRecDepth 1000000 in
theorem w_985 : Cond.methodLink RX7 69 yX7_otherAt ∈ zt := zt_at 985 rfl rfl
set_option maxRecDepth 1000000 in
theorem kX7_69 : zCalV RX7 69 mX7_otherAt 1 := ⟨⟨w_985, w_41, w_500, qX7_otherAt.1, qX7_otherAt.2⟩, w_498, w_499, rfl⟩
set_option maxRecDepth 1000000 in
theorem w_683 : Cond.methodLink RL 9 yL_cell ∈ zt := zt_at 683 rfl rfl
set_option maxRecDepth 1000000 in
theorem w_37 : Cond.initialized RL ∈ zt := zt_at 37 rfl rfl
set_option maxRecDepth 1000000 in
theorem w_685 : mL_cell.cond ∈ zt := zt_at 685 rfl rfl
set_option maxRecDepth 1000000 in
theorem w_684 : Cond.static yL_cell ∈ zt := zt_at 684 rfl rfl
set_option maxRecDepth 1000000 in
theorem qL_cell : (mL_cell.y.cls ≠ "java/lang/invoke/MethodHandle" ∧ mL_cell.y.cls ≠ "java/lang/invoke/VarHandle") ∧ (parseMethodDescriptor mL_cell.y.desc).map (fun d => d.parameters.length) = some 2 := by decide +kernel
set_option maxRecDepth 1000000 in
theorem kL_9 : zCalS RL 9 mL_cell 2 := ⟨⟨w_683, w_37, w_685, qL_cell.1, qL_cell.2⟩, w_684, rfl⟩
set_option maxRecDepth 1000000 in
theorem w_725 : Cond.methodLink RL 15 yX8_addShape ∈ zt := zt_at 725 rfl rfl
set_option maxRecDepth 1000000 in
theorem w_728 : mX8_addShape.cond ∈ zt := zt_at 728 rfl rfl
set_option maxRecDepth 1000000 in
theorem w_726 : Cond.instanceMethod yX8_addShape ∈ zt := zt_at 726 rfl rfl
set_option maxRecDepth 1000000 in
theorem w_727 : Cond.selects RX8 yX8_addShape yX8_addShape ∈ zt := zt_at 727 rfl rfl
set_option maxRecDepth 1000000 in
theorem qX8_addShape : (mX8_addShape.y.cls ≠ "java/lang/invoke/MethodHandle" ∧ mX8_addShape.y.cls ≠ "java/lang/invoke/VarHandle") ∧ (parseMethodDescriptor mX8_addShape.y.desc).map (fun d => d.parameters.length) = some 4 := by decide +kernel
set_option maxRecDepth 1000000 in
theorem kL_15 : zCalV RL 15 mX8_addShape 4 := ⟨⟨w_725, w_38, w_728, qX8_addShape.1, qX8_addShape.2⟩, w_726, w_727, rfl⟩
set_option maxRecDepth 1000000 in
theorem w_769 : Cond.methodLink RL 21 yX8_setLocked ∈ zt := zt_at 769 rfl rfl
set_option maxRecDepth 1000000 in
theorem w_772 : mX8_setLocked.cond ∈ zt := zt_at 772 rfl rfl
set_option maxRecDepth 1000000 in
theorem w_770 : Cond.instanceMethod yX8_setLocked ∈ zt := zt_at 770 rfl rfl
set_option maxRecDepth 1000000 in
theorem w_771 : Cond.selects RX8 yX8_setLocked yX8_setLocked ∈ zt := zt_at 771 rfl rfl
set_option maxRecDepth 1000000 in
theorem qX8_setLocked : (mX8_setLocked.y.cls ≠ "java/lang/invoke/MethodHandle" ∧ mX8_setLocked.y.cls ≠ "java/lang/invoke/VarHandle") ∧ (parseMethodDescriptor mX8_setLocked.y.desc).map (fun d => d.parameters.length) = some 2 := by decide +kernel
set_option maxRecDepth 1000000 in
theorem kL_21 : zCalV RL 21 mX8_setLocked 2 := ⟨⟨w_769, w_38, w_772, qX8_setLocked.1, qX8_setLocked.2⟩, w_770, w_771, rfl⟩
set_option maxRecDepth 1000000 in
theorem w_796 : Cond.methodLink RL 25 yL_told ∈ zt := zt_at 796 rfl rfl
set_option maxRecDepth 1000000 in
theorem w_798 : mL_told.cond ∈ zt := zt_at 798 rfl rfl
set_option maxRecDepth 1000000 in
theorem w_797 : Cond.static yL_told ∈ zt := zt_at 797 rfl rfl
set_option maxRecDepth 1000000 in
theorem qL_told : (mL_told.y.cls ≠ "java/lang/invoke/MethodHandle" ∧ mL_told.y.cls ≠ "java/lang/invoke/VarHandle") ∧ (parseMethodDescriptor mL_told.y.desc).map (fun d => d.parameters.length) = some 1 := by decide +kernel
set_option maxRecDepth 1000000 in
theorem kL_25 : zCalS RL 25 mL_told 1 := ⟨⟨w_796, w_37, w_798, qL_told.1, qL_told.2⟩, w_797, rfl⟩
set_option maxRecDepth 1000000 in
theorem w_799 : Cond.methodLink RL 29 yX8_moveTo ∈ zt := zt_at 799 rfl rfl
set_option maxRecDepth 1000000 in
theorem w_802 : mX8_moveTo.cond ∈ zt := zt_at 802 rfl rfl
set_option maxRecDepth 1000000 in
theorem w_800 : Cond.instanceMethod yX8_moveTo ∈ zt := zt_at 800 rfl rfl
set_option maxRecDepth 1000000 in
theorem w_801 : Cond.selects RX8 yX8_moveTo yX8_moveTo ∈ zt := zt_at 801 rfl rfl
set_option maxRecDepth 1000000 in
theorem qX8_moveTo : (mX8_moveTo.y.cls ≠ "java/lang/invoke/MethodHandle" ∧ mX8_moveTo.y.cls ≠ "java/lang/invoke/VarHandle") ∧ (parseMethodDescriptor mX8_moveTo.y.desc).map (fun d => d.parameters.length) = some 3 := by decide +kernel
set_option maxRecDepth 1000000 in
theorem kL_29 : zCalV RL 29 mX8_moveTo 3 := ⟨⟨w_799, w_38, w_802, qX8_moveTo.1, qX8_moveTo.2⟩, w_800, w_801, rfl⟩
set_option maxRecDepth 1000000 in
theorem w_816 : Cond.methodLink RL 33 yX8_setText ∈ zt := zt_at 816 rfl rfl
set_option maxRecDepth 1000000 in
theorem w_819 : mX8_setText.cond ∈ zt := zt_at 819 rfl rfl
set_option maxRecDepth 1000000 in
theorem w_817 : Cond.instanceMethod yX8_setText ∈ zt := zt_at 817 rfl rfl
set_option maxRecDepth 1000000 in
theorem w_818 : Cond.selects RX8 yX8_setText yX8_setText ∈ zt := zt_at 818 rfl rfl
set_option maxRecDepth 1000000 in
theorem qX8_setText : (mX8_setText.y.cls ≠ "java/lang/invoke/MethodHandle" ∧ mX8_setText.y.cls ≠ "java/lang/invoke/VarHandle") ∧ (parseMethodDescriptor mX8_setText.y.desc).map (fun d => d.parameters.length) = some 2 := by decide +kernel
set_option maxRecDepth 1000000 in
theorem kL_33 : zCalV RL 33 mX8_setText 2 := ⟨⟨w_816, w_38, w_819, qX8_setText.1, qX8_setText.2⟩, w_817, w_818, rfl⟩
set_option maxRecDepth 1000000 in
theorem w_825 : Cond.methodLink RL 37 yX8_grow ∈ zt := zt_at 825 rfl rfl
set_option maxRecDepth 1000000 in
theorem w_828 : mX8_grow.cond ∈ zt := zt_at 828 rfl rfl
set_option maxRecDepth 1000000 in
theorem w_826 : Cond.instanceMethod yX8_grow ∈ zt := zt_at 826 rfl rfl
set_option maxRecDepth 1000000 in
theorem w_827 : Cond.selects RX8 yX8_grow yX8_grow ∈ zt := zt_at 827 rfl rfl
set_option maxRecDepth 1000000 in
theorem qX8_grow : (mX8_grow.y.cls ≠ "java/lang/invoke/MethodHandle" ∧ mX8_grow.y.cls ≠ "java/lang/invoke/VarHandle") ∧ (parseMethodDescriptor mX8_grow.y.desc).map (fun d => d.parameters.length) = some 1 := by decide +kernel
set_option maxRecDepth 1000000 in
theorem kL_37 : zCalV RL 37 mX8_grow 1 := ⟨⟨w_825, w_38, w_828, qX8_grow.1, qX8_grow.2⟩, w_826, w_827, rfl⟩
set_option maxRecDepth 1000000 in
theorem w_866 : Cond.methodLink RL 41 yX8_addWish ∈ zt := zt_at 866 rfl rfl
set_option maxRecDepth 1000000 in
theorem w_869 : mX8_addWish.cond ∈ zt := zt_at 869 rfl rfl
set_option maxRecDepth 1000000 in
theorem w_867 : Cond.instanceMethod yX8_addWish ∈ zt := zt_at 867 rfl rfl
set_option maxRecDepth 1000000 in
theorem w_868 : Cond.selects RX8 yX8_addWish yX8_addWish ∈ zt := zt_at 868 rfl rfl
set_option maxRecDepth 1000000 in
theorem qX8_addWish : (mX8_addWish.y.cls ≠ "java/lang/invoke/MethodHandle" ∧ mX8_addWish.y.cls ≠ "java/lang/invoke/VarHandle") ∧ (parseMethodDescriptor mX8_addWish.y.desc).map (fun d => d.parameters.length) = some 4 := by decide +kernel
set_option maxRecDepth 1000000 in
theorem kL_41 : zCalV RL 41 mX8_addWish 4 := ⟨⟨w_866, w_38, w_869, qX8_addWish.1, qX8_addWish.2⟩, w_867, w_868, rfl⟩
set_option maxRecDepth 1000000 in
theorem w_881 : Cond.methodLink RL 45 yX8_dropWish ∈ zt := zt_at 881 rfl rfl
set_option maxRecDepth 1000000 in
theorem w_884 : mX8_dropWish.cond ∈ zt := zt_at 884 rfl rfl
set_option maxRecDepth 1000000 in
theorem w_882 : Cond.instanceMethod yX8_dropWish ∈ zt := zt_at 882 rfl rfl
set_option maxRecDepth 1000000 in
theorem w_883 : Cond.selects RX8 yX8_dropWish yX8_dropWish ∈ zt := zt_at 883 rfl rfl
set_option maxRecDepth 1000000 in
theorem qX8_dropWish : (mX8_dropWish.y.cls ≠ "java/lang/invoke/MethodHandle" ∧ mX8_dropWish.y.cls ≠ "java/lang/invoke/VarHandle") ∧ (parseMethodDescriptor mX8_dropWish.y.desc).map (fun d => d.parameters.length) = some 1 := by decide +kernel
set_option maxRecDepth 1000000 in
theorem kL_45 : zCalV RL 45 mX8_dropWish 1 := ⟨⟨w_881, w_38, w_884, qX8_dropWish.1, qX8_dropWish.2⟩, w_882, w_883, rfl⟩
set_option maxRecDepth 1000000 in
theorem w_901 : Cond.methodLink RL 48 yX8_tidy ∈ zt := zt_at 901 rfl rfl
set_option maxRecDepth 1000000 in
theorem w_904 : mX8_tidy.cond ∈ zt := zt_at 904 rfl rfl
set_option maxRecDepth 1000000 in
theorem w_902 : Cond.instanceMethod yX8_tidy ∈ zt := zt_at 902 rfl rfl
set_option maxRecDepth 1000000 in
theorem w_903 : Cond.selects RX8 yX8_tidy yX8_tidy ∈ zt := zt_at 903 rfl rfl
set_option maxRecDepth 1000000 in
theorem qX8_tidy : (mX8_tidy.y.cls ≠ "java/lang/invoke/MethodHandle" ∧ mX8_tidy.y.cls ≠ "java/lang/invoke/VarHandle") ∧ (parseMethodDescriptor mX8_tidy.y.desc).map (fun d => d.parameters.length) = some 1 := by decide +kernel
set_option maxRecDepth 1000000 in
theorem kL_48 : zCalV RL 48 mX8_tidy 1 := ⟨⟨w_901, w_38, w_904, qX8_tidy.1, qX8_tidy.2⟩, w_902, w_903, rfl⟩
set_option maxRecDepth 1000000 in
theorem w_917 : Cond.methodLink RL 52 yX8_spread ∈ zt := zt_at 917 rfl rfl
set_option maxRecDepth 1000000 in
theorem w_920 : mX8_spread.cond ∈ zt := zt_at 920 rfl rfl
set_option maxRecDepth 1000000 in
theorem w_918 : Cond.instanceMethod yX8_spread ∈ zt := zt_at 918 rfl rfl
set_option maxRecDepth 1000000 in
theorem w_919 : Cond.selects RX8 yX8_spread yX8_spread ∈ zt := zt_at 919 rfl rfl
set_option maxRecDepth 1000000 in
theorem qX8_spread : (mX8_spread.y.cls ≠ "java/lang/invoke/MethodHandle" ∧ mX8_spread.y.cls ≠ "java/lang/invoke/VarHandle") ∧ (parseMethodDescriptor mX8_spread.y.desc).map (fun d => d.parameters.length) = some 1 := by decide +kernel
set_option maxRecDepth 1000000 in
theorem kL_52 : zCalV RL 52 mX8_spread 1 := ⟨⟨w_917, w_38, w_920, qX8_spread.1, qX8_spread.2⟩, w_918, w_919, rfl⟩
set_option maxRecDepth 1000000 in
theorem w_722 : Cond.methodLink RL 55 yL_plain ∈ zt := zt_at 722 rfl rfl
set_option maxRecDepth 1000000 in
theorem w_724 : mL_plain.cond ∈ zt := zt_at 724 rfl rfl
set_option maxRecDepth 1000000 in
theorem w_723 : Cond.static yL_plain ∈ zt := zt_at 723 rfl rfl
set_option maxRecDepth 1000000 in
theorem qL_plain : (mL_plain.y.cls ≠ "java/lang/invoke/MethodHandle" ∧ mL_plain.y.cls ≠ "java/lang/invoke/VarHandle") ∧ (parseMethodDescriptor mL_plain.y.desc).map (fun d => d.parameters.length) = some 6 := by decide +kernel
set_option maxRecDepth 1000000 in
theorem kL_55 : zCalS RL 55 mL_plain 6 := ⟨⟨w_722, w_37, w_724, qL_plain.1, qL_plain.2⟩, w_723, rfl⟩
set_option maxRecDepth 1000000 in
theorem w_944 : Cond.methodLink RL 69 yX8_startOf ∈ zt := zt_at 944 rfl rfl
set_option maxRecDepth 1000000 in
theorem w_947 : mX8_startOf.cond ∈ zt := zt_at 947 rfl rfl
set_option maxRecDepth 1000000 in
theorem w_945 : Cond.instanceMethod yX8_startOf ∈ zt := zt_at 945 rfl rfl
set_option maxRecDepth 1000000 in
theorem w_946 : Cond.selects RX8 yX8_startOf yX8_startOf ∈ zt := zt_at 946 rfl rfl
set_option maxRecDepth 1000000 in
theorem qX8_startOf : (mX8_startOf.y.cls ≠ "java/lang/invoke/MethodHandle" ∧ mX8_startOf.y.cls ≠ "java/lang/invoke/VarHandle") ∧ (parseMethodDescriptor mX8_startOf.y.desc).map (fun d => d.parameters.length) = some 2 := by decide +kernel
set_option maxRecDepth 1000000 in
theorem kL_69 : zCalV RL 69 mX8_startOf 2 := ⟨⟨w_944, w_38, w_947, qX8_startOf.1, qX8_startOf.2⟩, w_945, w_946, rfl⟩
set_option maxRecDepth 1000000 in
theorem w_948 : Cond.methodLink RL 73 yX8_sizeOf ∈ zt := zt_at 948 rfl rfl
set_option maxRecDepth 1000000 in
theorem w_951 : mX8_sizeOf.cond ∈ zt := zt_at 951 rfl rfl
set_option maxRecDepth 1000000 in
theorem w_949 : Cond.instanceMethod yX8_sizeOf ∈ zt := zt_at 949 rfl rfl
set_option maxRecDepth 1000000 in
theorem w_950 : Cond.selects RX8 yX8_sizeOf yX8_sizeOf ∈ zt := zt_at 950 rfl rfl
set_option maxRecDepth 1000000 in
theorem qX8_sizeOf : (mX8_sizeOf.y.cls ≠ "java/lang/invoke/MethodHandle" ∧ mX8_sizeOf.y.cls ≠ "java/lang/invoke/VarHandle") ∧ (parseMethodDescriptor mX8_sizeOf.y.desc).map (fun d => d.parameters.length) = some 2 := by decide +kernel
set_option maxRecDepth 1000000 in
theorem kL_73 : zCalV RL 73 mX8_sizeOf 2 := ⟨⟨w_948, w_38, w_951, qX8_sizeOf.1, qX8_sizeOf.2⟩, w_949, w_950, rfl⟩
set_option maxRecDepth 1000000 in
theorem w_952 : Cond.methodLink RL 76 yX8_moveReason ∈ zt := zt_at 952 rfl rfl
set_option maxRecDepth 1000000 in
theorem w_955 : mX8_moveReason.cond ∈ zt := zt_at 955 rfl rfl
set_option maxRecDepth 1000000 in
theorem w_953 : Cond.instanceMethod yX8_moveReason ∈ zt := zt_at 953 rfl rfl
set_option maxRecDepth 1000000 in
theorem w_954 : Cond.selects RX8 yX8_moveReason yX8_moveReason ∈ zt := zt_at 954 rfl rfl
set_option maxRecDepth 1000000 in
theorem qX8_moveReason : (mX8_moveReason.y.cls ≠ "java/lang/invoke/MethodHandle" ∧ mX8_moveReason.y.cls ≠ "java/lang/invoke/VarHandle") ∧ (parseMethodDescriptor mX8_moveReason.y.desc).map (fun d => d.parameters.length) = some 3 := by decide +kernel
set_option maxRecDepth 1000000 in
theorem kL_76 : zCalV RL 76 mX8_moveReason 3 := ⟨⟨w_952, w_38, w_955, qX8_moveReason.1, qX8_moveReason.2⟩, w_953, w_954, rfl⟩
set_option maxRecDepth 1000000 in
theorem w_956 : Cond.methodLink RL 80 yX8_fits ∈ zt := zt_at 956 rfl rfl
set_option maxRecDepth 1000000 in
theorem w_959 : mX8_fits.cond ∈ zt := zt_at 959 rfl rfl
set_option maxRecDepth 1000000 in
theorem w_957 : Cond.instanceMethod yX8_fits ∈ zt := zt_at 957 rfl rfl
set_option maxRecDepth 1000000 in
theorem w_958 : Cond.selects RX8 yX8_fits yX8_fits ∈ zt := zt_at 958 rfl rfl
set_option maxRecDepth 1000000 in
theorem qX8_fits : (mX8_fits.y.cls ≠ "java/lang/invoke/MethodHandle" ∧ mX8_fits.y.cls ≠ "java/lang/invoke/VarHandle") ∧ (parseMethodDescriptor mX8_fits.y.desc).map (fun d => d.parameters.length) = some 1 := by decide +kernel
set_option maxRecDepth 1000000 in
theorem kL_80 : zCalV RL 80 mX8_fits 1 := ⟨⟨w_956, w_38, w_959, qX8_fits.1, qX8_fits.2⟩, w_957, w_958, rfl⟩
set_option maxRecDepth 1000000 in
theorem w_960 : Cond.methodLink RL 84 yX8_growReason ∈ zt := zt_at 960 rfl rfl
set_option maxRecDepth 1000000 in
theorem w_963 : mX8_growReason.cond ∈ zt := zt_at 963 rfl rfl
set_option maxRecDepth 1000000 in
theorem w_961 : Cond.instanceMethod yX8_growReason ∈ zt := zt_at 961 rfl rfl
set_option maxRecDepth 1000000 in
theorem w_962 : Cond.selects RX8 yX8_growReason yX8_growReason ∈ zt := zt_at 962 rfl rfl
set_option maxRecDepth 1000000 in
theorem qX8_growReason : (mX8_growReason.y.cls ≠ "java/lang/invoke/MethodHandle" ∧ mX8_growReason.y.cls ≠ "java/lang/invoke/VarHandle") ∧ (parseMethodDescriptor mX8_growReason.y.desc).map (fun d => d.parameters.length) = some 1 := by decide +kernel
set_option maxRecDepth 1000000 in
theorem kL_84 : zCalV RL 84 mX8_growReason 1 := ⟨⟨w_960, w_38, w_963, qX8_growReason.1, qX8_growReason.2⟩, w_961, w_962, rfl⟩
set_option maxRecDepth 1000000 in
theorem w_964 : Cond.methodLink RL 88 yX8_inTheWay ∈ zt := zt_at 964 rfl rfl
set_option maxRecDepth 1000000 in
theorem w_967 : mX8_inTheWay.cond ∈ zt := zt_at 967 rfl rfl
set_option maxRecDepth 1000000 in
theorem w_965 : Cond.instanceMethod yX8_inTheWay ∈ zt := zt_at 965 rfl rfl
set_option maxRecDepth 1000000 in
theorem w_966 : Cond.selects RX8 yX8_inTheWay yX8_inTheWay ∈ zt := zt_at 966 rfl rfl
set_option maxRecDepth 1000000 in
theorem qX8_inTheWay : (mX8_inTheWay.y.cls ≠ "java/lang/invoke/MethodHandle" ∧ mX8_inTheWay.y.cls ≠ "java/lang/invoke/VarHandle") ∧ (parseMethodDescriptor mX8_inTheWay.y.desc).map (fun d => d.parameters.length) = some 1 := by decide +kernel
set_option maxRecDepth 1000000 in
theorem kL_88 : zCalV RL 88 mX8_inTheWay 1 := ⟨⟨w_964, w_38, w_967, qX8_inTheWay.1, qX8_inTheWay.2⟩, w_965, w_966, rfl⟩
set_option maxRecDepth 1000000 in
theorem w_970 : Cond.methodLink RL 91 yX8_isMet ∈ zt := zt_at 970 rfl rfl
set_option maxRecDepth 1000000 in
theorem w_973 : mX8_isMet.cond ∈ zt := zt_at 973 rfl rfl
set_option maxRecDepth 1000000 in
theorem w_971 : Cond.instanceMethod yX8_isMet ∈ zt := zt_at 971 rfl rfl
set_option maxRecDepth 1000000 in
theorem w_972 : Cond.selects RX8 yX8_isMet yX8_isMet ∈ zt := zt_at 972 rfl rfl
set_option maxRecDepth 1000000 in
theorem qX8_isMet : (mX8_isMet.y.cls ≠ "java/lang/invoke/MethodHandle" ∧ mX8_isMet.y.cls ≠ "java/lang/invoke/VarHandle") ∧ (parseMethodDescriptor mX8_isMet.y.desc).map (fun d => d.parameters.length) = some 1 := by decide +kernel
set_option maxRecDepth 1000000 in
theorem kL_91 : zCalV RL 91 mX8_isMet 1 := ⟨⟨w_970, w_38, w_973, qX8_isMet.1, qX8_isMet.2⟩, w_971, w_972, rfl⟩
set_option maxRecDepth 1000000 in
theorem w_986 : Cond.methodLink RL 94 yX8_strength ∈ zt := zt_at 986 rfl rfl
set_option maxRecDepth 1000000 in
theorem w_989 : mX8_strength.cond ∈ zt := zt_at 989 rfl rfl
set_option maxRecDepth 1000000 in
theorem w_987 : Cond.instanceMethod yX8_strength ∈ zt := zt_at 987 rfl rfl
set_option maxRecDepth 1000000 in
theorem w_988 : Cond.selects RX8 yX8_strength yX8_strength ∈ zt := zt_at 988 rfl rfl
set_option maxRecDepth 1000000 in
theorem qX8_strength : (mX8_strength.y.cls ≠ "java/lang/invoke/MethodHandle" ∧ mX8_strength.y.cls ≠ "java/lang/invoke/VarHandle") ∧ (parseMethodDescriptor mX8_strength.y.desc).map (fun d => d.parameters.length) = some 1 := by decide +kernel
set_option maxRecDepth 1000000 in
theorem kL_94 : zCalV RL 94 mX8_strength 1 := ⟨⟨w_986, w_38, w_989, qX8_strength.1, qX8_strength.2⟩, w_987, w_988, rfl⟩
set_option maxRecDepth 1000000 in
theorem w_991 : Cond.methodLink RL 97 yX8_snaps ∈ zt := zt_at 991 rfl rfl
set_option maxRecDepth 1000000 in
theorem w_994 : mX8_snaps.cond ∈ zt := zt_at 994 rfl rfl
set_option maxRecDepth 1000000 in
theorem w_992 : Cond.instanceMethod yX8_snaps ∈ zt := zt_at 992 rfl rfl
set_option maxRecDepth 1000000 in
theorem w_993 : Cond.selects RX8 yX8_snaps yX8_snaps ∈ zt := zt_at 993 rfl rfl
set_option maxRecDepth 1000000 in
theorem qX8_snaps : (mX8_snaps.y.cls ≠ "java/lang/invoke/MethodHandle" ∧ mX8_snaps.y.cls ≠ "java/lang/invoke/VarHandle") ∧ (parseMethodDescriptor mX8_snaps.y.desc).map (fun d => d.parameters.length) = some 2 := by decide +kernel
set_option maxRecDepth 1000000 in
theorem kL_97 : zCalV RL 97 mX8_snaps 2 := ⟨⟨w_991, w_38, w_994, qX8_snaps.1, qX8_snaps.2⟩, w_992, w_993, rfl⟩
set_option maxRecDepth 1000000 in
theorem w_997 : Cond.methodLink RL 100 yX8_bestStrength ∈ zt := zt_at 997 rfl rfl
set_option maxRecDepth 1000000 in
theorem w_1000 : mX8_bestStrength.cond ∈ zt := zt_at 1000 rfl rfl
set_option maxRecDepth 1000000 in
theorem w_998 : Cond.instanceMethod yX8_bestStrength ∈ zt := zt_at 998 rfl rfl
set_option maxRecDepth 1000000 in
theorem w_999 : Cond.selects RX8 yX8_bestStrength yX8_bestStrength ∈ zt := zt_at 999 rfl rfl
set_option maxRecDepth 1000000 in
theorem qX8_bestStrength : (mX8_bestStrength.y.cls ≠ "java/lang/invoke/MethodHandle" ∧ mX8_bestStrength.y.cls ≠ "java/lang/invoke/VarHandle") ∧ (parseMethodDescriptor mX8_bestStrength.y.desc).map (fun d => d.parameters.length) = some 1 := by decide +kernel
set_option maxRecDepth 1000000 in
theorem kL_100 : zCalV RL 100 mX8_bestStrength 1 := ⟨⟨w_997, w_38, w_1000, qX8_bestStrength.1, qX8_bestStrength.2⟩, w_998, w_999, rfl⟩
set_option maxRecDepth 1000000 in
theorem w_1001 : Cond.methodLink RL 103 yX8_bestByAll ∈ zt := zt_at 1001 rfl rfl
set_option maxRecDepth 1000000 in
theorem w_1004 : mX8_bestByAll.cond ∈ zt := zt_at 1004 rfl rfl
set_option maxRecDepth 1000000 in
theorem w_1002 : Cond.instanceMethod yX8_bestByAll ∈ zt := zt_at 1002 rfl rfl
set_option maxRecDepth 1000000 in
theorem w_1003 : Cond.selects RX8 yX8_bestByAll yX8_bestByAll ∈ zt := zt_at 1003 rfl rfl
set_option maxRecDepth 1000000 in
theorem qX8_bestByAll : (mX8_bestByAll.y.cls ≠ "java/lang/invoke/MethodHandle" ∧ mX8_bestByAll.y.cls ≠ "java/lang/invoke/VarHandle") ∧ (parseMethodDescriptor mX8_bestByAll.y.desc).map (fun d => d.parameters.length) = some 1 := by decide +kernel
set_option maxRecDepth 1000000 in
theorem kL_103 : zCalV RL 103 mX8_bestByAll 1 := ⟨⟨w_1001, w_38, w_1004, qX8_bestByAll.1, qX8_bestByAll.2⟩, w_1002, w_1003, rfl⟩
set_option maxRecDepth 1000000 in
theorem w_1005 : Cond.methodLink RL 106 yX8_tidyCost ∈ zt := zt_at 1005 rfl rfl
set_option maxRecDepth 1000000 in
theorem w_1008 : mX8_tidyCost.cond ∈ zt := zt_at 1008 rfl rfl
set_option maxRecDepth 1000000 in
theorem w_1006 : Cond.instanceMethod yX8_tidyCost ∈ zt := zt_at 1006 rfl rfl
set_option maxRecDepth 1000000 in
theorem w_1007 : Cond.selects RX8 yX8_tidyCost yX8_tidyCost ∈ zt := zt_at 1007 rfl rfl
set_option maxRecDepth 1000000 in
theorem qX8_tidyCost : (mX8_tidyCost.y.cls ≠ "java/lang/invoke/MethodHandle" ∧ mX8_tidyCost.y.cls ≠ "java/lang/invoke/VarHandle") ∧ (parseMethodDescriptor mX8_tidyCost.y.desc).map (fun d => d.parameters.length) = some 1 := by decide +kernel
set_option maxRecDepth 1000000 in
theorem kL_106 : zCalV RL 106 mX8_tidyCost 1 := ⟨⟨w_1005, w_38, w_1008, qX8_tidyCost.1, qX8_tidyCost.2⟩, w_1006, w_1007, rfl⟩
set_option maxRecDepth 1000000 in
theorem w_1009 : Cond.methodLink RL 109 yX8_tidyStart ∈ zt := zt_at 1009 rfl rfl
set_option maxRecDepth 1000000 in
theorem w_1012 : mX8_tidyStart.cond ∈ zt := zt_at 1012 rfl rfl
set_option maxRecDepth 1000000 in
theorem w_1010 : Cond.instanceMethod yX8_tidyStart ∈ zt := zt_at 1010 rfl rfl
set_option maxRecDepth 1000000 in
theorem w_1011 : Cond.selects RX8 yX8_tidyStart yX8_tidyStart ∈ zt := zt_at 1011 rfl rfl
set_option maxRecDepth 1000000 in
theorem qX8_tidyStart : (mX8_tidyStart.y.cls ≠ "java/lang/invoke/MethodHandle" ∧ mX8_tidyStart.y.cls ≠ "java/lang/invoke/VarHandle") ∧ (parseMethodDescriptor mX8_tidyStart.y.desc).map (fun d => d.parameters.length) = some 2 := by decide +kernel
set_option maxRecDepth 1000000 in
theorem kL_109 : zCalV RL 109 mX8_tidyStart 2 := ⟨⟨w_1009, w_38, w_1012, qX8_tidyStart.1, qX8_tidyStart.2⟩, w_1010, w_1011, rfl⟩
set_option maxRecDepth 1000000 in
theorem w_1013 : Cond.methodLink RL 112 yX8_evenCost ∈ zt := zt_at 1013 rfl rfl
set_option maxRecDepth 1000000 in
theorem w_1016 : mX8_evenCost.cond ∈ zt := zt_at 1016 rfl rfl
set_option maxRecDepth 1000000 in
theorem w_1014 : Cond.instanceMethod yX8_evenCost ∈ zt := zt_at 1014 rfl rfl
set_option maxRecDepth 1000000 in
theorem w_1015 : Cond.selects RX8 yX8_evenCost yX8_evenCost ∈ zt := zt_at 1015 rfl rfl
set_option maxRecDepth 1000000 in
theorem qX8_evenCost : (mX8_evenCost.y.cls ≠ "java/lang/invoke/MethodHandle" ∧ mX8_evenCost.y.cls ≠ "java/lang/invoke/VarHandle") ∧ (parseMethodDescriptor mX8_evenCost.y.desc).map (fun d => d.parameters.length) = some 1 := by decide +kernel
set_option maxRecDepth 1000000 in
theorem kL_112 : zCalV RL 112 mX8_evenCost 1 := ⟨⟨w_1013, w_38, w_1016, qX8_evenCost.1, qX8_evenCost.2⟩, w_1014, w_1015, rfl⟩
set_option maxRecDepth 1000000 in
theorem w_1017 : Cond.methodLink RL 115 yX8_evenByAll ∈ zt := zt_at 1017 rfl rfl
set_option maxRecDepth 1000000 in
theorem w_1020 : mX8_evenByAll.cond ∈ zt := zt_at 1020 rfl rfl
set_option maxRecDepth 1000000 in
theorem w_1018 : Cond.instanceMethod yX8_evenByAll ∈ zt := zt_at 1018 rfl rfl
set_option maxRecDepth 1000000 in
theorem w_1019 : Cond.selects RX8 yX8_evenByAll yX8_evenByAll ∈ zt := zt_at 1019 rfl rfl
set_option maxRecDepth 1000000 in
theorem qX8_evenByAll : (mX8_evenByAll.y.cls ≠ "java/lang/invoke/MethodHandle" ∧ mX8_evenByAll.y.cls ≠ "java/lang/invoke/VarHandle") ∧ (parseMethodDescriptor mX8_evenByAll.y.desc).map (fun d => d.parameters.length) = some 1 := by decide +kernel
set_option maxRecDepth 1000000 in
theorem kL_115 : zCalV RL 115 mX8_evenByAll 1 := ⟨⟨w_1017, w_38, w_1020, qX8_evenByAll.1, qX8_evenByAll.2⟩, w_1018, w_1019, rfl⟩
set_option maxRecDepth 1000000 in
theorem w_1021 : Cond.methodLink RL 118 yX8_guides ∈ zt := zt_at 1021 rfl rfl
set_option maxRecDepth 1000000 in
theorem w_1024 : mX8_guides.cond ∈ zt := zt_at 1024 rfl rfl
set_option maxRecDepth 1000000 in
theorem w_1022 : Cond.instanceMethod yX8_guides ∈ zt := zt_at 1022 rfl rfl
set_option maxRecDepth 1000000 in
theorem w_1023 : Cond.selects RX8 yX8_guides yX8_guides ∈ zt := zt_at 1023 rfl rfl
set_option maxRecDepth 1000000 in
theorem qX8_guides : (mX8_guides.y.cls ≠ "java/lang/invoke/MethodHandle" ∧ mX8_guides.y.cls ≠ "java/lang/invoke/VarHandle") ∧ (parseMethodDescriptor mX8_guides.y.desc).map (fun d => d.parameters.length) = some 1 := by decide +kernel
set_option maxRecDepth 1000000 in
theorem kL_118 : zCalV RL 118 mX8_guides 1 := ⟨⟨w_1021, w_38, w_1024, qX8_guides.1, qX8_guides.2⟩, w_1022, w_1023, rfl⟩
set_option maxRecDepth 1000000 in
theorem w_1034 : Cond.methodLink RL 121 yX8_guideAt ∈ zt := zt_at 1034 rfl rfl
set_option maxRecDepth 1000000 in
theorem w_1037 : mX8_guideAt.cond ∈ zt := zt_at 1037 rfl rfl
set_option maxRecDepth 1000000 in
theorem w_1035 : Cond.instanceMethod yX8_guideAt ∈ zt := zt_at 1035 rfl rfl
set_option maxRecDepth 1000000 in
theorem w_1036 : Cond.selects RX8 yX8_guideAt yX8_guideAt ∈ zt := zt_at 1036 rfl rfl
set_option maxRecDepth 1000000 in
theorem qX8_guideAt : (mX8_guideAt.y.cls ≠ "java/lang/invoke/MethodHandle" ∧ mX8_guideAt.y.cls ≠ "java/lang/invoke/VarHandle") ∧ (parseMethodDescriptor mX8_guideAt.y.desc).map (fun d => d.parameters.length) = some 2 := by decide +kernel
set_option maxRecDepth 1000000 in
theorem kL_121 : zCalV RL 121 mX8_guideAt 2 := ⟨⟨w_1034, w_38, w_1037, qX8_guideAt.1, qX8_guideAt.2⟩, w_1035, w_1036, rfl⟩
set_option maxRecDepth 1000000 in
theorem w_1039 : Cond.methodLink RL 125 yX8_distance ∈ zt := zt_at 1039 rfl rfl
set_option maxRecDepth 1000000 in
theorem w_1042 : mX8_distance.cond ∈ zt := zt_at 1042 rfl rfl
set_option maxRecDepth 1000000 in
theorem w_1040 : Cond.instanceMethod yX8_distance ∈ zt := zt_at 1040 rfl rfl
set_option maxRecDepth 1000000 in
theorem w_1041 : Cond.selects RX8 yX8_distance yX8_distance ∈ zt := zt_at 1041 rfl rfl
set_option maxRecDepth 1000000 in
theorem qX8_distance : (mX8_distance.y.cls ≠ "java/lang/invoke/MethodHandle" ∧ mX8_distance.y.cls ≠ "java/lang/invoke/VarHandle") ∧ (parseMethodDescriptor mX8_distance.y.desc).map (fun d => d.parameters.length) = some 2 := by decide +kernel
set_option maxRecDepth 1000000 in
theorem kL_125 : zCalV RL 125 mX8_distance 2 := ⟨⟨w_1039, w_38, w_1042, qX8_distance.1, qX8_distance.2⟩, w_1040, w_1041, rfl⟩
set_option maxRecDepth 1000000 in
theorem w_1045 : Cond.methodLink RL 128 yX8_groups ∈ zt := zt_at 1045 rfl rfl
set_option maxRecDepth 1000000 in
theorem w_1048 : mX8_groups.cond ∈ zt := zt_at 1048 rfl rfl
set_option maxRecDepth 1000000 in
theorem w_1046 : Cond.instanceMethod yX8_groups ∈ zt := zt_at 1046 rfl rfl
set_option maxRecDepth 1000000 in
theorem w_1047 : Cond.selects RX8 yX8_groups yX8_groups ∈ zt := zt_at 1047 rfl rfl
set_option maxRecDepth 1000000 in
theorem qX8_groups : (mX8_groups.y.cls ≠ "java/lang/invoke/MethodHandle" ∧ mX8_groups.y.cls ≠ "java/lang/invoke/VarHandle") ∧ (parseMethodDescriptor mX8_groups.y.desc).map (fun d => d.parameters.length) = some 1 := by decide +kernel
set_option maxRecDepth 1000000 in
theorem kL_128 : zCalV RL 128 mX8_groups 1 := ⟨⟨w_1045, w_38, w_1048, qX8_groups.1, qX8_groups.2⟩, w_1046, w_1047, rfl⟩
set_option maxRecDepth 1000000 in
theorem w_1054 : Cond.methodLink RL 131 yX8_groupsByLinks ∈ zt := zt_at 1054 rfl rfl
set_option maxRecDepth 1000000 in
theorem w_1057 : mX8_groupsByLinks.cond ∈ zt := zt_at 1057 rfl rfl
set_option maxRecDepth 1000000 in
theorem w_1055 : Cond.instanceMethod yX8_groupsByLinks ∈ zt := zt_at 1055 rfl rfl
set_option maxRecDepth 1000000 in
theorem w_1056 : Cond.selects RX8 yX8_groupsByLinks yX8_groupsByLinks ∈ zt := zt_at 1056 rfl rfl
set_option maxRecDepth 1000000 in
theorem qX8_groupsByLinks : (mX8_groupsByLinks.y.cls ≠ "java/lang/invoke/MethodHandle" ∧ mX8_groupsByLinks.y.cls ≠ "java/lang/invoke/VarHandle") ∧ (parseMethodDescriptor mX8_groupsByLinks.y.desc).map (fun d => d.parameters.length) = some 1 := by decide +kernel
set_option maxRecDepth 1000000 in
theorem kL_131 : zCalV RL 131 mX8_groupsByLinks 1 := ⟨⟨w_1054, w_38, w_1057, qX8_groupsByLinks.1, qX8_groupsByLinks.2⟩, w_1055, w_1056, rfl⟩
set_option maxRecDepth 1000000 in
theorem w_1058 : Cond.methodLink RL 134 yX8_groupOf ∈ zt := zt_at 1058 rfl rfl
set_option maxRecDepth 1000000 in
theorem w_1061 : mX8_groupOf.cond ∈ zt := zt_at 1061 rfl rfl
set_option maxRecDepth 1000000 in
theorem w_1059 : Cond.instanceMethod yX8_groupOf ∈ zt := zt_at 1059 rfl rfl
set_option maxRecDepth 1000000 in
theorem w_1060 : Cond.selects RX8 yX8_groupOf yX8_groupOf ∈ zt := zt_at 1060 rfl rfl
set_option maxRecDepth 1000000 in
theorem qX8_groupOf : (mX8_groupOf.y.cls ≠ "java/lang/invoke/MethodHandle" ∧ mX8_groupOf.y.cls ≠ "java/lang/invoke/VarHandle") ∧ (parseMethodDescriptor mX8_groupOf.y.desc).map (fun d => d.parameters.length) = some 2 := by decide +kernel
set_option maxRecDepth 1000000 in
theorem kL_134 : zCalV RL 134 mX8_groupOf 2 := ⟨⟨w_1058, w_38, w_1061, qX8_groupOf.1, qX8_groupOf.2⟩, w_1059, w_1060, rfl⟩
set_option maxRecDepth 1000000 in
theorem w_941 : Cond.methodLink RL 137 yL_asked ∈ zt := zt_at 941 rfl rfl
set_option maxRecDepth 1000000 in
theorem w_943 : mL_asked.cond ∈ zt := zt_at 943 rfl rfl
set_option maxRecDepth 1000000 in
theorem w_942 : Cond.static yL_asked ∈ zt := zt_at 942 rfl rfl
set_option maxRecDepth 1000000 in
theorem qL_asked : (mL_asked.y.cls ≠ "java/lang/invoke/MethodHandle" ∧ mL_asked.y.cls ≠ "java/lang/invoke/VarHandle") ∧ (parseMethodDescriptor mL_asked.y.desc).map (fun d => d.parameters.length) = some 5 := by decide +kernel
set_option maxRecDepth 1000000 in
theorem kL_137 : zCalS RL 137 mL_asked 5 := ⟨⟨w_941, w_37, w_943, qL_asked.1, qL_asked.2⟩, w_942, rfl⟩
set_option maxRecDepth 1000000 in
theorem w_680 : Cond.methodLink RL 141 yL_pick ∈ zt := zt_at 680 rfl rfl
set_option maxRecDepth 1000000 in
theorem w_682 : mL_pick.cond ∈ zt := zt_at 682 rfl rfl
set_option maxRecDepth 1000000 in
theorem w_681 : Cond.static yL_pick ∈ zt := zt_at 681 rfl rfl
set_option maxRecDepth 1000000 in
theorem qL_pick : (mL_pick.y.cls ≠ "java/lang/invoke/MethodHandle" ∧ mL_pick.y.cls ≠ "java/lang/invoke/VarHandle") ∧ (parseMethodDescriptor mL_pick.y.desc).map (fun d => d.parameters.length) = some 3 := by decide +kernel
set_option maxRecDepth 1000000 in
theorem kL_141 : zCalS RL 141 mL_pick 3 := ⟨⟨w_680, w_37, w_682, qL_pick.1, qL_pick.2⟩, w_681, rfl⟩
set_option maxRecDepth 1000000 in
theorem w_691 : Cond.methodLink RL 145 yL_deed ∈ zt := zt_at 691 rfl rfl
set_option maxRecDepth 1000000 in
theorem w_693 : mL_deed.cond ∈ zt := zt_at 693 rfl rfl
set_option maxRecDepth 1000000 in
theorem w_692 : Cond.static yL_deed ∈ zt := zt_at 692 rfl rfl
set_option maxRecDepth 1000000 in
theorem qL_deed : (mL_deed.y.cls ≠ "java/lang/invoke/MethodHandle" ∧ mL_deed.y.cls ≠ "java/lang/invoke/VarHandle") ∧ (parseMethodDescriptor mL_deed.y.desc).map (fun d => d.parameters.length) = some 6 := by decide +kernel
set_option maxRecDepth 1000000 in
theorem kL_145 : zCalSW RL 145 mL_deed 6 [(0, 11, 12, 59), (0, 11, 18, 61), (0, 11, 24, 63), (0, 11, 30, 65), (0, 11, 36, 67)] := ⟨⟨w_691, w_37, w_693, qL_deed.1, qL_deed.2⟩, w_692, rfl⟩
set_option maxRecDepth 1000000 in
theorem w_1072 : Cond.methodLink RL 148 yL_axis ∈ zt := zt_at 1072 rfl rfl
set_option maxRecDepth 1000000 in
theorem w_1074 : mL_axis.cond ∈ zt := zt_at 1074 rfl rfl
set_option maxRecDepth 1000000 in
theorem w_1073 : Cond.static yL_axis ∈ zt := zt_at 1073 rfl rfl
set_option maxRecDepth 1000000 in
theorem qL_axis : (mL_axis.y.cls ≠ "java/lang/invoke/MethodHandle" ∧ mL_axis.y.cls ≠ "java/lang/invoke/VarHandle") ∧ (parseMethodDescriptor mL_axis.y.desc).map (fun d => d.parameters.length) = some 1 := by decide +kernel
set_option maxRecDepth 1000000 in
theorem kL_148 : zCalS RL 148 mL_axis 1 := ⟨⟨w_1072, w_37, w_1074, qL_axis.1, qL_axis.2⟩, w_1073, rfl⟩
set_option maxRecDepth 1000000 in
theorem w_938 : Cond.methodLink RL 151 yL_ask ∈ zt := zt_at 938 rfl rfl
set_option maxRecDepth 1000000 in
theorem w_940 : mL_ask.cond ∈ zt := zt_at 940 rfl rfl
set_option maxRecDepth 1000000 in
theorem w_939 : Cond.static yL_ask ∈ zt := zt_at 939 rfl rfl
set_option maxRecDepth 1000000 in
theorem qL_ask : (mL_ask.y.cls ≠ "java/lang/invoke/MethodHandle" ∧ mL_ask.y.cls ≠ "java/lang/invoke/VarHandle") ∧ (parseMethodDescriptor mL_ask.y.desc).map (fun d => d.parameters.length) = some 5 := by decide +kernel
set_option maxRecDepth 1000000 in
theorem kL_151 : zCalSW RL 151 mL_ask 5 [(0, 9, 10, 59), (0, 9, 16, 61), (0, 9, 22, 67)] := ⟨⟨w_938, w_37, w_940, qL_ask.1, qL_ask.2⟩, w_939, rfl⟩
set_option maxRecDepth 1000000 in
theorem w_1069 : Cond.methodLink RL 154 yL_start ∈ zt := zt_at 1069 rfl rfl
set_option maxRecDepth 1000000 in
theorem w_1071 : mL_start.cond ∈ zt := zt_at 1071 rfl rfl
set_option maxRecDepth 1000000 in
theorem w_1070 : Cond.static yL_start ∈ zt := zt_at 1070 rfl rfl
set_option maxRecDepth 1000000 in
theorem qL_start : (mL_start.y.cls ≠ "java/lang/invoke/MethodHandle" ∧ mL_start.y.cls ≠ "java/lang/invoke/VarHandle") ∧ (parseMethodDescriptor mL_start.y.desc).map (fun d => d.parameters.length) = some 3 := by decide +kernel
set_option maxRecDepth 1000000 in
theorem kL_154 : zCalS RL 154 mL_start 3 := ⟨⟨w_1069, w_37, w_1071, qL_start.1, qL_start.2⟩, w_1070, rfl⟩
set_option maxRecDepth 1000000 in
theorem w_1078 : Cond.methodLink RL 158 yL_size ∈ zt := zt_at 1078 rfl rfl
set_option maxRecDepth 1000000 in
theorem w_1080 : mL_size.cond ∈ zt := zt_at 1080 rfl rfl
set_option maxRecDepth 1000000 in
theorem w_1079 : Cond.static yL_size ∈ zt := zt_at 1079 rfl rfl
set_option maxRecDepth 1000000 in
theorem qL_size : (mL_size.y.cls ≠ "java/lang/invoke/MethodHandle" ∧ mL_size.y.cls ≠ "java/lang/invoke/VarHandle") ∧ (parseMethodDescriptor mL_size.y.desc).map (fun d => d.parameters.length) = some 3 := by decide +kernel
set_option maxRecDepth 1000000 in
theorem kL_158 : zCalS RL 158 mL_size 3 := ⟨⟨w_1078, w_37, w_1080, qL_size.1, qL_size.2⟩, w_1079, rfl⟩
set_option maxRecDepth 1000000 in
theorem w_1088 : Cond.methodLink RL 166 yX8_moved ∈ zt := zt_at 1088 rfl rfl
set_option maxRecDepth 1000000 in
theorem w_1091 : mX8_moved.cond ∈ zt := zt_at 1091 rfl rfl
set_option maxRecDepth 1000000 in
theorem w_1089 : Cond.instanceMethod yX8_moved ∈ zt := zt_at 1089 rfl rfl
set_option maxRecDepth 1000000 in
theorem w_1090 : Cond.selects RX8 yX8_moved yX8_moved ∈ zt := zt_at 1090 rfl rfl
set_option maxRecDepth 1000000 in
theorem qX8_moved : (mX8_moved.y.cls ≠ "java/lang/invoke/MethodHandle" ∧ mX8_moved.y.cls ≠ "java/lang/invoke/VarHandle") ∧ (parseMethodDescriptor mX8_moved.y.desc).map (fun d => d.parameters.length) = some 0 := by decide +kernel
set_option maxRecDepth 1000000 in
theorem kL_166 : zCalV RL 166 mX8_moved 0 := ⟨⟨w_1088, w_38, w_1091, qX8_moved.1, qX8_moved.2⟩, w_1089, w_1090, rfl⟩
set_option maxRecDepth 1000000 in
theorem w_60 : Cond.methodLink RL 170 yX8_init ∈ zt := zt_at 60 rfl rfl
set_option maxRecDepth 1000000 in
theorem w_62 : mX8_init.cond ∈ zt := zt_at 62 rfl rfl
set_option maxRecDepth 1000000 in
theorem w_61 : Cond.instanceMethod yX8_init ∈ zt := zt_at 61 rfl rfl
set_option maxRecDepth 1000000 in
theorem qX8_init : (mX8_init.y.cls ≠ "java/lang/invoke/MethodHandle" ∧ mX8_init.y.cls ≠ "java/lang/invoke/VarHandle") ∧ (parseMethodDescriptor mX8_init.y.desc).map (fun d => d.parameters.length) = some 0 := by decide +kernel
set_option maxRecDepth 1000000 in
theorem kL_170 : zCalI RL 170 mX8_init 0 := ⟨⟨w_60, w_38, w_62, qX8_init.1, qX8_init.2⟩, w_61, rfl, rfl⟩
set_option maxRecDepth 1000000 in
theorem w_1075 : Cond.methodLink RL 171 yL_areOn ∈ zt := zt_at 1075 rfl rfl
set_option maxRecDepth 1000000 in
theorem w_1077 : mL_areOn.cond ∈ zt := zt_at 1077 rfl rfl
set_option maxRecDepth 1000000 in
theorem w_1076 : Cond.static yL_areOn ∈ zt := zt_at 1076 rfl rfl
set_option maxRecDepth 1000000 in
theorem qL_areOn : (mL_areOn.y.cls ≠ "java/lang/invoke/MethodHandle" ∧ mL_areOn.y.cls ≠ "java/lang/invoke/VarHandle") ∧ (parseMethodDescriptor mL_areOn.y.desc).map (fun d => d.parameters.length) = some 2 := by decide +kernel
set_option maxRecDepth 1000000 in
theorem kL_171 : zCalS RL 171 mL_areOn 2 := ⟨⟨w_1075, w_37, w_1077, qL_areOn.1, qL_areOn.2⟩, w_1076, rfl⟩
set_option maxRecDepth 1000000 in
theorem w_1081 : Cond.methodLink RL 175 yL_areWays ∈ zt := zt_at 1081 rfl rfl
set_option maxRecDepth 1000000 in
theorem w_1083 : mL_areWays.cond ∈ zt := zt_at 1083 rfl rfl
set_option maxRecDepth 1000000 in
theorem w_1082 : Cond.static yL_areWays ∈ zt := zt_at 1082 rfl rfl
set_option maxRecDepth 1000000 in
theorem qL_areWays : (mL_areWays.y.cls ≠ "java/lang/invoke/MethodHandle" ∧ mL_areWays.y.cls ≠ "java/lang/invoke/VarHandle") ∧ (parseMethodDescriptor mL_areWays.y.desc).map (fun d => d.parameters.length) = some 1 := by decide +kernel
set_option maxRecDepth 1000000 in
theorem kL_175 : zCalS RL 175 mL_areWays 1 := ⟨⟨w_1081, w_37, w_1083, qL_areWays.1, qL_areWays.2⟩, w_1082, rfl⟩
set_option maxRecDepth 1000000 in
theorem w_1084 : Cond.methodLink RL 179 yL_isTidied ∈ zt := zt_at 1084 rfl rfl
set_option maxRecDepth 1000000 in
theorem w_1086 : mL_isTidied.cond ∈ zt := zt_at 1086 rfl rfl
set_option maxRecDepth 1000000 in
theorem w_1085 : Cond.static yL_isTidied ∈ zt := zt_at 1085 rfl rfl
set_option maxRecDepth 1000000 in
theorem qL_isTidied : (mL_isTidied.y.cls ≠ "java/lang/invoke/MethodHandle" ∧ mL_isTidied.y.cls ≠ "java/lang/invoke/VarHandle") ∧ (parseMethodDescriptor mL_isTidied.y.desc).map (fun d => d.parameters.length) = some 4 := by decide +kernel
set_option maxRecDepth 1000000 in
theorem kL_179 : zCalS RL 179 mL_isTidied 4 := ⟨⟨w_1084, w_37, w_1086, qL_isTidied.1, qL_isTidied.2⟩, w_1085, rfl⟩
set_option maxRecDepth 1000000 in
theorem w_1092 : Cond.methodLink RL 183 yL_isSpread ∈ zt := zt_at 1092 rfl rfl
set_option maxRecDepth 1000000 in
theorem w_1094 : mL_isSpread.cond ∈ zt := zt_at 1094 rfl rfl
set_option maxRecDepth 1000000 in
theorem w_1093 : Cond.static yL_isSpread ∈ zt := zt_at 1093 rfl rfl
set_option maxRecDepth 1000000 in
theorem qL_isSpread : (mL_isSpread.y.cls ≠ "java/lang/invoke/MethodHandle" ∧ mL_isSpread.y.cls ≠ "java/lang/invoke/VarHandle") ∧ (parseMethodDescriptor mL_isSpread.y.desc).map (fun d => d.parameters.length) = some 4 := by decide +kernel
set_option maxRecDepth 1000000 in
theorem kL_183 : zCalS RL 183 mL_isSpread 4 := ⟨⟨w_1092, w_37, w_1094, qL_isSpread.1, qL_isSpread.2⟩, w_1093, rfl⟩
set_option maxRecDepth 1000000 in
theorem w_1066 : Cond.methodLink RL 186 yL_lay ∈ zt := zt_at 1066 rfl rfl
set_option maxRecDepth 1000000 in
theorem w_1068 : mL_lay.cond ∈ zt := zt_at 1068 rfl rfl
set_option maxRecDepth 1000000 in
theorem w_1067 : Cond.static yL_lay ∈ zt := zt_at 1067 rfl rfl
set_option maxRecDepth 1000000 in
theorem qL_lay : (mL_lay.y.cls ≠ "java/lang/invoke/MethodHandle" ∧ mL_lay.y.cls ≠ "java/lang/invoke/VarHandle") ∧ (parseMethodDescriptor mL_lay.y.desc).map (fun d => d.parameters.length) = some 3 := by decide +kernel
set_option maxRecDepth 1000000 in
theorem kL_186 : zCalS RL 186 mL_lay 3 := ⟨⟨w_1066, w_37, w_1068, qL_lay.1, qL_lay.2⟩, w_1067, rfl⟩
set_option maxRecDepth 1000000 in
theorem w_688 : Cond.methodLink RL 190 yL_kind ∈ zt := zt_at 688 rfl rfl
set_option maxRecDepth 1000000 in
theorem w_690 : mL_kind.cond ∈ zt := zt_at 690 rfl rfl
set_option maxRecDepth 1000000 in
theorem w_689 : Cond.static yL_kind ∈ zt := zt_at 689 rfl rfl
set_option maxRecDepth 1000000 in
theorem qL_kind : (mL_kind.y.cls ≠ "java/lang/invoke/MethodHandle" ∧ mL_kind.y.cls ≠ "java/lang/invoke/VarHandle") ∧ (parseMethodDescriptor mL_kind.y.desc).map (fun d => d.parameters.length) = some 1 := by decide +kernel
set_option maxRecDepth 1000000 in
theorem kL_190 : zCalS RL 190 mL_kind 1 := ⟨⟨w_688, w_37, w_690, qL_kind.1, qL_kind.2⟩, w_689, rfl⟩
set_option maxRecDepth 1000000 in
theorem w_288 : Cond.methodLink RL 193 yX8_isSound ∈ zt := zt_at 288 rfl rfl
set_option maxRecDepth 1000000 in
theorem w_291 : mX8_isSound.cond ∈ zt := zt_at 291 rfl rfl
set_option maxRecDepth 1000000 in
theorem w_289 : Cond.instanceMethod yX8_isSound ∈ zt := zt_at 289 rfl rfl
set_option maxRecDepth 1000000 in
theorem w_290 : Cond.selects RX8 yX8_isSound yX8_isSound ∈ zt := zt_at 290 rfl rfl
set_option maxRecDepth 1000000 in
theorem qX8_isSound : (mX8_isSound.y.cls ≠ "java/lang/invoke/MethodHandle" ∧ mX8_isSound.y.cls ≠ "java/lang/invoke/VarHandle") ∧ (parseMethodDescriptor mX8_isSound.y.desc).map (fun d => d.parameters.length) = some 0 := by decide +kernel
set_option maxRecDepth 1000000 in
theorem kL_193 : zCalV RL 193 mX8_isSound 0 := ⟨⟨w_288, w_38, w_291, qX8_isSound.1, qX8_isSound.2⟩, w_289, w_290, rfl⟩
set_option maxRecDepth 1000000 in
theorem kL_161 : Cond.methodLink RL 161 Lib.Math.abs.name ∈ zt := zt_at 1087 rfl rfl
set_option maxRecDepth 1000000 in
theorem kX0_3 : Cond.methodLink RX0 3 Lib.objectInit ∈ zt := zt_at 71 rfl rfl
set_option maxRecDepth 1000000 in
theorem kX0_42 : Cond.methodLink RX0 42 Lib.Math.max.name ∈ zt := zt_at 669 rfl rfl
set_option maxRecDepth 1000000 in
theorem kX1_3 : Cond.methodLink RX1 3 Lib.objectInit ∈ zt := zt_at 133 rfl rfl
set_option maxRecDepth 1000000 in
theorem kX2_3 : Cond.methodLink RX2 3 Lib.objectInit ∈ zt := zt_at 208 rfl rfl
set_option maxRecDepth 1000000 in
theorem kX2_105 : Cond.methodLink RX2 105 Lib.Math.abs.name ∈ zt := zt_at 635 rfl rfl
set_option maxRecDepth 1000000 in
theorem kX2_113 : Cond.methodLink RX2 113 Lib.Math.min.name ∈ zt := zt_at 621 rfl rfl
set_option maxRecDepth 1000000 in
theorem kX2_116 : Cond.methodLink RX2 116 Lib.Math.max.name ∈ zt := zt_at 622 rfl rfl
set_option maxRecDepth 1000000 in
theorem kX3_3 : Cond.methodLink RX3 3 Lib.objectInit ∈ zt := zt_at 244 rfl rfl
set_option maxRecDepth 1000000 in
theorem kX3_29 : Cond.methodLink RX3 29 Lib.Math.max.name ∈ zt := zt_at 670 rfl rfl
set_option maxRecDepth 1000000 in
theorem kX3_66 : Cond.methodLink RX3 66 Lib.Math.min.name ∈ zt := zt_at 679 rfl rfl
set_option maxRecDepth 1000000 in
theorem kX4_1 : Cond.methodLink RX4 1 Lib.objectInit ∈ zt := zt_at 77 rfl rfl
set_option maxRecDepth 1000000 in
theorem kX5_3 : Cond.methodLink RX5 3 Lib.objectInit ∈ zt := zt_at 151 rfl rfl
set_option maxRecDepth 1000000 in
theorem kX5_80 : Cond.methodLink RX5 80 Lib.Math.min.name ∈ zt := zt_at 501 rfl rfl
set_option maxRecDepth 1000000 in
theorem kX5_86 : Cond.methodLink RX5 86 Lib.Math.max.name ∈ zt := zt_at 504 rfl rfl
set_option maxRecDepth 1000000 in
theorem kX6_3 : Cond.methodLink RX6 3 Lib.objectInit ∈ zt := zt_at 127 rfl rfl
set_option maxRecDepth 1000000 in
theorem kX6_120 : Cond.methodLink RX6 120 Lib.Math.abs.name ∈ zt := zt_at 560 rfl rfl
set_option maxRecDepth 1000000 in
theorem kX6_128 : Cond.methodLink RX6 128 Lib.Math.max.name ∈ zt := zt_at 575 rfl rfl
set_option maxRecDepth 1000000 in
theorem kX7_3 : Cond.methodLink RX7 3 Lib.objectInit ∈ zt := zt_at 103 rfl rfl
set_option maxRecDepth 1000000 in
theorem kX8_3 : Cond.methodLink RX8 3 Lib.objectInit ∈ zt := zt_at 63 rfl rfl
set_option maxRecDepth 1000000 in
theorem kX8_137 : Cond.methodLink RX8 137 Lib.Math.abs.name ∈ zt := zt_at 810 rfl rfl
set_option maxRecDepth 1000000 in
theorem kObj : Cond.instanceMethod Lib.objectInit ∈ zt ∧ Cond.code Lib.objectInit ⟨#[0xb1]⟩ 1 none ∈ zt := ⟨zt_at 64 rfl rfl, zt_at 65 rfl rfl⟩
