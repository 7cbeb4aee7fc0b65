set_option maxRecDepth 1000000 in
theorem zt_at {w : Cond} (i : Nat) (h : lw_tbl[i]? = some w) (hg : goodWord w = true) : w ∈ zt := List.mem_filter.mpr ⟨List.mem_of_getElem? h, hg⟩
set_option maxRecDepth 1000000 in
theorem zbad_at {w : Cond} (i : Nat) (h : lw_tbl[i]? = some w) (hg : (!goodWord w && zfair w) = true) : w ∈ zbad := List.mem_filter.mpr ⟨List.mem_of_getElem? h, hg⟩
set_option maxRecDepth 1000000 in
theorem w_102 : Cond.methodLink RX8 11 yX0_init ∈ zt := zt_at 102 rfl rfl
set_option maxRecDepth 1000000 in
theorem w_71 : Cond.initialized RX0 ∈ zt := zt_at 71 rfl rfl
set_option maxRecDepth 1000000 in
theorem w_104 : mX0_init.cond ∈ zt := zt_at 104 rfl rfl
set_option maxRecDepth 1000000 in
theorem w_103 : Cond.instanceMethod yX0_init ∈ zt := zt_at 103 rfl rfl
set_option maxRecDepth 1000000 in
theorem qX0_init : (mX0_init.y.cls ≠ "java/lang/invoke/MethodHandle" ∧ mX0_init.y.cls ≠ "java/lang/invoke/VarHandle") ∧ (parseMethodDescriptor mX0_init.y.desc).map (fun d => d.parameters.length) = some 1 := by decide +kernel
set_option maxRecDepth 1000000 in
theorem kX8_11 : zCalI RX8 11 mX0_init 1 := ⟨⟨w_102, w_71, w_104, qX0_init.1, qX0_init.2⟩, w_103, rfl, rfl⟩
set_option maxRecDepth 1000000 in
theorem w_131 : Cond.methodLink RX8 23 yX4_init ∈ zt := zt_at 131 rfl rfl
set_option maxRecDepth 1000000 in
theorem w_72 : Cond.initialized RX4 ∈ zt := zt_at 72 rfl rfl
set_option maxRecDepth 1000000 in
theorem w_110 : mX4_init.cond ∈ zt := zt_at 110 rfl rfl
set_option maxRecDepth 1000000 in
theorem w_109 : Cond.instanceMethod yX4_init ∈ zt := zt_at 109 rfl rfl
set_option maxRecDepth 1000000 in
theorem qX4_init : (mX4_init.y.cls ≠ "java/lang/invoke/MethodHandle" ∧ mX4_init.y.cls ≠ "java/lang/invoke/VarHandle") ∧ (parseMethodDescriptor mX4_init.y.desc).map (fun d => d.parameters.length) = some 1 := by decide +kernel
set_option maxRecDepth 1000000 in
theorem kX8_23 : zCalI RX8 23 mX4_init 1 := ⟨⟨w_131, w_72, w_110, qX4_init.1, qX4_init.2⟩, w_109, rfl, rfl⟩
set_option maxRecDepth 1000000 in
theorem w_134 : Cond.methodLinkNest RX8 33 yX7_init "SlideLayout" ∈ zbad := zbad_at 134 rfl rfl
set_option maxRecDepth 1000000 in
theorem w_73 : Cond.initialized RX7 ∈ zt := zt_at 73 rfl rfl
set_option maxRecDepth 1000000 in
theorem w_136 : mX7_init.cond ∈ zt := zt_at 136 rfl rfl
set_option maxRecDepth 1000000 in
theorem w_135 : Cond.instanceMethod yX7_init ∈ zt := zt_at 135 rfl rfl
set_option maxRecDepth 1000000 in
theorem qX7_init : (mX7_init.y.cls ≠ "java/lang/invoke/MethodHandle" ∧ mX7_init.y.cls ≠ "java/lang/invoke/VarHandle") ∧ (parseMethodDescriptor mX7_init.y.desc).map (fun d => d.parameters.length) = some 0 := by decide +kernel
set_option maxRecDepth 1000000 in
theorem kX8_33 : zCalIN RX8 33 mX7_init 0 "SlideLayout" := ⟨w_134, w_73, w_136, qX7_init.1, qX7_init.2, w_135, rfl, rfl⟩
set_option maxRecDepth 1000000 in
theorem w_158 : Cond.methodLinkNest RX8 40 yX6_init "SlideLayout" ∈ zbad := zbad_at 158 rfl rfl
set_option maxRecDepth 1000000 in
theorem w_74 : Cond.initialized RX6 ∈ zt := zt_at 74 rfl rfl
set_option maxRecDepth 1000000 in
theorem w_160 : mX6_init.cond ∈ zt := zt_at 160 rfl rfl
set_option maxRecDepth 1000000 in
theorem w_159 : Cond.instanceMethod yX6_init ∈ zt := zt_at 159 rfl rfl
set_option maxRecDepth 1000000 in
theorem qX6_init : (mX6_init.y.cls ≠ "java/lang/invoke/MethodHandle" ∧ mX6_init.y.cls ≠ "java/lang/invoke/VarHandle") ∧ (parseMethodDescriptor mX6_init.y.desc).map (fun d => d.parameters.length) = some 0 := by decide +kernel
set_option maxRecDepth 1000000 in
theorem kX8_40 : zCalIN RX8 40 mX6_init 0 "SlideLayout" := ⟨w_158, w_74, w_160, qX6_init.1, qX6_init.2, w_159, rfl, rfl⟩
set_option maxRecDepth 1000000 in
theorem w_239 : Cond.methodLinkNest RX8 47 yX2_init "SlideLayout" ∈ zbad := zbad_at 239 rfl rfl
set_option maxRecDepth 1000000 in
theorem w_77 : Cond.initialized RX2 ∈ zt := zt_at 77 rfl rfl
set_option maxRecDepth 1000000 in
theorem w_241 : mX2_init.cond ∈ zt := zt_at 241 rfl rfl
set_option maxRecDepth 1000000 in
theorem w_240 : Cond.instanceMethod yX2_init ∈ zt := zt_at 240 rfl rfl
set_option maxRecDepth 1000000 in
theorem qX2_init : (mX2_init.y.cls ≠ "java/lang/invoke/MethodHandle" ∧ mX2_init.y.cls ≠ "java/lang/invoke/VarHandle") ∧ (parseMethodDescriptor mX2_init.y.desc).map (fun d => d.parameters.length) = some 0 := by decide +kernel
set_option maxRecDepth 1000000 in
theorem kX8_47 : zCalIN RX8 47 mX2_init 0 "SlideLayout" := ⟨w_239, w_77, w_241, qX2_init.1, qX2_init.2, w_240, rfl, rfl⟩
set_option maxRecDepth 1000000 in
theorem w_275 : Cond.methodLinkNest RX8 54 yX3_init "SlideLayout" ∈ zbad := zbad_at 275 rfl rfl
set_option maxRecDepth 1000000 in
theorem w_78 : Cond.initialized RX3 ∈ zt := zt_at 78 rfl rfl
set_option maxRecDepth 1000000 in
theorem w_277 : mX3_init.cond ∈ zt := zt_at 277 rfl rfl
set_option maxRecDepth 1000000 in
theorem w_276 : Cond.instanceMethod yX3_init ∈ zt := zt_at 276 rfl rfl
set_option maxRecDepth 1000000 in
theorem qX3_init : (mX3_init.y.cls ≠ "java/lang/invoke/MethodHandle" ∧ mX3_init.y.cls ≠ "java/lang/invoke/VarHandle") ∧ (parseMethodDescriptor mX3_init.y.desc).map (fun d => d.parameters.length) = some 0 := by decide +kernel
set_option maxRecDepth 1000000 in
theorem kX8_54 : zCalIN RX8 54 mX3_init 0 "SlideLayout" := ⟨w_275, w_78, w_277, qX3_init.1, qX3_init.2, w_276, rfl, rfl⟩
set_option maxRecDepth 1000000 in
theorem w_363 : Cond.methodLink RX8 76 yX0_holds ∈ zt := zt_at 363 rfl rfl
set_option maxRecDepth 1000000 in
theorem w_366 : mX0_holds.cond ∈ zt := zt_at 366 rfl rfl
set_option maxRecDepth 1000000 in
theorem w_364 : Cond.instanceMethod yX0_holds ∈ zt := zt_at 364 rfl rfl
set_option maxRecDepth 1000000 in
theorem w_365 : Cond.selects RX0 yX0_holds yX0_holds ∈ zt := zt_at 365 rfl rfl
set_option maxRecDepth 1000000 in
theorem qX0_holds : (mX0_holds.y.cls ≠ "java/lang/invoke/MethodHandle" ∧ mX0_holds.y.cls ≠ "java/lang/invoke/VarHandle") ∧ (parseMethodDescriptor mX0_holds.y.desc).map (fun d => d.parameters.length) = some 2 := by decide +kernel
set_option maxRecDepth 1000000 in
theorem kX8_76 : zCalV RX8 76 mX0_holds 2 := ⟨⟨w_363, w_71, w_366, qX0_holds.1, qX0_holds.2⟩, w_364, w_365, rfl⟩
set_option maxRecDepth 1000000 in
theorem w_330 : Cond.methodLink RX8 82 yX8_shapeCount ∈ zt := zt_at 330 rfl rfl
set_option maxRecDepth 1000000 in
theorem w_70 : Cond.initialized RX8 ∈ zt := zt_at 70 rfl rfl
set_option maxRecDepth 1000000 in
theorem w_333 : mX8_shapeCount.cond ∈ zt := zt_at 333 rfl rfl
set_option maxRecDepth 1000000 in
theorem w_332 : Cond.instanceMethod yX8_shapeCount ∈ zt := zt_at 332 rfl rfl
set_option maxRecDepth 1000000 in
theorem w_0 : Cond.selects RX8 yX8_shapeCount yX8_shapeCount ∈ zt := zt_at 0 rfl rfl
set_option maxRecDepth 1000000 in
theorem qX8_shapeCount : (mX8_shapeCount.y.cls ≠ "java/lang/invoke/MethodHandle" ∧ mX8_shapeCount.y.cls ≠ "java/lang/invoke/VarHandle") ∧ (parseMethodDescriptor mX8_shapeCount.y.desc).map (fun d => d.parameters.length) = some 0 := by decide +kernel
set_option maxRecDepth 1000000 in
theorem kX8_82 : zCalV RX8 82 mX8_shapeCount 0 := ⟨⟨w_330, w_70, w_333, qX8_shapeCount.1, qX8_shapeCount.2⟩, w_332, w_0, rfl⟩
set_option maxRecDepth 1000000 in
theorem w_367 : Cond.methodLink RX8 91 yX8_firstOverlapped ∈ zt := zt_at 367 rfl rfl
set_option maxRecDepth 1000000 in
theorem w_370 : mX8_firstOverlapped.cond ∈ zt := zt_at 370 rfl rfl
set_option maxRecDepth 1000000 in
theorem w_369 : Cond.instanceMethod yX8_firstOverlapped ∈ zt := zt_at 369 rfl rfl
set_option maxRecDepth 1000000 in
theorem w_2 : Cond.selects RX8 yX8_firstOverlapped yX8_firstOverlapped ∈ zt := zt_at 2 rfl rfl
set_option maxRecDepth 1000000 in
theorem qX8_firstOverlapped : (mX8_firstOverlapped.y.cls ≠ "java/lang/invoke/MethodHandle" ∧ mX8_firstOverlapped.y.cls ≠ "java/lang/invoke/VarHandle") ∧ (parseMethodDescriptor mX8_firstOverlapped.y.desc).map (fun d => d.parameters.length) = some 5 := by decide +kernel
set_option maxRecDepth 1000000 in
theorem kX8_91 : zCalV RX8 91 mX8_firstOverlapped 5 := ⟨⟨w_367, w_70, w_370, qX8_firstOverlapped.1, qX8_firstOverlapped.2⟩, w_369, w_2, rfl⟩
set_option maxRecDepth 1000000 in
theorem w_768 : Cond.methodLink RX8 100 yX0_append ∈ zt := zt_at 768 rfl rfl
set_option maxRecDepth 1000000 in
theorem w_771 : mX0_append.cond ∈ zt := zt_at 771 rfl rfl
set_option maxRecDepth 1000000 in
theorem w_769 : Cond.instanceMethod yX0_append ∈ zt := zt_at 769 rfl rfl
set_option maxRecDepth 1000000 in
theorem w_770 : Cond.selects RX0 yX0_append yX0_append ∈ zt := zt_at 770 rfl rfl
set_option maxRecDepth 1000000 in
theorem qX0_append : (mX0_append.y.cls ≠ "java/lang/invoke/MethodHandle" ∧ mX0_append.y.cls ≠ "java/lang/invoke/VarHandle") ∧ (parseMethodDescriptor mX0_append.y.desc).map (fun d => d.parameters.length) = some 2 := by decide +kernel
set_option maxRecDepth 1000000 in
theorem kX8_100 : zCalV RX8 100 mX0_append 2 := ⟨⟨w_768, w_71, w_771, qX0_append.1, qX0_append.2⟩, w_769, w_770, rfl⟩
set_option maxRecDepth 1000000 in
theorem w_773 : Cond.methodLink RX8 104 yX4_append ∈ zt := zt_at 773 rfl rfl
set_option maxRecDepth 1000000 in
theorem w_497 : mX4_append.cond ∈ zt := zt_at 497 rfl rfl
set_option maxRecDepth 1000000 in
theorem w_495 : Cond.instanceMethod yX4_append ∈ zt := zt_at 495 rfl rfl
set_option maxRecDepth 1000000 in
theorem w_496 : Cond.selects RX4 yX4_append yX4_append ∈ zt := zt_at 496 rfl rfl
set_option maxRecDepth 1000000 in
theorem qX4_append : (mX4_append.y.cls ≠ "java/lang/invoke/MethodHandle" ∧ mX4_append.y.cls ≠ "java/lang/invoke/VarHandle") ∧ (parseMethodDescriptor mX4_append.y.desc).map (fun d => d.parameters.length) = some 1 := by decide +kernel
set_option maxRecDepth 1000000 in
theorem kX8_104 : zCalV RX8 104 mX4_append 1 := ⟨⟨w_773, w_72, w_497, qX4_append.1, qX4_append.2⟩, w_495, w_496, rfl⟩
set_option maxRecDepth 1000000 in
theorem w_805 : Cond.methodLink RX8 106 yX8_requireShape ∈ zt := zt_at 805 rfl rfl
set_option maxRecDepth 1000000 in
theorem w_808 : mX8_requireShape.cond ∈ zt := zt_at 808 rfl rfl
set_option maxRecDepth 1000000 in
theorem w_807 : Cond.instanceMethod yX8_requireShape ∈ zt := zt_at 807 rfl rfl
set_option maxRecDepth 1000000 in
theorem w_24 : Cond.selects RX8 yX8_requireShape yX8_requireShape ∈ zt := zt_at 24 rfl rfl
set_option maxRecDepth 1000000 in
theorem qX8_requireShape : (mX8_requireShape.y.cls ≠ "java/lang/invoke/MethodHandle" ∧ mX8_requireShape.y.cls ≠ "java/lang/invoke/VarHandle") ∧ (parseMethodDescriptor mX8_requireShape.y.desc).map (fun d => d.parameters.length) = some 1 := by decide +kernel
set_option maxRecDepth 1000000 in
theorem kX8_106 : zCalV RX8 106 mX8_requireShape 1 := ⟨⟨w_805, w_70, w_808, qX8_requireShape.1, qX8_requireShape.2⟩, w_807, w_24, rfl⟩
set_option maxRecDepth 1000000 in
theorem w_822 : Cond.methodLink RX8 109 yX8_isLockedShape ∈ zt := zt_at 822 rfl rfl
set_option maxRecDepth 1000000 in
theorem w_825 : mX8_isLockedShape.cond ∈ zt := zt_at 825 rfl rfl
set_option maxRecDepth 1000000 in
theorem w_824 : Cond.instanceMethod yX8_isLockedShape ∈ zt := zt_at 824 rfl rfl
set_option maxRecDepth 1000000 in
theorem w_25 : Cond.selects RX8 yX8_isLockedShape yX8_isLockedShape ∈ zt := zt_at 25 rfl rfl
set_option maxRecDepth 1000000 in
theorem qX8_isLockedShape : (mX8_isLockedShape.y.cls ≠ "java/lang/invoke/MethodHandle" ∧ mX8_isLockedShape.y.cls ≠ "java/lang/invoke/VarHandle") ∧ (parseMethodDescriptor mX8_isLockedShape.y.desc).map (fun d => d.parameters.length) = some 1 := by decide +kernel
set_option maxRecDepth 1000000 in
theorem kX8_109 : zCalV RX8 109 mX8_isLockedShape 1 := ⟨⟨w_822, w_70, w_825, qX8_isLockedShape.1, qX8_isLockedShape.2⟩, w_824, w_25, rfl⟩
set_option maxRecDepth 1000000 in
theorem w_827 : Cond.methodLink RX8 113 yX4_set ∈ zt := zt_at 827 rfl rfl
set_option maxRecDepth 1000000 in
theorem w_493 : mX4_set.cond ∈ zt := zt_at 493 rfl rfl
set_option maxRecDepth 1000000 in
theorem w_491 : Cond.instanceMethod yX4_set ∈ zt := zt_at 491 rfl rfl
set_option maxRecDepth 1000000 in
theorem w_492 : Cond.selects RX4 yX4_set yX4_set ∈ zt := zt_at 492 rfl rfl
set_option maxRecDepth 1000000 in
theorem qX4_set : (mX4_set.y.cls ≠ "java/lang/invoke/MethodHandle" ∧ mX4_set.y.cls ≠ "java/lang/invoke/VarHandle") ∧ (parseMethodDescriptor mX4_set.y.desc).map (fun d => d.parameters.length) = some 2 := by decide +kernel
set_option maxRecDepth 1000000 in
theorem kX8_113 : zCalV RX8 113 mX4_set 2 := ⟨⟨w_827, w_72, w_493, qX4_set.1, qX4_set.2⟩, w_491, w_492, rfl⟩
set_option maxRecDepth 1000000 in
theorem w_383 : Cond.methodLink RX8 116 yX8_axisNamed ∈ zt := zt_at 383 rfl rfl
set_option maxRecDepth 1000000 in
theorem w_386 : mX8_axisNamed.cond ∈ zt := zt_at 386 rfl rfl
set_option maxRecDepth 1000000 in
theorem w_385 : Cond.instanceMethod yX8_axisNamed ∈ zt := zt_at 385 rfl rfl
set_option maxRecDepth 1000000 in
theorem w_5 : Cond.selects RX8 yX8_axisNamed yX8_axisNamed ∈ zt := zt_at 5 rfl rfl
set_option maxRecDepth 1000000 in
theorem qX8_axisNamed : (mX8_axisNamed.y.cls ≠ "java/lang/invoke/MethodHandle" ∧ mX8_axisNamed.y.cls ≠ "java/lang/invoke/VarHandle") ∧ (parseMethodDescriptor mX8_axisNamed.y.desc).map (fun d => d.parameters.length) = some 1 := by decide +kernel
set_option maxRecDepth 1000000 in
theorem kX8_116 : zCalV RX8 116 mX8_axisNamed 1 := ⟨⟨w_383, w_70, w_386, qX8_axisNamed.1, qX8_axisNamed.2⟩, w_385, w_5, rfl⟩
set_option maxRecDepth 1000000 in
theorem w_359 : Cond.methodLink RX8 120 yX0_startAt ∈ zt := zt_at 359 rfl rfl
set_option maxRecDepth 1000000 in
theorem w_362 : mX0_startAt.cond ∈ zt := zt_at 362 rfl rfl
set_option maxRecDepth 1000000 in
theorem w_360 : Cond.instanceMethod yX0_startAt ∈ zt := zt_at 360 rfl rfl
set_option maxRecDepth 1000000 in
theorem w_361 : Cond.selects RX0 yX0_startAt yX0_startAt ∈ zt := zt_at 361 rfl rfl
set_option maxRecDepth 1000000 in
theorem qX0_startAt : (mX0_startAt.y.cls ≠ "java/lang/invoke/MethodHandle" ∧ mX0_startAt.y.cls ≠ "java/lang/invoke/VarHandle") ∧ (parseMethodDescriptor mX0_startAt.y.desc).map (fun d => d.parameters.length) = some 1 := by decide +kernel
set_option maxRecDepth 1000000 in
theorem kX8_120 : zCalV RX8 120 mX0_startAt 1 := ⟨⟨w_359, w_71, w_362, qX0_startAt.1, qX0_startAt.2⟩, w_360, w_361, rfl⟩
set_option maxRecDepth 1000000 in
theorem w_342 : Cond.methodLink RX8 124 yX0_sizeAt ∈ zt := zt_at 342 rfl rfl
set_option maxRecDepth 1000000 in
theorem w_345 : mX0_sizeAt.cond ∈ zt := zt_at 345 rfl rfl
set_option maxRecDepth 1000000 in
theorem w_343 : Cond.instanceMethod yX0_sizeAt ∈ zt := zt_at 343 rfl rfl
set_option maxRecDepth 1000000 in
theorem w_344 : Cond.selects RX0 yX0_sizeAt yX0_sizeAt ∈ zt := zt_at 344 rfl rfl
set_option maxRecDepth 1000000 in
theorem qX0_sizeAt : (mX0_sizeAt.y.cls ≠ "java/lang/invoke/MethodHandle" ∧ mX0_sizeAt.y.cls ≠ "java/lang/invoke/VarHandle") ∧ (parseMethodDescriptor mX0_sizeAt.y.desc).map (fun d => d.parameters.length) = some 1 := by decide +kernel
set_option maxRecDepth 1000000 in
theorem kX8_124 : zCalV RX8 124 mX0_sizeAt 1 := ⟨⟨w_342, w_71, w_345, qX0_sizeAt.1, qX0_sizeAt.2⟩, w_343, w_344, rfl⟩
set_option maxRecDepth 1000000 in
theorem w_849 : Cond.methodLink RX8 127 yX8_moveHindrance ∈ zt := zt_at 849 rfl rfl
set_option maxRecDepth 1000000 in
theorem w_852 : mX8_moveHindrance.cond ∈ zt := zt_at 852 rfl rfl
set_option maxRecDepth 1000000 in
theorem w_851 : Cond.instanceMethod yX8_moveHindrance ∈ zt := zt_at 851 rfl rfl
set_option maxRecDepth 1000000 in
theorem w_26 : Cond.selects RX8 yX8_moveHindrance yX8_moveHindrance ∈ zt := zt_at 26 rfl rfl
set_option maxRecDepth 1000000 in
theorem qX8_moveHindrance : (mX8_moveHindrance.y.cls ≠ "java/lang/invoke/MethodHandle" ∧ mX8_moveHindrance.y.cls ≠ "java/lang/invoke/VarHandle") ∧ (parseMethodDescriptor mX8_moveHindrance.y.desc).map (fun d => d.parameters.length) = some 3 := by decide +kernel
set_option maxRecDepth 1000000 in
theorem kX8_127 : zCalV RX8 127 mX8_moveHindrance 3 := ⟨⟨w_849, w_70, w_852, qX8_moveHindrance.1, qX8_moveHindrance.2⟩, w_851, w_26, rfl⟩
set_option maxRecDepth 1000000 in
theorem w_857 : Cond.methodLink RX8 142 yX0_setStart ∈ zt := zt_at 857 rfl rfl
set_option maxRecDepth 1000000 in
theorem w_860 : mX0_setStart.cond ∈ zt := zt_at 860 rfl rfl
set_option maxRecDepth 1000000 in
theorem w_858 : Cond.instanceMethod yX0_setStart ∈ zt := zt_at 858 rfl rfl
set_option maxRecDepth 1000000 in
theorem w_859 : Cond.selects RX0 yX0_setStart yX0_setStart ∈ zt := zt_at 859 rfl rfl
set_option maxRecDepth 1000000 in
theorem qX0_setStart : (mX0_setStart.y.cls ≠ "java/lang/invoke/MethodHandle" ∧ mX0_setStart.y.cls ≠ "java/lang/invoke/VarHandle") ∧ (parseMethodDescriptor mX0_setStart.y.desc).map (fun d => d.parameters.length) = some 2 := by decide +kernel
set_option maxRecDepth 1000000 in
theorem kX8_142 : zCalV RX8 142 mX0_setStart 2 := ⟨⟨w_857, w_71, w_860, qX0_setStart.1, qX0_setStart.2⟩, w_858, w_859, rfl⟩
set_option maxRecDepth 1000000 in
theorem w_877 : Cond.methodLink RX8 147 yX8_neededHeight ∈ zt := zt_at 877 rfl rfl
set_option maxRecDepth 1000000 in
theorem w_880 : mX8_neededHeight.cond ∈ zt := zt_at 880 rfl rfl
set_option maxRecDepth 1000000 in
theorem w_879 : Cond.instanceMethod yX8_neededHeight ∈ zt := zt_at 879 rfl rfl
set_option maxRecDepth 1000000 in
theorem w_27 : Cond.selects RX8 yX8_neededHeight yX8_neededHeight ∈ zt := zt_at 27 rfl rfl
set_option maxRecDepth 1000000 in
theorem qX8_neededHeight : (mX8_neededHeight.y.cls ≠ "java/lang/invoke/MethodHandle" ∧ mX8_neededHeight.y.cls ≠ "java/lang/invoke/VarHandle") ∧ (parseMethodDescriptor mX8_neededHeight.y.desc).map (fun d => d.parameters.length) = some 1 := by decide +kernel
set_option maxRecDepth 1000000 in
theorem kX8_147 : zCalV RX8 147 mX8_neededHeight 1 := ⟨⟨w_877, w_70, w_880, qX8_neededHeight.1, qX8_neededHeight.2⟩, w_879, w_27, rfl⟩
set_option maxRecDepth 1000000 in
theorem w_888 : Cond.methodLink RX8 150 yX8_textFits ∈ zt := zt_at 888 rfl rfl
set_option maxRecDepth 1000000 in
theorem w_891 : mX8_textFits.cond ∈ zt := zt_at 891 rfl rfl
set_option maxRecDepth 1000000 in
theorem w_890 : Cond.instanceMethod yX8_textFits ∈ zt := zt_at 890 rfl rfl
set_option maxRecDepth 1000000 in
theorem w_28 : Cond.selects RX8 yX8_textFits yX8_textFits ∈ zt := zt_at 28 rfl rfl
set_option maxRecDepth 1000000 in
theorem qX8_textFits : (mX8_textFits.y.cls ≠ "java/lang/invoke/MethodHandle" ∧ mX8_textFits.y.cls ≠ "java/lang/invoke/VarHandle") ∧ (parseMethodDescriptor mX8_textFits.y.desc).map (fun d => d.parameters.length) = some 1 := by decide +kernel
set_option maxRecDepth 1000000 in
theorem kX8_150 : zCalV RX8 150 mX8_textFits 1 := ⟨⟨w_888, w_70, w_891, qX8_textFits.1, qX8_textFits.2⟩, w_890, w_28, rfl⟩
set_option maxRecDepth 1000000 in
theorem w_900 : Cond.methodLink RX8 153 yX8_growHindrance ∈ zt := zt_at 900 rfl rfl
set_option maxRecDepth 1000000 in
theorem w_903 : mX8_growHindrance.cond ∈ zt := zt_at 903 rfl rfl
set_option maxRecDepth 1000000 in
theorem w_902 : Cond.instanceMethod yX8_growHindrance ∈ zt := zt_at 902 rfl rfl
set_option maxRecDepth 1000000 in
theorem w_29 : Cond.selects RX8 yX8_growHindrance yX8_growHindrance ∈ zt := zt_at 29 rfl rfl
set_option maxRecDepth 1000000 in
theorem qX8_growHindrance : (mX8_growHindrance.y.cls ≠ "java/lang/invoke/MethodHandle" ∧ mX8_growHindrance.y.cls ≠ "java/lang/invoke/VarHandle") ∧ (parseMethodDescriptor mX8_growHindrance.y.desc).map (fun d => d.parameters.length) = some 1 := by decide +kernel
set_option maxRecDepth 1000000 in
theorem kX8_153 : zCalV RX8 153 mX8_growHindrance 1 := ⟨⟨w_900, w_70, w_903, qX8_growHindrance.1, qX8_growHindrance.2⟩, w_902, w_29, rfl⟩
set_option maxRecDepth 1000000 in
theorem w_929 : Cond.methodLink RX8 164 yX0_setSize ∈ zt := zt_at 929 rfl rfl
set_option maxRecDepth 1000000 in
theorem w_932 : mX0_setSize.cond ∈ zt := zt_at 932 rfl rfl
set_option maxRecDepth 1000000 in
theorem w_930 : Cond.instanceMethod yX0_setSize ∈ zt := zt_at 930 rfl rfl
set_option maxRecDepth 1000000 in
theorem w_931 : Cond.selects RX0 yX0_setSize yX0_setSize ∈ zt := zt_at 931 rfl rfl
set_option maxRecDepth 1000000 in
theorem qX0_setSize : (mX0_setSize.y.cls ≠ "java/lang/invoke/MethodHandle" ∧ mX0_setSize.y.cls ≠ "java/lang/invoke/VarHandle") ∧ (parseMethodDescriptor mX0_setSize.y.desc).map (fun d => d.parameters.length) = some 2 := by decide +kernel
set_option maxRecDepth 1000000 in
theorem kX8_164 : zCalV RX8 164 mX0_setSize 2 := ⟨⟨w_929, w_71, w_932, qX0_setSize.1, qX0_setSize.2⟩, w_930, w_931, rfl⟩
set_option maxRecDepth 1000000 in
theorem w_904 : Cond.methodLink RX8 167 yX8_grownLiesOnSlide ∈ zt := zt_at 904 rfl rfl
set_option maxRecDepth 1000000 in
theorem w_907 : mX8_grownLiesOnSlide.cond ∈ zt := zt_at 907 rfl rfl
set_option maxRecDepth 1000000 in
theorem w_906 : Cond.instanceMethod yX8_grownLiesOnSlide ∈ zt := zt_at 906 rfl rfl
set_option maxRecDepth 1000000 in
theorem w_30 : Cond.selects RX8 yX8_grownLiesOnSlide yX8_grownLiesOnSlide ∈ zt := zt_at 30 rfl rfl
set_option maxRecDepth 1000000 in
theorem qX8_grownLiesOnSlide : (mX8_grownLiesOnSlide.y.cls ≠ "java/lang/invoke/MethodHandle" ∧ mX8_grownLiesOnSlide.y.cls ≠ "java/lang/invoke/VarHandle") ∧ (parseMethodDescriptor mX8_grownLiesOnSlide.y.desc).map (fun d => d.parameters.length) = some 1 := by decide +kernel
set_option maxRecDepth 1000000 in
theorem kX8_167 : zCalV RX8 167 mX8_grownLiesOnSlide 1 := ⟨⟨w_904, w_70, w_907, qX8_grownLiesOnSlide.1, qX8_grownLiesOnSlide.2⟩, w_906, w_30, rfl⟩
set_option maxRecDepth 1000000 in
theorem w_908 : Cond.methodLink RX8 172 yX8_firstOverlappedIfGrown ∈ zt := zt_at 908 rfl rfl
set_option maxRecDepth 1000000 in
theorem w_911 : mX8_firstOverlappedIfGrown.cond ∈ zt := zt_at 911 rfl rfl
set_option maxRecDepth 1000000 in
theorem w_910 : Cond.instanceMethod yX8_firstOverlappedIfGrown ∈ zt := zt_at 910 rfl rfl
set_option maxRecDepth 1000000 in
theorem w_31 : Cond.selects RX8 yX8_firstOverlappedIfGrown yX8_firstOverlappedIfGrown ∈ zt := zt_at 31 rfl rfl
set_option maxRecDepth 1000000 in
theorem qX8_firstOverlappedIfGrown : (mX8_firstOverlappedIfGrown.y.cls ≠ "java/lang/invoke/MethodHandle" ∧ mX8_firstOverlappedIfGrown.y.cls ≠ "java/lang/invoke/VarHandle") ∧ (parseMethodDescriptor mX8_firstOverlappedIfGrown.y.desc).map (fun d => d.parameters.length) = some 1 := by decide +kernel
set_option maxRecDepth 1000000 in
theorem kX8_172 : zCalV RX8 172 mX8_firstOverlappedIfGrown 1 := ⟨⟨w_908, w_70, w_911, qX8_firstOverlappedIfGrown.1, qX8_firstOverlappedIfGrown.2⟩, w_910, w_31, rfl⟩
set_option maxRecDepth 1000000 in
theorem w_956 : Cond.methodLink RX8 177 yX7_isKind ∈ zt := zt_at 956 rfl rfl
set_option maxRecDepth 1000000 in
theorem w_958 : mX7_isKind.cond ∈ zt := zt_at 958 rfl rfl
set_option maxRecDepth 1000000 in
theorem w_957 : Cond.static yX7_isKind ∈ zt := zt_at 957 rfl rfl
set_option maxRecDepth 1000000 in
theorem qX7_isKind : (mX7_isKind.y.cls ≠ "java/lang/invoke/MethodHandle" ∧ mX7_isKind.y.cls ≠ "java/lang/invoke/VarHandle") ∧ (parseMethodDescriptor mX7_isKind.y.desc).map (fun d => d.parameters.length) = some 1 := by decide +kernel
set_option maxRecDepth 1000000 in
theorem kX8_177 : zCalS RX8 177 mX7_isKind 1 := ⟨⟨w_956, w_73, w_958, qX7_isKind.1, qX7_isKind.2⟩, w_957, rfl⟩
set_option maxRecDepth 1000000 in
theorem w_960 : Cond.methodLink RX8 182 yX7_addedCount ∈ zt := zt_at 960 rfl rfl
set_option maxRecDepth 1000000 in
theorem w_523 : mX7_addedCount.cond ∈ zt := zt_at 523 rfl rfl
set_option maxRecDepth 1000000 in
theorem w_521 : Cond.instanceMethod yX7_addedCount ∈ zt := zt_at 521 rfl rfl
set_option maxRecDepth 1000000 in
theorem w_522 : Cond.selects RX7 yX7_addedCount yX7_addedCount ∈ zt := zt_at 522 rfl rfl
set_option maxRecDepth 1000000 in
theorem qX7_addedCount : (mX7_addedCount.y.cls ≠ "java/lang/invoke/MethodHandle" ∧ mX7_addedCount.y.cls ≠ "java/lang/invoke/VarHandle") ∧ (parseMethodDescriptor mX7_addedCount.y.desc).map (fun d => d.parameters.length) = some 0 := by decide +kernel
set_option maxRecDepth 1000000 in
theorem kX8_182 : zCalV RX8 182 mX7_addedCount 0 := ⟨⟨w_960, w_73, w_523, qX7_addedCount.1, qX7_addedCount.2⟩, w_521, w_522, rfl⟩
set_option maxRecDepth 1000000 in
theorem w_962 : Cond.methodLink RX8 187 yX7_append ∈ zt := zt_at 962 rfl rfl
set_option maxRecDepth 1000000 in
theorem w_965 : mX7_append.cond ∈ zt := zt_at 965 rfl rfl
set_option maxRecDepth 1000000 in
theorem w_963 : Cond.instanceMethod yX7_append ∈ zt := zt_at 963 rfl rfl
set_option maxRecDepth 1000000 in
theorem w_964 : Cond.selects RX7 yX7_append yX7_append ∈ zt := zt_at 964 rfl rfl
set_option maxRecDepth 1000000 in
theorem qX7_append : (mX7_append.y.cls ≠ "java/lang/invoke/MethodHandle" ∧ mX7_append.y.cls ≠ "java/lang/invoke/VarHandle") ∧ (parseMethodDescriptor mX7_append.y.desc).map (fun d => d.parameters.length) = some 4 := by decide +kernel
set_option maxRecDepth 1000000 in
theorem kX8_187 : zCalV RX8 187 mX7_append 4 := ⟨⟨w_962, w_73, w_965, qX7_append.1, qX7_append.2⟩, w_963, w_964, rfl⟩
set_option maxRecDepth 1000000 in
theorem w_974 : Cond.methodLink RX8 190 yX8_requireWish ∈ zt := zt_at 974 rfl rfl
set_option maxRecDepth 1000000 in
theorem w_977 : mX8_requireWish.cond ∈ zt := zt_at 977 rfl rfl
set_option maxRecDepth 1000000 in
theorem w_976 : Cond.instanceMethod yX8_requireWish ∈ zt := zt_at 976 rfl rfl
set_option maxRecDepth 1000000 in
theorem w_32 : Cond.selects RX8 yX8_requireWish yX8_requireWish ∈ zt := zt_at 32 rfl rfl
set_option maxRecDepth 1000000 in
theorem qX8_requireWish : (mX8_requireWish.y.cls ≠ "java/lang/invoke/MethodHandle" ∧ mX8_requireWish.y.cls ≠ "java/lang/invoke/VarHandle") ∧ (parseMethodDescriptor mX8_requireWish.y.desc).map (fun d => d.parameters.length) = some 1 := by decide +kernel
set_option maxRecDepth 1000000 in
theorem kX8_190 : zCalV RX8 190 mX8_requireWish 1 := ⟨⟨w_974, w_70, w_977, qX8_requireWish.1, qX8_requireWish.2⟩, w_976, w_32, rfl⟩
set_option maxRecDepth 1000000 in
theorem w_979 : Cond.methodLink RX8 193 yX7_remove ∈ zt := zt_at 979 rfl rfl
set_option maxRecDepth 1000000 in
theorem w_982 : mX7_remove.cond ∈ zt := zt_at 982 rfl rfl
set_option maxRecDepth 1000000 in
theorem w_980 : Cond.instanceMethod yX7_remove ∈ zt := zt_at 980 rfl rfl
set_option maxRecDepth 1000000 in
theorem w_981 : Cond.selects RX7 yX7_remove yX7_remove ∈ zt := zt_at 981 rfl rfl
set_option maxRecDepth 1000000 in
theorem qX7_remove : (mX7_remove.y.cls ≠ "java/lang/invoke/MethodHandle" ∧ mX7_remove.y.cls ≠ "java/lang/invoke/VarHandle") ∧ (parseMethodDescriptor mX7_remove.y.desc).map (fun d => d.parameters.length) = some 1 := by decide +kernel
set_option maxRecDepth 1000000 in
theorem kX8_193 : zCalV RX8 193 mX7_remove 1 := ⟨⟨w_979, w_73, w_982, qX7_remove.1, qX7_remove.2⟩, w_980, w_981, rfl⟩
set_option maxRecDepth 1000000 in
theorem w_984 : Cond.methodLink RX8 196 yX7_presentCount ∈ zt := zt_at 984 rfl rfl
set_option maxRecDepth 1000000 in
theorem w_987 : mX7_presentCount.cond ∈ zt := zt_at 987 rfl rfl
set_option maxRecDepth 1000000 in
theorem w_985 : Cond.instanceMethod yX7_presentCount ∈ zt := zt_at 985 rfl rfl
set_option maxRecDepth 1000000 in
theorem w_986 : Cond.selects RX7 yX7_presentCount yX7_presentCount ∈ zt := zt_at 986 rfl rfl
set_option maxRecDepth 1000000 in
theorem qX7_presentCount : (mX7_presentCount.y.cls ≠ "java/lang/invoke/MethodHandle" ∧ mX7_presentCount.y.cls ≠ "java/lang/invoke/VarHandle") ∧ (parseMethodDescriptor mX7_presentCount.y.desc).map (fun d => d.parameters.length) = some 0 := by decide +kernel
set_option maxRecDepth 1000000 in
theorem kX8_196 : zCalV RX8 196 mX7_presentCount 0 := ⟨⟨w_984, w_73, w_987, qX7_presentCount.1, qX7_presentCount.2⟩, w_985, w_986, rfl⟩
set_option maxRecDepth 1000000 in
theorem w_997 : Cond.methodLink RX8 199 yX7_axisAt ∈ zt := zt_at 997 rfl rfl
set_option maxRecDepth 1000000 in
theorem w_533 : mX7_axisAt.cond ∈ zt := zt_at 533 rfl rfl
set_option maxRecDepth 1000000 in
theorem w_531 : Cond.instanceMethod yX7_axisAt ∈ zt := zt_at 531 rfl rfl
set_option maxRecDepth 1000000 in
theorem w_532 : Cond.selects RX7 yX7_axisAt yX7_axisAt ∈ zt := zt_at 532 rfl rfl
set_option maxRecDepth 1000000 in
theorem qX7_axisAt : (mX7_axisAt.y.cls ≠ "java/lang/invoke/MethodHandle" ∧ mX7_axisAt.y.cls ≠ "java/lang/invoke/VarHandle") ∧ (parseMethodDescriptor mX7_axisAt.y.desc).map (fun d => d.parameters.length) = some 1 := by decide +kernel
set_option maxRecDepth 1000000 in
theorem kX8_199 : zCalV RX8 199 mX7_axisAt 1 := ⟨⟨w_997, w_73, w_533, qX7_axisAt.1, qX7_axisAt.2⟩, w_531, w_532, rfl⟩
set_option maxRecDepth 1000000 in
theorem w_998 : Cond.methodLink RX8 202 yX7_holdsIn ∈ zt := zt_at 998 rfl rfl
set_option maxRecDepth 1000000 in
theorem w_1001 : mX7_holdsIn.cond ∈ zt := zt_at 1001 rfl rfl
set_option maxRecDepth 1000000 in
theorem w_999 : Cond.instanceMethod yX7_holdsIn ∈ zt := zt_at 999 rfl rfl
set_option maxRecDepth 1000000 in
theorem w_1000 : Cond.selects RX7 yX7_holdsIn yX7_holdsIn ∈ zt := zt_at 1000 rfl rfl
set_option maxRecDepth 1000000 in
theorem qX7_holdsIn : (mX7_holdsIn.y.cls ≠ "java/lang/invoke/MethodHandle" ∧ mX7_holdsIn.y.cls ≠ "java/lang/invoke/VarHandle") ∧ (parseMethodDescriptor mX7_holdsIn.y.desc).map (fun d => d.parameters.length) = some 2 := by decide +kernel
set_option maxRecDepth 1000000 in
theorem kX8_202 : zCalV RX8 202 mX7_holdsIn 2 := ⟨⟨w_998, w_73, w_1001, qX7_holdsIn.1, qX7_holdsIn.2⟩, w_999, w_1000, rfl⟩
set_option maxRecDepth 1000000 in
theorem w_978 : Cond.methodLink RX8 206 yX7_isThere ∈ zt := zt_at 978 rfl rfl
set_option maxRecDepth 1000000 in
theorem w_528 : mX7_isThere.cond ∈ zt := zt_at 528 rfl rfl
set_option maxRecDepth 1000000 in
theorem w_526 : Cond.instanceMethod yX7_isThere ∈ zt := zt_at 526 rfl rfl
set_option maxRecDepth 1000000 in
theorem w_527 : Cond.selects RX7 yX7_isThere yX7_isThere ∈ zt := zt_at 527 rfl rfl
set_option maxRecDepth 1000000 in
theorem qX7_isThere : (mX7_isThere.y.cls ≠ "java/lang/invoke/MethodHandle" ∧ mX7_isThere.y.cls ≠ "java/lang/invoke/VarHandle") ∧ (parseMethodDescriptor mX7_isThere.y.desc).map (fun d => d.parameters.length) = some 1 := by decide +kernel
set_option maxRecDepth 1000000 in
theorem kX8_206 : zCalV RX8 206 mX7_isThere 1 := ⟨⟨w_978, w_73, w_528, qX7_isThere.1, qX7_isThere.2⟩, w_526, w_527, rfl⟩
set_option maxRecDepth 1000000 in
theorem w_1016 : Cond.methodLink RX8 209 yX7_strengthAt ∈ zt := zt_at 1016 rfl rfl
set_option maxRecDepth 1000000 in
theorem w_558 : mX7_strengthAt.cond ∈ zt := zt_at 558 rfl rfl
set_option maxRecDepth 1000000 in
theorem w_556 : Cond.instanceMethod yX7_strengthAt ∈ zt := zt_at 556 rfl rfl
set_option maxRecDepth 1000000 in
theorem w_557 : Cond.selects RX7 yX7_strengthAt yX7_strengthAt ∈ zt := zt_at 557 rfl rfl
set_option maxRecDepth 1000000 in
theorem qX7_strengthAt : (mX7_strengthAt.y.cls ≠ "java/lang/invoke/MethodHandle" ∧ mX7_strengthAt.y.cls ≠ "java/lang/invoke/VarHandle") ∧ (parseMethodDescriptor mX7_strengthAt.y.desc).map (fun d => d.parameters.length) = some 1 := by decide +kernel
set_option maxRecDepth 1000000 in
theorem kX8_209 : zCalV RX8 209 mX7_strengthAt 1 := ⟨⟨w_1016, w_73, w_558, qX7_strengthAt.1, qX7_strengthAt.2⟩, w_556, w_557, rfl⟩
set_option maxRecDepth 1000000 in
theorem w_1024 : Cond.methodLink RX8 212 yX0_listSnaps ∈ zt := zt_at 1024 rfl rfl
set_option maxRecDepth 1000000 in
theorem w_475 : mX0_listSnaps.cond ∈ zt := zt_at 475 rfl rfl
set_option maxRecDepth 1000000 in
theorem w_473 : Cond.instanceMethod yX0_listSnaps ∈ zt := zt_at 473 rfl rfl
set_option maxRecDepth 1000000 in
theorem w_474 : Cond.selects RX0 yX0_listSnaps yX0_listSnaps ∈ zt := zt_at 474 rfl rfl
set_option maxRecDepth 1000000 in
theorem qX0_listSnaps : (mX0_listSnaps.y.cls ≠ "java/lang/invoke/MethodHandle" ∧ mX0_listSnaps.y.cls ≠ "java/lang/invoke/VarHandle") ∧ (parseMethodDescriptor mX0_listSnaps.y.desc).map (fun d => d.parameters.length) = some 2 := by decide +kernel
set_option maxRecDepth 1000000 in
theorem kX8_212 : zCalV RX8 212 mX0_listSnaps 2 := ⟨⟨w_1024, w_71, w_475, qX0_listSnaps.1, qX0_listSnaps.2⟩, w_473, w_474, rfl⟩
set_option maxRecDepth 1000000 in
theorem w_1025 : Cond.methodLink RX8 216 yX4_length ∈ zt := zt_at 1025 rfl rfl
set_option maxRecDepth 1000000 in
theorem w_341 : mX4_length.cond ∈ zt := zt_at 341 rfl rfl
set_option maxRecDepth 1000000 in
theorem w_339 : Cond.instanceMethod yX4_length ∈ zt := zt_at 339 rfl rfl
set_option maxRecDepth 1000000 in
theorem w_340 : Cond.selects RX4 yX4_length yX4_length ∈ zt := zt_at 340 rfl rfl
set_option maxRecDepth 1000000 in
theorem qX4_length : (mX4_length.y.cls ≠ "java/lang/invoke/MethodHandle" ∧ mX4_length.y.cls ≠ "java/lang/invoke/VarHandle") ∧ (parseMethodDescriptor mX4_length.y.desc).map (fun d => d.parameters.length) = some 0 := by decide +kernel
set_option maxRecDepth 1000000 in
theorem kX8_216 : zCalV RX8 216 mX4_length 0 := ⟨⟨w_1025, w_72, w_341, qX4_length.1, qX4_length.2⟩, w_339, w_340, rfl⟩
set_option maxRecDepth 1000000 in
theorem w_1033 : Cond.methodLink RX8 219 yX8_searchTidiest ∈ zt := zt_at 1033 rfl rfl
set_option maxRecDepth 1000000 in
theorem w_1036 : mX8_searchTidiest.cond ∈ zt := zt_at 1036 rfl rfl
set_option maxRecDepth 1000000 in
theorem w_1035 : Cond.instanceMethod yX8_searchTidiest ∈ zt := zt_at 1035 rfl rfl
set_option maxRecDepth 1000000 in
theorem w_33 : Cond.selects RX8 yX8_searchTidiest yX8_searchTidiest ∈ zt := zt_at 33 rfl rfl
set_option maxRecDepth 1000000 in
theorem qX8_searchTidiest : (mX8_searchTidiest.y.cls ≠ "java/lang/invoke/MethodHandle" ∧ mX8_searchTidiest.y.cls ≠ "java/lang/invoke/VarHandle") ∧ (parseMethodDescriptor mX8_searchTidiest.y.desc).map (fun d => d.parameters.length) = some 1 := by decide +kernel
set_option maxRecDepth 1000000 in
theorem kX8_219 : zCalV RX8 219 mX8_searchTidiest 1 := ⟨⟨w_1033, w_70, w_1036, qX8_searchTidiest.1, qX8_searchTidiest.2⟩, w_1035, w_33, rfl⟩
set_option maxRecDepth 1000000 in
theorem w_607 : Cond.methodLink RX8 223 yX6_foundStrength ∈ zt := zt_at 607 rfl rfl
set_option maxRecDepth 1000000 in
theorem w_610 : mX6_foundStrength.cond ∈ zt := zt_at 610 rfl rfl
set_option maxRecDepth 1000000 in
theorem w_608 : Cond.instanceMethod yX6_foundStrength ∈ zt := zt_at 608 rfl rfl
set_option maxRecDepth 1000000 in
theorem w_609 : Cond.selects RX6 yX6_foundStrength yX6_foundStrength ∈ zt := zt_at 609 rfl rfl
set_option maxRecDepth 1000000 in
theorem qX6_foundStrength : (mX6_foundStrength.y.cls ≠ "java/lang/invoke/MethodHandle" ∧ mX6_foundStrength.y.cls ≠ "java/lang/invoke/VarHandle") ∧ (parseMethodDescriptor mX6_foundStrength.y.desc).map (fun d => d.parameters.length) = some 0 := by decide +kernel
set_option maxRecDepth 1000000 in
theorem kX8_223 : zCalV RX8 223 mX6_foundStrength 0 := ⟨⟨w_607, w_74, w_610, qX6_foundStrength.1, qX6_foundStrength.2⟩, w_608, w_609, rfl⟩
set_option maxRecDepth 1000000 in
theorem w_379 : Cond.methodLink RX8 226 yX8_loadTidySearch ∈ zt := zt_at 379 rfl rfl
set_option maxRecDepth 1000000 in
theorem w_382 : mX8_loadTidySearch.cond ∈ zt := zt_at 382 rfl rfl
set_option maxRecDepth 1000000 in
theorem w_381 : Cond.instanceMethod yX8_loadTidySearch ∈ zt := zt_at 381 rfl rfl
set_option maxRecDepth 1000000 in
theorem w_4 : Cond.selects RX8 yX8_loadTidySearch yX8_loadTidySearch ∈ zt := zt_at 4 rfl rfl
set_option maxRecDepth 1000000 in
theorem qX8_loadTidySearch : (mX8_loadTidySearch.y.cls ≠ "java/lang/invoke/MethodHandle" ∧ mX8_loadTidySearch.y.cls ≠ "java/lang/invoke/VarHandle") ∧ (parseMethodDescriptor mX8_loadTidySearch.y.desc).map (fun d => d.parameters.length) = some 1 := by decide +kernel
set_option maxRecDepth 1000000 in
theorem kX8_226 : zCalV RX8 226 mX8_loadTidySearch 1 := ⟨⟨w_379, w_70, w_382, qX8_loadTidySearch.1, qX8_loadTidySearch.2⟩, w_381, w_4, rfl⟩
set_option maxRecDepth 1000000 in
theorem w_611 : Cond.methodLink RX8 229 yX6_greatestStrengthOfAll ∈ zt := zt_at 611 rfl rfl
set_option maxRecDepth 1000000 in
theorem w_614 : mX6_greatestStrengthOfAll.cond ∈ zt := zt_at 614 rfl rfl
set_option maxRecDepth 1000000 in
theorem w_612 : Cond.instanceMethod yX6_greatestStrengthOfAll ∈ zt := zt_at 612 rfl rfl
set_option maxRecDepth 1000000 in
theorem w_613 : Cond.selects RX6 yX6_greatestStrengthOfAll yX6_greatestStrengthOfAll ∈ zt := zt_at 613 rfl rfl
set_option maxRecDepth 1000000 in
theorem qX6_greatestStrengthOfAll : (mX6_greatestStrengthOfAll.y.cls ≠ "java/lang/invoke/MethodHandle" ∧ mX6_greatestStrengthOfAll.y.cls ≠ "java/lang/invoke/VarHandle") ∧ (parseMethodDescriptor mX6_greatestStrengthOfAll.y.desc).map (fun d => d.parameters.length) = some 0 := by decide +kernel
set_option maxRecDepth 1000000 in
theorem kX8_229 : zCalV RX8 229 mX6_greatestStrengthOfAll 0 := ⟨⟨w_611, w_74, w_614, qX6_greatestStrengthOfAll.1, qX6_greatestStrengthOfAll.2⟩, w_612, w_613, rfl⟩
set_option maxRecDepth 1000000 in
theorem w_1051 : Cond.methodLink RX8 232 yX6_foundCost ∈ zt := zt_at 1051 rfl rfl
set_option maxRecDepth 1000000 in
theorem w_1054 : mX6_foundCost.cond ∈ zt := zt_at 1054 rfl rfl
set_option maxRecDepth 1000000 in
theorem w_1052 : Cond.instanceMethod yX6_foundCost ∈ zt := zt_at 1052 rfl rfl
set_option maxRecDepth 1000000 in
theorem w_1053 : Cond.selects RX6 yX6_foundCost yX6_foundCost ∈ zt := zt_at 1053 rfl rfl
set_option maxRecDepth 1000000 in
theorem qX6_foundCost : (mX6_foundCost.y.cls ≠ "java/lang/invoke/MethodHandle" ∧ mX6_foundCost.y.cls ≠ "java/lang/invoke/VarHandle") ∧ (parseMethodDescriptor mX6_foundCost.y.desc).map (fun d => d.parameters.length) = some 0 := by decide +kernel
set_option maxRecDepth 1000000 in
theorem kX8_232 : zCalV RX8 232 mX6_foundCost 0 := ⟨⟨w_1051, w_74, w_1054, qX6_foundCost.1, qX6_foundCost.2⟩, w_1052, w_1053, rfl⟩
set_option maxRecDepth 1000000 in
theorem w_1062 : Cond.methodLink RX8 235 yX6_foundStart ∈ zt := zt_at 1062 rfl rfl
set_option maxRecDepth 1000000 in
theorem w_1065 : mX6_foundStart.cond ∈ zt := zt_at 1065 rfl rfl
set_option maxRecDepth 1000000 in
theorem w_1063 : Cond.instanceMethod yX6_foundStart ∈ zt := zt_at 1063 rfl rfl
set_option maxRecDepth 1000000 in
theorem w_1064 : Cond.selects RX6 yX6_foundStart yX6_foundStart ∈ zt := zt_at 1064 rfl rfl
set_option maxRecDepth 1000000 in
theorem qX6_foundStart : (mX6_foundStart.y.cls ≠ "java/lang/invoke/MethodHandle" ∧ mX6_foundStart.y.cls ≠ "java/lang/invoke/VarHandle") ∧ (parseMethodDescriptor mX6_foundStart.y.desc).map (fun d => d.parameters.length) = some 1 := by decide +kernel
set_option maxRecDepth 1000000 in
theorem kX8_235 : zCalV RX8 235 mX6_foundStart 1 := ⟨⟨w_1062, w_74, w_1065, qX6_foundStart.1, qX6_foundStart.2⟩, w_1063, w_1064, rfl⟩
set_option maxRecDepth 1000000 in
theorem w_624 : Cond.methodLink RX8 238 yX2_load ∈ zt := zt_at 624 rfl rfl
set_option maxRecDepth 1000000 in
theorem w_627 : mX2_load.cond ∈ zt := zt_at 627 rfl rfl
set_option maxRecDepth 1000000 in
theorem w_625 : Cond.instanceMethod yX2_load ∈ zt := zt_at 625 rfl rfl
set_option maxRecDepth 1000000 in
theorem w_626 : Cond.selects RX2 yX2_load yX2_load ∈ zt := zt_at 626 rfl rfl
set_option maxRecDepth 1000000 in
theorem qX2_load : (mX2_load.y.cls ≠ "java/lang/invoke/MethodHandle" ∧ mX2_load.y.cls ≠ "java/lang/invoke/VarHandle") ∧ (parseMethodDescriptor mX2_load.y.desc).map (fun d => d.parameters.length) = some 2 := by decide +kernel
set_option maxRecDepth 1000000 in
theorem kX8_238 : zCalV RX8 238 mX2_load 2 := ⟨⟨w_624, w_77, w_627, qX2_load.1, qX2_load.2⟩, w_625, w_626, rfl⟩
set_option maxRecDepth 1000000 in
theorem w_645 : Cond.methodLink RX8 242 yX2_searchBestStarts ∈ zt := zt_at 645 rfl rfl
set_option maxRecDepth 1000000 in
theorem w_648 : mX2_searchBestStarts.cond ∈ zt := zt_at 648 rfl rfl
set_option maxRecDepth 1000000 in
theorem w_646 : Cond.instanceMethod yX2_searchBestStarts ∈ zt := zt_at 646 rfl rfl
set_option maxRecDepth 1000000 in
theorem w_647 : Cond.selects RX2 yX2_searchBestStarts yX2_searchBestStarts ∈ zt := zt_at 647 rfl rfl
set_option maxRecDepth 1000000 in
theorem qX2_searchBestStarts : (mX2_searchBestStarts.y.cls ≠ "java/lang/invoke/MethodHandle" ∧ mX2_searchBestStarts.y.cls ≠ "java/lang/invoke/VarHandle") ∧ (parseMethodDescriptor mX2_searchBestStarts.y.desc).map (fun d => d.parameters.length) = some 0 := by decide +kernel
set_option maxRecDepth 1000000 in
theorem kX8_242 : zCalV RX8 242 mX2_searchBestStarts 0 := ⟨⟨w_645, w_77, w_648, qX2_searchBestStarts.1, qX2_searchBestStarts.2⟩, w_646, w_647, rfl⟩
set_option maxRecDepth 1000000 in
theorem w_1080 : Cond.methodLink RX8 245 yX8_requireEvenLayout ∈ zt := zt_at 1080 rfl rfl
set_option maxRecDepth 1000000 in
theorem w_1083 : mX8_requireEvenLayout.cond ∈ zt := zt_at 1083 rfl rfl
set_option maxRecDepth 1000000 in
theorem w_1082 : Cond.instanceMethod yX8_requireEvenLayout ∈ zt := zt_at 1082 rfl rfl
set_option maxRecDepth 1000000 in
theorem w_34 : Cond.selects RX8 yX8_requireEvenLayout yX8_requireEvenLayout ∈ zt := zt_at 34 rfl rfl
set_option maxRecDepth 1000000 in
theorem qX8_requireEvenLayout : (mX8_requireEvenLayout.y.cls ≠ "java/lang/invoke/MethodHandle" ∧ mX8_requireEvenLayout.y.cls ≠ "java/lang/invoke/VarHandle") ∧ (parseMethodDescriptor mX8_requireEvenLayout.y.desc).map (fun d => d.parameters.length) = some 0 := by decide +kernel
set_option maxRecDepth 1000000 in
theorem kX8_245 : zCalV RX8 245 mX8_requireEvenLayout 0 := ⟨⟨w_1080, w_70, w_1083, qX8_requireEvenLayout.1, qX8_requireEvenLayout.2⟩, w_1082, w_34, rfl⟩
set_option maxRecDepth 1000000 in
theorem w_680 : Cond.methodLink RX8 248 yX2_foundCost ∈ zt := zt_at 680 rfl rfl
set_option maxRecDepth 1000000 in
theorem w_683 : mX2_foundCost.cond ∈ zt := zt_at 683 rfl rfl
set_option maxRecDepth 1000000 in
theorem w_681 : Cond.instanceMethod yX2_foundCost ∈ zt := zt_at 681 rfl rfl
set_option maxRecDepth 1000000 in
theorem w_682 : Cond.selects RX2 yX2_foundCost yX2_foundCost ∈ zt := zt_at 682 rfl rfl
set_option maxRecDepth 1000000 in
theorem qX2_foundCost : (mX2_foundCost.y.cls ≠ "java/lang/invoke/MethodHandle" ∧ mX2_foundCost.y.cls ≠ "java/lang/invoke/VarHandle") ∧ (parseMethodDescriptor mX2_foundCost.y.desc).map (fun d => d.parameters.length) = some 0 := by decide +kernel
set_option maxRecDepth 1000000 in
theorem kX8_248 : zCalV RX8 248 mX2_foundCost 0 := ⟨⟨w_680, w_77, w_683, qX2_foundCost.1, qX2_foundCost.2⟩, w_681, w_682, rfl⟩
set_option maxRecDepth 1000000 in
theorem w_684 : Cond.methodLink RX8 249 yX2_searchAll ∈ zt := zt_at 684 rfl rfl
set_option maxRecDepth 1000000 in
theorem w_687 : mX2_searchAll.cond ∈ zt := zt_at 687 rfl rfl
set_option maxRecDepth 1000000 in
theorem w_685 : Cond.instanceMethod yX2_searchAll ∈ zt := zt_at 685 rfl rfl
set_option maxRecDepth 1000000 in
theorem w_686 : Cond.selects RX2 yX2_searchAll yX2_searchAll ∈ zt := zt_at 686 rfl rfl
set_option maxRecDepth 1000000 in
theorem qX2_searchAll : (mX2_searchAll.y.cls ≠ "java/lang/invoke/MethodHandle" ∧ mX2_searchAll.y.cls ≠ "java/lang/invoke/VarHandle") ∧ (parseMethodDescriptor mX2_searchAll.y.desc).map (fun d => d.parameters.length) = some 0 := by decide +kernel
set_option maxRecDepth 1000000 in
theorem kX8_249 : zCalV RX8 249 mX2_searchAll 0 := ⟨⟨w_684, w_77, w_687, qX2_searchAll.1, qX2_searchAll.2⟩, w_685, w_686, rfl⟩
set_option maxRecDepth 1000000 in
theorem w_1099 : Cond.methodLink RX8 252 yX2_shapeInPlace ∈ zt := zt_at 1099 rfl rfl
set_option maxRecDepth 1000000 in
theorem w_1102 : mX2_shapeInPlace.cond ∈ zt := zt_at 1102 rfl rfl
set_option maxRecDepth 1000000 in
theorem w_1100 : Cond.instanceMethod yX2_shapeInPlace ∈ zt := zt_at 1100 rfl rfl
set_option maxRecDepth 1000000 in
theorem w_1101 : Cond.selects RX2 yX2_shapeInPlace yX2_shapeInPlace ∈ zt := zt_at 1101 rfl rfl
set_option maxRecDepth 1000000 in
theorem qX2_shapeInPlace : (mX2_shapeInPlace.y.cls ≠ "java/lang/invoke/MethodHandle" ∧ mX2_shapeInPlace.y.cls ≠ "java/lang/invoke/VarHandle") ∧ (parseMethodDescriptor mX2_shapeInPlace.y.desc).map (fun d => d.parameters.length) = some 1 := by decide +kernel
set_option maxRecDepth 1000000 in
theorem kX8_252 : zCalV RX8 252 mX2_shapeInPlace 1 := ⟨⟨w_1099, w_77, w_1102, qX2_shapeInPlace.1, qX2_shapeInPlace.2⟩, w_1100, w_1101, rfl⟩
set_option maxRecDepth 1000000 in
theorem w_1103 : Cond.methodLink RX8 255 yX2_foundStart ∈ zt := zt_at 1103 rfl rfl
set_option maxRecDepth 1000000 in
theorem w_1106 : mX2_foundStart.cond ∈ zt := zt_at 1106 rfl rfl
set_option maxRecDepth 1000000 in
theorem w_1104 : Cond.instanceMethod yX2_foundStart ∈ zt := zt_at 1104 rfl rfl
set_option maxRecDepth 1000000 in
theorem w_1105 : Cond.selects RX2 yX2_foundStart yX2_foundStart ∈ zt := zt_at 1105 rfl rfl
set_option maxRecDepth 1000000 in
theorem qX2_foundStart : (mX2_foundStart.y.cls ≠ "java/lang/invoke/MethodHandle" ∧ mX2_foundStart.y.cls ≠ "java/lang/invoke/VarHandle") ∧ (parseMethodDescriptor mX2_foundStart.y.desc).map (fun d => d.parameters.length) = some 1 := by decide +kernel
set_option maxRecDepth 1000000 in
theorem kX8_255 : zCalV RX8 255 mX2_foundStart 1 := ⟨⟨w_1103, w_77, w_1106, qX2_foundStart.1, qX2_foundStart.2⟩, w_1104, w_1105, rfl⟩
set_option maxRecDepth 1000000 in
theorem w_1107 : Cond.methodLink RX8 256 yX2_foundGap ∈ zt := zt_at 1107 rfl rfl
set_option maxRecDepth 1000000 in
theorem w_1110 : mX2_foundGap.cond ∈ zt := zt_at 1110 rfl rfl
set_option maxRecDepth 1000000 in
theorem w_1108 : Cond.instanceMethod yX2_foundGap ∈ zt := zt_at 1108 rfl rfl
set_option maxRecDepth 1000000 in
theorem w_1109 : Cond.selects RX2 yX2_foundGap yX2_foundGap ∈ zt := zt_at 1109 rfl rfl
set_option maxRecDepth 1000000 in
theorem qX2_foundGap : (mX2_foundGap.y.cls ≠ "java/lang/invoke/MethodHandle" ∧ mX2_foundGap.y.cls ≠ "java/lang/invoke/VarHandle") ∧ (parseMethodDescriptor mX2_foundGap.y.desc).map (fun d => d.parameters.length) = some 0 := by decide +kernel
set_option maxRecDepth 1000000 in
theorem kX8_256 : zCalV RX8 256 mX2_foundGap 0 := ⟨⟨w_1107, w_77, w_1110, qX2_foundGap.1, qX2_foundGap.2⟩, w_1108, w_1109, rfl⟩
set_option maxRecDepth 1000000 in
theorem w_1118 : Cond.methodLink RX8 259 yX0_listGuides ∈ zt := zt_at 1118 rfl rfl
set_option maxRecDepth 1000000 in
theorem w_1121 : mX0_listGuides.cond ∈ zt := zt_at 1121 rfl rfl
set_option maxRecDepth 1000000 in
theorem w_1119 : Cond.instanceMethod yX0_listGuides ∈ zt := zt_at 1119 rfl rfl
set_option maxRecDepth 1000000 in
theorem w_1120 : Cond.selects RX0 yX0_listGuides yX0_listGuides ∈ zt := zt_at 1120 rfl rfl
set_option maxRecDepth 1000000 in
theorem qX0_listGuides : (mX0_listGuides.y.cls ≠ "java/lang/invoke/MethodHandle" ∧ mX0_listGuides.y.cls ≠ "java/lang/invoke/VarHandle") ∧ (parseMethodDescriptor mX0_listGuides.y.desc).map (fun d => d.parameters.length) = some 1 := by decide +kernel
set_option maxRecDepth 1000000 in
theorem kX8_259 : zCalV RX8 259 mX0_listGuides 1 := ⟨⟨w_1118, w_71, w_1121, qX0_listGuides.1, qX0_listGuides.2⟩, w_1119, w_1120, rfl⟩
set_option maxRecDepth 1000000 in
theorem w_826 : Cond.methodLink RX8 265 yX4_get ∈ zt := zt_at 826 rfl rfl
set_option maxRecDepth 1000000 in
theorem w_349 : mX4_get.cond ∈ zt := zt_at 349 rfl rfl
set_option maxRecDepth 1000000 in
theorem w_347 : Cond.instanceMethod yX4_get ∈ zt := zt_at 347 rfl rfl
set_option maxRecDepth 1000000 in
theorem w_348 : Cond.selects RX4 yX4_get yX4_get ∈ zt := zt_at 348 rfl rfl
set_option maxRecDepth 1000000 in
theorem qX4_get : (mX4_get.y.cls ≠ "java/lang/invoke/MethodHandle" ∧ mX4_get.y.cls ≠ "java/lang/invoke/VarHandle") ∧ (parseMethodDescriptor mX4_get.y.desc).map (fun d => d.parameters.length) = some 1 := by decide +kernel
set_option maxRecDepth 1000000 in
theorem kX8_265 : zCalV RX8 265 mX4_get 1 := ⟨⟨w_826, w_72, w_349, qX4_get.1, qX4_get.2⟩, w_347, w_348, rfl⟩
set_option maxRecDepth 1000000 in
theorem w_1143 : Cond.methodLink RX8 270 yX3_unitsBetween ∈ zt := zt_at 1143 rfl rfl
set_option maxRecDepth 1000000 in
theorem w_708 : mX3_unitsBetween.cond ∈ zt := zt_at 708 rfl rfl
set_option maxRecDepth 1000000 in
theorem w_707 : Cond.static yX3_unitsBetween ∈ zt := zt_at 707 rfl rfl
set_option maxRecDepth 1000000 in
theorem qX3_unitsBetween : (mX3_unitsBetween.y.cls ≠ "java/lang/invoke/MethodHandle" ∧ mX3_unitsBetween.y.cls ≠ "java/lang/invoke/VarHandle") ∧ (parseMethodDescriptor mX3_unitsBetween.y.desc).map (fun d => d.parameters.length) = some 4 := by decide +kernel
set_option maxRecDepth 1000000 in
theorem kX8_270 : zCalS RX8 270 mX3_unitsBetween 4 := ⟨⟨w_1143, w_78, w_708, qX3_unitsBetween.1, qX3_unitsBetween.2⟩, w_707, rfl⟩
set_option maxRecDepth 1000000 in
theorem w_1151 : Cond.methodLink RX8 274 yX8_requireDistance ∈ zt := zt_at 1151 rfl rfl
set_option maxRecDepth 1000000 in
theorem w_1154 : mX8_requireDistance.cond ∈ zt := zt_at 1154 rfl rfl
set_option maxRecDepth 1000000 in
theorem w_1153 : Cond.instanceMethod yX8_requireDistance ∈ zt := zt_at 1153 rfl rfl
set_option maxRecDepth 1000000 in
theorem w_36 : Cond.selects RX8 yX8_requireDistance yX8_requireDistance ∈ zt := zt_at 36 rfl rfl
set_option maxRecDepth 1000000 in
theorem qX8_requireDistance : (mX8_requireDistance.y.cls ≠ "java/lang/invoke/MethodHandle" ∧ mX8_requireDistance.y.cls ≠ "java/lang/invoke/VarHandle") ∧ (parseMethodDescriptor mX8_requireDistance.y.desc).map (fun d => d.parameters.length) = some 1 := by decide +kernel
set_option maxRecDepth 1000000 in
theorem kX8_274 : zCalV RX8 274 mX8_requireDistance 1 := ⟨⟨w_1151, w_70, w_1154, qX8_requireDistance.1, qX8_requireDistance.2⟩, w_1153, w_36, rfl⟩
set_option maxRecDepth 1000000 in
theorem w_692 : Cond.methodLink RX8 277 yX3_countByGoing ∈ zt := zt_at 692 rfl rfl
set_option maxRecDepth 1000000 in
theorem w_695 : mX3_countByGoing.cond ∈ zt := zt_at 695 rfl rfl
set_option maxRecDepth 1000000 in
theorem w_693 : Cond.instanceMethod yX3_countByGoing ∈ zt := zt_at 693 rfl rfl
set_option maxRecDepth 1000000 in
theorem w_694 : Cond.selects RX3 yX3_countByGoing yX3_countByGoing ∈ zt := zt_at 694 rfl rfl
set_option maxRecDepth 1000000 in
theorem qX3_countByGoing : (mX3_countByGoing.y.cls ≠ "java/lang/invoke/MethodHandle" ∧ mX3_countByGoing.y.cls ≠ "java/lang/invoke/VarHandle") ∧ (parseMethodDescriptor mX3_countByGoing.y.desc).map (fun d => d.parameters.length) = some 3 := by decide +kernel
set_option maxRecDepth 1000000 in
theorem kX8_277 : zCalV RX8 277 mX3_countByGoing 3 := ⟨⟨w_692, w_78, w_695, qX3_countByGoing.1, qX3_countByGoing.2⟩, w_693, w_694, rfl⟩
set_option maxRecDepth 1000000 in
theorem w_715 : Cond.methodLink RX8 281 yX3_countByJoining ∈ zt := zt_at 715 rfl rfl
set_option maxRecDepth 1000000 in
theorem w_718 : mX3_countByJoining.cond ∈ zt := zt_at 718 rfl rfl
set_option maxRecDepth 1000000 in
theorem w_716 : Cond.instanceMethod yX3_countByJoining ∈ zt := zt_at 716 rfl rfl
set_option maxRecDepth 1000000 in
theorem w_717 : Cond.selects RX3 yX3_countByJoining yX3_countByJoining ∈ zt := zt_at 717 rfl rfl
set_option maxRecDepth 1000000 in
theorem qX3_countByJoining : (mX3_countByJoining.y.cls ≠ "java/lang/invoke/MethodHandle" ∧ mX3_countByJoining.y.cls ≠ "java/lang/invoke/VarHandle") ∧ (parseMethodDescriptor mX3_countByJoining.y.desc).map (fun d => d.parameters.length) = some 3 := by decide +kernel
set_option maxRecDepth 1000000 in
theorem kX8_281 : zCalV RX8 281 mX3_countByJoining 3 := ⟨⟨w_715, w_78, w_718, qX3_countByJoining.1, qX3_countByJoining.2⟩, w_716, w_717, rfl⟩
set_option maxRecDepth 1000000 in
theorem w_1170 : Cond.methodLink RX8 284 yX3_lowestOfGroup ∈ zt := zt_at 1170 rfl rfl
set_option maxRecDepth 1000000 in
theorem w_1173 : mX3_lowestOfGroup.cond ∈ zt := zt_at 1173 rfl rfl
set_option maxRecDepth 1000000 in
theorem w_1171 : Cond.instanceMethod yX3_lowestOfGroup ∈ zt := zt_at 1171 rfl rfl
set_option maxRecDepth 1000000 in
theorem w_1172 : Cond.selects RX3 yX3_lowestOfGroup yX3_lowestOfGroup ∈ zt := zt_at 1172 rfl rfl
set_option maxRecDepth 1000000 in
theorem qX3_lowestOfGroup : (mX3_lowestOfGroup.y.cls ≠ "java/lang/invoke/MethodHandle" ∧ mX3_lowestOfGroup.y.cls ≠ "java/lang/invoke/VarHandle") ∧ (parseMethodDescriptor mX3_lowestOfGroup.y.desc).map (fun d => d.parameters.length) = some 1 := by decide +kernel
set_option maxRecDepth 1000000 in
theorem kX8_284 : zCalV RX8 284 mX3_lowestOfGroup 1 := ⟨⟨w_1170, w_78, w_1173, qX3_lowestOfGroup.1, qX3_lowestOfGroup.2⟩, w_1171, w_1172, rfl⟩
set_option maxRecDepth 1000000 in
theorem w_355 : Cond.methodLink RX8 293 yX8_allShapesStandRight ∈ zt := zt_at 355 rfl rfl
set_option maxRecDepth 1000000 in
theorem w_358 : mX8_allShapesStandRight.cond ∈ zt := zt_at 358 rfl rfl
set_option maxRecDepth 1000000 in
theorem w_357 : Cond.instanceMethod yX8_allShapesStandRight ∈ zt := zt_at 357 rfl rfl
set_option maxRecDepth 1000000 in
theorem w_1 : Cond.selects RX8 yX8_allShapesStandRight yX8_allShapesStandRight ∈ zt := zt_at 1 rfl rfl
set_option maxRecDepth 1000000 in
theorem qX8_allShapesStandRight : (mX8_allShapesStandRight.y.cls ≠ "java/lang/invoke/MethodHandle" ∧ mX8_allShapesStandRight.y.cls ≠ "java/lang/invoke/VarHandle") ∧ (parseMethodDescriptor mX8_allShapesStandRight.y.desc).map (fun d => d.parameters.length) = some 0 := by decide +kernel
set_option maxRecDepth 1000000 in
theorem kX8_293 : zCalV RX8 293 mX8_allShapesStandRight 0 := ⟨⟨w_355, w_70, w_358, qX8_allShapesStandRight.1, qX8_allShapesStandRight.2⟩, w_357, w_1, rfl⟩
set_option maxRecDepth 1000000 in
theorem w_375 : Cond.methodLink RX8 297 yX8_bothWaysAgreeAlong ∈ zt := zt_at 375 rfl rfl
set_option maxRecDepth 1000000 in
theorem w_378 : mX8_bothWaysAgreeAlong.cond ∈ zt := zt_at 378 rfl rfl
set_option maxRecDepth 1000000 in
theorem w_377 : Cond.instanceMethod yX8_bothWaysAgreeAlong ∈ zt := zt_at 377 rfl rfl
set_option maxRecDepth 1000000 in
theorem w_3 : Cond.selects RX8 yX8_bothWaysAgreeAlong yX8_bothWaysAgreeAlong ∈ zt := zt_at 3 rfl rfl
set_option maxRecDepth 1000000 in
theorem qX8_bothWaysAgreeAlong : (mX8_bothWaysAgreeAlong.y.cls ≠ "java/lang/invoke/MethodHandle" ∧ mX8_bothWaysAgreeAlong.y.cls ≠ "java/lang/invoke/VarHandle") ∧ (parseMethodDescriptor mX8_bothWaysAgreeAlong.y.desc).map (fun d => d.parameters.length) = some 1 := by decide +kernel
set_option maxRecDepth 1000000 in
theorem kX8_297 : zCalV RX8 297 mX8_bothWaysAgreeAlong 1 := ⟨⟨w_375, w_70, w_378, qX8_bothWaysAgreeAlong.1, qX8_bothWaysAgreeAlong.2⟩, w_377, w_3, rfl⟩
set_option maxRecDepth 1000000 in
theorem w_688 : Cond.methodLink RX8 301 yX8_groupCountsAgree ∈ zt := zt_at 688 rfl rfl
set_option maxRecDepth 1000000 in
theorem w_691 : mX8_groupCountsAgree.cond ∈ zt := zt_at 691 rfl rfl
set_option maxRecDepth 1000000 in
theorem w_690 : Cond.instanceMethod yX8_groupCountsAgree ∈ zt := zt_at 690 rfl rfl
set_option maxRecDepth 1000000 in
theorem w_21 : Cond.selects RX8 yX8_groupCountsAgree yX8_groupCountsAgree ∈ zt := zt_at 21 rfl rfl
set_option maxRecDepth 1000000 in
theorem qX8_groupCountsAgree : (mX8_groupCountsAgree.y.cls ≠ "java/lang/invoke/MethodHandle" ∧ mX8_groupCountsAgree.y.cls ≠ "java/lang/invoke/VarHandle") ∧ (parseMethodDescriptor mX8_groupCountsAgree.y.desc).map (fun d => d.parameters.length) = some 1 := by decide +kernel
set_option maxRecDepth 1000000 in
theorem kX8_301 : zCalV RX8 301 mX8_groupCountsAgree 1 := ⟨⟨w_688, w_70, w_691, qX8_groupCountsAgree.1, qX8_groupCountsAgree.2⟩, w_690, w_21, rfl⟩
set_option maxRecDepth 1000000 in
theorem w_334 : Cond.methodLink RX8 304 yX0_count ∈ zt := zt_at 334 rfl rfl
set_option maxRecDepth 1000000 in
theorem w_337 : mX0_count.cond ∈ zt := zt_at 337 rfl rfl
set_option maxRecDepth 1000000 in
theorem w_335 : Cond.instanceMethod yX0_count ∈ zt := zt_at 335 rfl rfl
set_option maxRecDepth 1000000 in
theorem w_336 : Cond.selects RX0 yX0_count yX0_count ∈ zt := zt_at 336 rfl rfl
set_option maxRecDepth 1000000 in
theorem qX0_count : (mX0_count.y.cls ≠ "java/lang/invoke/MethodHandle" ∧ mX0_count.y.cls ≠ "java/lang/invoke/VarHandle") ∧ (parseMethodDescriptor mX0_count.y.desc).map (fun d => d.parameters.length) = some 0 := by decide +kernel
set_option maxRecDepth 1000000 in
theorem kX8_304 : zCalV RX8 304 mX0_count 0 := ⟨⟨w_334, w_71, w_337, qX0_count.1, qX0_count.2⟩, w_335, w_336, rfl⟩
set_option maxRecDepth 1000000 in
theorem w_371 : Cond.methodLink RX8 318 yX0_meets ∈ zt := zt_at 371 rfl rfl
set_option maxRecDepth 1000000 in
theorem w_374 : mX0_meets.cond ∈ zt := zt_at 374 rfl rfl
set_option maxRecDepth 1000000 in
theorem w_372 : Cond.instanceMethod yX0_meets ∈ zt := zt_at 372 rfl rfl
set_option maxRecDepth 1000000 in
theorem w_373 : Cond.selects RX0 yX0_meets yX0_meets ∈ zt := zt_at 373 rfl rfl
set_option maxRecDepth 1000000 in
theorem qX0_meets : (mX0_meets.y.cls ≠ "java/lang/invoke/MethodHandle" ∧ mX0_meets.y.cls ≠ "java/lang/invoke/VarHandle") ∧ (parseMethodDescriptor mX0_meets.y.desc).map (fun d => d.parameters.length) = some 3 := by decide +kernel
set_option maxRecDepth 1000000 in
theorem kX8_318 : zCalV RX8 318 mX0_meets 3 := ⟨⟨w_371, w_71, w_374, qX0_meets.1, qX0_meets.2⟩, w_372, w_373, rfl⟩
set_option maxRecDepth 1000000 in
theorem w_459 : Cond.methodLink RX8 322 yX6_load ∈ zt := zt_at 459 rfl rfl
set_option maxRecDepth 1000000 in
theorem w_462 : mX6_load.cond ∈ zt := zt_at 462 rfl rfl
set_option maxRecDepth 1000000 in
theorem w_460 : Cond.instanceMethod yX6_load ∈ zt := zt_at 460 rfl rfl
set_option maxRecDepth 1000000 in
theorem w_461 : Cond.selects RX6 yX6_load yX6_load ∈ zt := zt_at 461 rfl rfl
set_option maxRecDepth 1000000 in
theorem qX6_load : (mX6_load.y.cls ≠ "java/lang/invoke/MethodHandle" ∧ mX6_load.y.cls ≠ "java/lang/invoke/VarHandle") ∧ (parseMethodDescriptor mX6_load.y.desc).map (fun d => d.parameters.length) = some 3 := by decide +kernel
set_option maxRecDepth 1000000 in
theorem kX8_322 : zCalV RX8 322 mX6_load 3 := ⟨⟨w_459, w_74, w_462, qX6_load.1, qX6_load.2⟩, w_460, w_461, rfl⟩
set_option maxRecDepth 1000000 in
theorem w_512 : Cond.methodLink RX8 325 yX6_loadWishes ∈ zt := zt_at 512 rfl rfl
set_option maxRecDepth 1000000 in
theorem w_515 : mX6_loadWishes.cond ∈ zt := zt_at 515 rfl rfl
set_option maxRecDepth 1000000 in
theorem w_513 : Cond.instanceMethod yX6_loadWishes ∈ zt := zt_at 513 rfl rfl
set_option maxRecDepth 1000000 in
theorem w_514 : Cond.selects RX6 yX6_loadWishes yX6_loadWishes ∈ zt := zt_at 514 rfl rfl
set_option maxRecDepth 1000000 in
theorem qX6_loadWishes : (mX6_loadWishes.y.cls ≠ "java/lang/invoke/MethodHandle" ∧ mX6_loadWishes.y.cls ≠ "java/lang/invoke/VarHandle") ∧ (parseMethodDescriptor mX6_loadWishes.y.desc).map (fun d => d.parameters.length) = some 2 := by decide +kernel
set_option maxRecDepth 1000000 in
theorem kX8_325 : zCalV RX8 325 mX6_loadWishes 2 := ⟨⟨w_512, w_74, w_515, qX6_loadWishes.1, qX6_loadWishes.2⟩, w_513, w_514, rfl⟩
set_option maxRecDepth 1000000 in
theorem w_559 : Cond.methodLink RX8 329 yX6_searchTidiest ∈ zt := zt_at 559 rfl rfl
set_option maxRecDepth 1000000 in
theorem w_562 : mX6_searchTidiest.cond ∈ zt := zt_at 562 rfl rfl
set_option maxRecDepth 1000000 in
theorem w_560 : Cond.instanceMethod yX6_searchTidiest ∈ zt := zt_at 560 rfl rfl
set_option maxRecDepth 1000000 in
theorem w_561 : Cond.selects RX6 yX6_searchTidiest yX6_searchTidiest ∈ zt := zt_at 561 rfl rfl
set_option maxRecDepth 1000000 in
theorem qX6_searchTidiest : (mX6_searchTidiest.y.cls ≠ "java/lang/invoke/MethodHandle" ∧ mX6_searchTidiest.y.cls ≠ "java/lang/invoke/VarHandle") ∧ (parseMethodDescriptor mX6_searchTidiest.y.desc).map (fun d => d.parameters.length) = some 0 := by decide +kernel
set_option maxRecDepth 1000000 in
theorem kX8_329 : zCalV RX8 329 mX6_searchTidiest 0 := ⟨⟨w_559, w_74, w_562, qX6_searchTidiest.1, qX6_searchTidiest.2⟩, w_560, w_561, rfl⟩
set_option maxRecDepth 1000000 in
theorem w_108 : Cond.methodLink RX0 11 yX4_init ∈ zt := zt_at 108 rfl rfl
set_option maxRecDepth 1000000 in
theorem kX0_11 : zCalI RX0 11 mX4_init 1 := ⟨⟨w_108, w_72, w_110, qX4_init.1, qX4_init.2⟩, w_109, rfl, rfl⟩
set_option maxRecDepth 1000000 in
theorem w_338 : Cond.methodLink RX0 27 yX4_length ∈ zt := zt_at 338 rfl rfl
set_option maxRecDepth 1000000 in
theorem kX0_27 : zCalV RX0 27 mX4_length 0 := ⟨⟨w_338, w_72, w_341, qX4_length.1, qX4_length.2⟩, w_339, w_340, rfl⟩
set_option maxRecDepth 1000000 in
theorem w_772 : Cond.methodLink RX0 31 yX4_append ∈ zt := zt_at 772 rfl rfl
set_option maxRecDepth 1000000 in
theorem kX0_31 : zCalV RX0 31 mX4_append 1 := ⟨⟨w_772, w_72, w_497, qX4_append.1, qX4_append.2⟩, w_495, w_496, rfl⟩
set_option maxRecDepth 1000000 in
theorem w_346 : Cond.methodLink RX0 34 yX4_get ∈ zt := zt_at 346 rfl rfl
set_option maxRecDepth 1000000 in
theorem kX0_34 : zCalV RX0 34 mX4_get 1 := ⟨⟨w_346, w_72, w_349, qX4_get.1, qX4_get.2⟩, w_347, w_348, rfl⟩
set_option maxRecDepth 1000000 in
theorem w_861 : Cond.methodLink RX0 38 yX4_set ∈ zt := zt_at 861 rfl rfl
set_option maxRecDepth 1000000 in
theorem kX0_38 : zCalV RX0 38 mX4_set 2 := ⟨⟨w_861, w_72, w_493, qX4_set.1, qX4_set.2⟩, w_491, w_492, rfl⟩
set_option maxRecDepth 1000000 in
theorem w_476 : Cond.methodLink RX0 48 yX4_clear ∈ zt := zt_at 476 rfl rfl
set_option maxRecDepth 1000000 in
theorem w_470 : mX4_clear.cond ∈ zt := zt_at 470 rfl rfl
set_option maxRecDepth 1000000 in
theorem w_468 : Cond.instanceMethod yX4_clear ∈ zt := zt_at 468 rfl rfl
set_option maxRecDepth 1000000 in
theorem w_469 : Cond.selects RX4 yX4_clear yX4_clear ∈ zt := zt_at 469 rfl rfl
set_option maxRecDepth 1000000 in
theorem qX4_clear : (mX4_clear.y.cls ≠ "java/lang/invoke/MethodHandle" ∧ mX4_clear.y.cls ≠ "java/lang/invoke/VarHandle") ∧ (parseMethodDescriptor mX4_clear.y.desc).map (fun d => d.parameters.length) = some 0 := by decide +kernel
set_option maxRecDepth 1000000 in
theorem kX0_48 : zCalV RX0 48 mX4_clear 0 := ⟨⟨w_476, w_72, w_470, qX4_clear.1, qX4_clear.2⟩, w_468, w_469, rfl⟩
set_option maxRecDepth 1000000 in
theorem w_477 : Cond.methodLink RX0 51 yX4_insert ∈ zt := zt_at 477 rfl rfl
set_option maxRecDepth 1000000 in
theorem w_480 : mX4_insert.cond ∈ zt := zt_at 480 rfl rfl
set_option maxRecDepth 1000000 in
theorem w_478 : Cond.instanceMethod yX4_insert ∈ zt := zt_at 478 rfl rfl
set_option maxRecDepth 1000000 in
theorem w_479 : Cond.selects RX4 yX4_insert yX4_insert ∈ zt := zt_at 479 rfl rfl
set_option maxRecDepth 1000000 in
theorem qX4_insert : (mX4_insert.y.cls ≠ "java/lang/invoke/MethodHandle" ∧ mX4_insert.y.cls ≠ "java/lang/invoke/VarHandle") ∧ (parseMethodDescriptor mX4_insert.y.desc).map (fun d => d.parameters.length) = some 1 := by decide +kernel
set_option maxRecDepth 1000000 in
theorem kX0_51 : zCalV RX0 51 mX4_insert 1 := ⟨⟨w_477, w_72, w_480, qX4_insert.1, qX4_insert.2⟩, w_478, w_479, rfl⟩
set_option maxRecDepth 1000000 in
theorem w_481 : Cond.methodLink RX0 54 yX4_contains ∈ zt := zt_at 481 rfl rfl
set_option maxRecDepth 1000000 in
theorem w_484 : mX4_contains.cond ∈ zt := zt_at 484 rfl rfl
set_option maxRecDepth 1000000 in
theorem w_482 : Cond.instanceMethod yX4_contains ∈ zt := zt_at 482 rfl rfl
set_option maxRecDepth 1000000 in
theorem w_483 : Cond.selects RX4 yX4_contains yX4_contains ∈ zt := zt_at 483 rfl rfl
set_option maxRecDepth 1000000 in
theorem qX4_contains : (mX4_contains.y.cls ≠ "java/lang/invoke/MethodHandle" ∧ mX4_contains.y.cls ≠ "java/lang/invoke/VarHandle") ∧ (parseMethodDescriptor mX4_contains.y.desc).map (fun d => d.parameters.length) = some 1 := by decide +kernel
set_option maxRecDepth 1000000 in
theorem kX0_54 : zCalV RX0 54 mX4_contains 1 := ⟨⟨w_481, w_72, w_484, qX4_contains.1, qX4_contains.2⟩, w_482, w_483, rfl⟩
set_option maxRecDepth 1000000 in
theorem w_1122 : Cond.methodLink RX0 58 yX0_twiceEdge ∈ zt := zt_at 1122 rfl rfl
set_option maxRecDepth 1000000 in
theorem w_1007 : mX0_twiceEdge.cond ∈ zt := zt_at 1007 rfl rfl
set_option maxRecDepth 1000000 in
theorem w_1005 : Cond.instanceMethod yX0_twiceEdge ∈ zt := zt_at 1005 rfl rfl
set_option maxRecDepth 1000000 in
theorem w_1006 : Cond.selects RX0 yX0_twiceEdge yX0_twiceEdge ∈ zt := zt_at 1006 rfl rfl
set_option maxRecDepth 1000000 in
theorem qX0_twiceEdge : (mX0_twiceEdge.y.cls ≠ "java/lang/invoke/MethodHandle" ∧ mX0_twiceEdge.y.cls ≠ "java/lang/invoke/VarHandle") ∧ (parseMethodDescriptor mX0_twiceEdge.y.desc).map (fun d => d.parameters.length) = some 2 := by decide +kernel
set_option maxRecDepth 1000000 in
theorem kX0_58 : zCalV RX0 58 mX0_twiceEdge 2 := ⟨⟨w_1122, w_71, w_1007, qX0_twiceEdge.1, qX0_twiceEdge.2⟩, w_1005, w_1006, rfl⟩
set_option maxRecDepth 1000000 in
theorem w_1123 : Cond.methodLink RX0 61 yX0_isEdgeOfLower ∈ zt := zt_at 1123 rfl rfl
set_option maxRecDepth 1000000 in
theorem w_1126 : mX0_isEdgeOfLower.cond ∈ zt := zt_at 1126 rfl rfl
set_option maxRecDepth 1000000 in
theorem w_1125 : Cond.instanceMethod yX0_isEdgeOfLower ∈ zt := zt_at 1125 rfl rfl
set_option maxRecDepth 1000000 in
theorem w_35 : Cond.selects RX0 yX0_isEdgeOfLower yX0_isEdgeOfLower ∈ zt := zt_at 35 rfl rfl
set_option maxRecDepth 1000000 in
theorem qX0_isEdgeOfLower : (mX0_isEdgeOfLower.y.cls ≠ "java/lang/invoke/MethodHandle" ∧ mX0_isEdgeOfLower.y.cls ≠ "java/lang/invoke/VarHandle") ∧ (parseMethodDescriptor mX0_isEdgeOfLower.y.desc).map (fun d => d.parameters.length) = some 2 := by decide +kernel
set_option maxRecDepth 1000000 in
theorem kX0_61 : zCalV RX0 61 mX0_isEdgeOfLower 2 := ⟨⟨w_1123, w_71, w_1126, qX0_isEdgeOfLower.1, qX0_isEdgeOfLower.2⟩, w_1125, w_35, rfl⟩
set_option maxRecDepth 1000000 in
theorem w_169 : Cond.methodLink RX1 11 yX4_init ∈ zt := zt_at 169 rfl rfl
set_option maxRecDepth 1000000 in
theorem kX1_11 : zCalI RX1 11 mX4_init 1 := ⟨⟨w_169, w_72, w_110, qX4_init.1, qX4_init.2⟩, w_109, rfl, rfl⟩
set_option maxRecDepth 1000000 in
theorem w_467 : Cond.methodLink RX1 26 yX4_clear ∈ zt := zt_at 467 rfl rfl
set_option maxRecDepth 1000000 in
theorem kX1_26 : zCalV RX1 26 mX4_clear 0 := ⟨⟨w_467, w_72, w_470, qX4_clear.1, qX4_clear.2⟩, w_468, w_469, rfl⟩
set_option maxRecDepth 1000000 in
theorem w_471 : Cond.methodLink RX1 29 yX0_count ∈ zt := zt_at 471 rfl rfl
set_option maxRecDepth 1000000 in
theorem kX1_29 : zCalV RX1 29 mX0_count 0 := ⟨⟨w_471, w_71, w_337, qX0_count.1, qX0_count.2⟩, w_335, w_336, rfl⟩
set_option maxRecDepth 1000000 in
theorem w_472 : Cond.methodLink RX1 35 yX0_listSnaps ∈ zt := zt_at 472 rfl rfl
set_option maxRecDepth 1000000 in
theorem kX1_35 : zCalV RX1 35 mX0_listSnaps 2 := ⟨⟨w_472, w_71, w_475, qX0_listSnaps.1, qX0_listSnaps.2⟩, w_473, w_474, rfl⟩
set_option maxRecDepth 1000000 in
theorem w_485 : Cond.methodLink RX1 39 yX4_length ∈ zt := zt_at 485 rfl rfl
set_option maxRecDepth 1000000 in
theorem kX1_39 : zCalV RX1 39 mX4_length 0 := ⟨⟨w_485, w_72, w_341, qX4_length.1, qX4_length.2⟩, w_339, w_340, rfl⟩
set_option maxRecDepth 1000000 in
theorem w_486 : Cond.methodLink RX1 42 yX4_get ∈ zt := zt_at 486 rfl rfl
set_option maxRecDepth 1000000 in
theorem kX1_42 : zCalV RX1 42 mX4_get 1 := ⟨⟨w_486, w_72, w_349, qX4_get.1, qX4_get.2⟩, w_347, w_348, rfl⟩
set_option maxRecDepth 1000000 in
theorem w_487 : Cond.methodLink RX1 46 yX0_startAt ∈ zt := zt_at 487 rfl rfl
set_option maxRecDepth 1000000 in
theorem kX1_46 : zCalV RX1 46 mX0_startAt 1 := ⟨⟨w_487, w_71, w_362, qX0_startAt.1, qX0_startAt.2⟩, w_360, w_361, rfl⟩
set_option maxRecDepth 1000000 in
theorem w_488 : Cond.methodLink RX1 49 yX0_sizeAt ∈ zt := zt_at 488 rfl rfl
set_option maxRecDepth 1000000 in
theorem kX1_49 : zCalV RX1 49 mX0_sizeAt 1 := ⟨⟨w_488, w_71, w_345, qX0_sizeAt.1, qX0_sizeAt.2⟩, w_343, w_344, rfl⟩
set_option maxRecDepth 1000000 in
theorem w_489 : Cond.methodLink RX1 52 yX0_holds ∈ zt := zt_at 489 rfl rfl
set_option maxRecDepth 1000000 in
theorem kX1_52 : zCalV RX1 52 mX0_holds 2 := ⟨⟨w_489, w_71, w_366, qX0_holds.1, qX0_holds.2⟩, w_364, w_365, rfl⟩
set_option maxRecDepth 1000000 in
theorem w_490 : Cond.methodLink RX1 56 yX4_set ∈ zt := zt_at 490 rfl rfl
set_option maxRecDepth 1000000 in
theorem kX1_56 : zCalV RX1 56 mX4_set 2 := ⟨⟨w_490, w_72, w_493, qX4_set.1, qX4_set.2⟩, w_491, w_492, rfl⟩
set_option maxRecDepth 1000000 in
theorem w_494 : Cond.methodLink RX1 60 yX4_append ∈ zt := zt_at 494 rfl rfl
set_option maxRecDepth 1000000 in
theorem kX1_60 : zCalV RX1 60 mX4_append 1 := ⟨⟨w_494, w_72, w_497, qX4_append.1, qX4_append.2⟩, w_495, w_496, rfl⟩
set_option maxRecDepth 1000000 in
theorem w_244 : Cond.methodLink RX2 11 yX4_init ∈ zt := zt_at 244 rfl rfl
set_option maxRecDepth 1000000 in
theorem kX2_11 : zCalI RX2 11 mX4_init 1 := ⟨⟨w_244, w_72, w_110, qX4_init.1, qX4_init.2⟩, w_109, rfl, rfl⟩
set_option maxRecDepth 1000000 in
theorem w_628 : Cond.methodLink RX2 32 yX2_listOrder ∈ zt := zt_at 628 rfl rfl
set_option maxRecDepth 1000000 in
theorem w_631 : mX2_listOrder.cond ∈ zt := zt_at 631 rfl rfl
set_option maxRecDepth 1000000 in
theorem w_630 : Cond.instanceMethod yX2_listOrder ∈ zt := zt_at 630 rfl rfl
set_option maxRecDepth 1000000 in
theorem w_13 : Cond.selects RX2 yX2_listOrder yX2_listOrder ∈ zt := zt_at 13 rfl rfl
set_option maxRecDepth 1000000 in
theorem qX2_listOrder : (mX2_listOrder.y.cls ≠ "java/lang/invoke/MethodHandle" ∧ mX2_listOrder.y.cls ≠ "java/lang/invoke/VarHandle") ∧ (parseMethodDescriptor mX2_listOrder.y.desc).map (fun d => d.parameters.length) = some 1 := by decide +kernel
set_option maxRecDepth 1000000 in
theorem kX2_32 : zCalV RX2 32 mX2_listOrder 1 := ⟨⟨w_628, w_77, w_631, qX2_listOrder.1, qX2_listOrder.2⟩, w_630, w_13, rfl⟩
set_option maxRecDepth 1000000 in
theorem w_632 : Cond.methodLink RX2 36 yX4_clear ∈ zt := zt_at 632 rfl rfl
set_option maxRecDepth 1000000 in
theorem kX2_36 : zCalV RX2 36 mX4_clear 0 := ⟨⟨w_632, w_72, w_470, qX4_clear.1, qX4_clear.2⟩, w_468, w_469, rfl⟩
set_option maxRecDepth 1000000 in
theorem w_636 : Cond.methodLink RX2 39 yX4_length ∈ zt := zt_at 636 rfl rfl
set_option maxRecDepth 1000000 in
theorem kX2_39 : zCalV RX2 39 mX4_length 0 := ⟨⟨w_636, w_72, w_341, qX4_length.1, qX4_length.2⟩, w_339, w_340, rfl⟩
set_option maxRecDepth 1000000 in
theorem w_637 : Cond.methodLink RX2 43 yX4_get ∈ zt := zt_at 637 rfl rfl
set_option maxRecDepth 1000000 in
theorem kX2_43 : zCalV RX2 43 mX4_get 1 := ⟨⟨w_637, w_72, w_349, qX4_get.1, qX4_get.2⟩, w_347, w_348, rfl⟩
set_option maxRecDepth 1000000 in
theorem w_634 : Cond.methodLink RX2 47 yX0_startAt ∈ zt := zt_at 634 rfl rfl
set_option maxRecDepth 1000000 in
theorem kX2_47 : zCalV RX2 47 mX0_startAt 1 := ⟨⟨w_634, w_71, w_362, qX0_startAt.1, qX0_startAt.2⟩, w_360, w_361, rfl⟩
set_option maxRecDepth 1000000 in
theorem w_639 : Cond.methodLink RX2 52 yX4_append ∈ zt := zt_at 639 rfl rfl
set_option maxRecDepth 1000000 in
theorem kX2_52 : zCalV RX2 52 mX4_append 1 := ⟨⟨w_639, w_72, w_497, qX4_append.1, qX4_append.2⟩, w_495, w_496, rfl⟩
set_option maxRecDepth 1000000 in
theorem w_640 : Cond.methodLink RX2 55 yX0_sizeAt ∈ zt := zt_at 640 rfl rfl
set_option maxRecDepth 1000000 in
theorem kX2_55 : zCalV RX2 55 mX0_sizeAt 1 := ⟨⟨w_640, w_71, w_345, qX0_sizeAt.1, qX0_sizeAt.2⟩, w_343, w_344, rfl⟩
set_option maxRecDepth 1000000 in
theorem w_641 : Cond.methodLink RX2 58 yX0_limit ∈ zt := zt_at 641 rfl rfl
set_option maxRecDepth 1000000 in
theorem w_644 : mX0_limit.cond ∈ zt := zt_at 644 rfl rfl
set_option maxRecDepth 1000000 in
theorem w_642 : Cond.instanceMethod yX0_limit ∈ zt := zt_at 642 rfl rfl
set_option maxRecDepth 1000000 in
theorem w_643 : Cond.selects RX0 yX0_limit yX0_limit ∈ zt := zt_at 643 rfl rfl
set_option maxRecDepth 1000000 in
theorem qX0_limit : (mX0_limit.y.cls ≠ "java/lang/invoke/MethodHandle" ∧ mX0_limit.y.cls ≠ "java/lang/invoke/VarHandle") ∧ (parseMethodDescriptor mX0_limit.y.desc).map (fun d => d.parameters.length) = some 0 := by decide +kernel
set_option maxRecDepth 1000000 in
theorem kX2_58 : zCalV RX2 58 mX0_limit 0 := ⟨⟨w_641, w_71, w_644, qX0_limit.1, qX0_limit.2⟩, w_642, w_643, rfl⟩
set_option maxRecDepth 1000000 in
theorem w_633 : Cond.methodLink RX2 65 yX0_count ∈ zt := zt_at 633 rfl rfl
set_option maxRecDepth 1000000 in
theorem kX2_65 : zCalV RX2 65 mX0_count 0 := ⟨⟨w_633, w_71, w_337, qX0_count.1, qX0_count.2⟩, w_335, w_336, rfl⟩
set_option maxRecDepth 1000000 in
theorem w_635 : Cond.methodLink RX2 68 yX4_insert ∈ zt := zt_at 635 rfl rfl
set_option maxRecDepth 1000000 in
theorem kX2_68 : zCalV RX2 68 mX4_insert 1 := ⟨⟨w_635, w_72, w_480, qX4_insert.1, qX4_insert.2⟩, w_478, w_479, rfl⟩
set_option maxRecDepth 1000000 in
theorem w_638 : Cond.methodLink RX2 71 yX4_set ∈ zt := zt_at 638 rfl rfl
set_option maxRecDepth 1000000 in
theorem kX2_71 : zCalV RX2 71 mX4_set 2 := ⟨⟨w_638, w_72, w_493, qX4_set.1, qX4_set.2⟩, w_491, w_492, rfl⟩
set_option maxRecDepth 1000000 in
theorem w_661 : Cond.methodLink RX2 84 yX2_startInPlace ∈ zt := zt_at 661 rfl rfl
set_option maxRecDepth 1000000 in
theorem w_664 : mX2_startInPlace.cond ∈ zt := zt_at 664 rfl rfl
set_option maxRecDepth 1000000 in
theorem w_663 : Cond.instanceMethod yX2_startInPlace ∈ zt := zt_at 663 rfl rfl
set_option maxRecDepth 1000000 in
theorem w_17 : Cond.selects RX2 yX2_startInPlace yX2_startInPlace ∈ zt := zt_at 17 rfl rfl
set_option maxRecDepth 1000000 in
theorem qX2_startInPlace : (mX2_startInPlace.y.cls ≠ "java/lang/invoke/MethodHandle" ∧ mX2_startInPlace.y.cls ≠ "java/lang/invoke/VarHandle") ∧ (parseMethodDescriptor mX2_startInPlace.y.desc).map (fun d => d.parameters.length) = some 3 := by decide +kernel
set_option maxRecDepth 1000000 in
theorem kX2_84 : zCalV RX2 84 mX2_startInPlace 3 := ⟨⟨w_661, w_77, w_664, qX2_startInPlace.1, qX2_startInPlace.2⟩, w_663, w_17, rfl⟩
set_option maxRecDepth 1000000 in
theorem w_649 : Cond.methodLink RX2 88 yX2_bestStart ∈ zt := zt_at 649 rfl rfl
set_option maxRecDepth 1000000 in
theorem w_652 : mX2_bestStart.cond ∈ zt := zt_at 652 rfl rfl
set_option maxRecDepth 1000000 in
theorem w_651 : Cond.instanceMethod yX2_bestStart ∈ zt := zt_at 651 rfl rfl
set_option maxRecDepth 1000000 in
theorem w_14 : Cond.selects RX2 yX2_bestStart yX2_bestStart ∈ zt := zt_at 14 rfl rfl
set_option maxRecDepth 1000000 in
theorem qX2_bestStart : (mX2_bestStart.y.cls ≠ "java/lang/invoke/MethodHandle" ∧ mX2_bestStart.y.cls ≠ "java/lang/invoke/VarHandle") ∧ (parseMethodDescriptor mX2_bestStart.y.desc).map (fun d => d.parameters.length) = some 1 := by decide +kernel
set_option maxRecDepth 1000000 in
theorem kX2_88 : zCalV RX2 88 mX2_bestStart 1 := ⟨⟨w_649, w_77, w_652, qX2_bestStart.1, qX2_bestStart.2⟩, w_651, w_14, rfl⟩
set_option maxRecDepth 1000000 in
theorem w_671 : Cond.methodLink RX2 91 yX2_compare ∈ zt := zt_at 671 rfl rfl
set_option maxRecDepth 1000000 in
theorem w_674 : mX2_compare.cond ∈ zt := zt_at 674 rfl rfl
set_option maxRecDepth 1000000 in
theorem w_673 : Cond.instanceMethod yX2_compare ∈ zt := zt_at 673 rfl rfl
set_option maxRecDepth 1000000 in
theorem w_19 : Cond.selects RX2 yX2_compare yX2_compare ∈ zt := zt_at 19 rfl rfl
set_option maxRecDepth 1000000 in
theorem qX2_compare : (mX2_compare.y.cls ≠ "java/lang/invoke/MethodHandle" ∧ mX2_compare.y.cls ≠ "java/lang/invoke/VarHandle") ∧ (parseMethodDescriptor mX2_compare.y.desc).map (fun d => d.parameters.length) = some 2 := by decide +kernel
set_option maxRecDepth 1000000 in
theorem kX2_91 : zCalV RX2 91 mX2_compare 2 := ⟨⟨w_671, w_77, w_674, qX2_compare.1, qX2_compare.2⟩, w_673, w_19, rfl⟩
set_option maxRecDepth 1000000 in
theorem w_653 : Cond.methodLink RX2 94 yX2_lastStart ∈ zt := zt_at 653 rfl rfl
set_option maxRecDepth 1000000 in
theorem w_656 : mX2_lastStart.cond ∈ zt := zt_at 656 rfl rfl
set_option maxRecDepth 1000000 in
theorem w_655 : Cond.instanceMethod yX2_lastStart ∈ zt := zt_at 655 rfl rfl
set_option maxRecDepth 1000000 in
theorem w_15 : Cond.selects RX2 yX2_lastStart yX2_lastStart ∈ zt := zt_at 15 rfl rfl
set_option maxRecDepth 1000000 in
theorem qX2_lastStart : (mX2_lastStart.y.cls ≠ "java/lang/invoke/MethodHandle" ∧ mX2_lastStart.y.cls ≠ "java/lang/invoke/VarHandle") ∧ (parseMethodDescriptor mX2_lastStart.y.desc).map (fun d => d.parameters.length) = some 1 := by decide +kernel
set_option maxRecDepth 1000000 in
theorem kX2_94 : zCalV RX2 94 mX2_lastStart 1 := ⟨⟨w_653, w_77, w_656, qX2_lastStart.1, qX2_lastStart.2⟩, w_655, w_15, rfl⟩
set_option maxRecDepth 1000000 in
theorem w_667 : Cond.methodLink RX2 97 yX2_keepsLocks ∈ zt := zt_at 667 rfl rfl
set_option maxRecDepth 1000000 in
theorem w_670 : mX2_keepsLocks.cond ∈ zt := zt_at 670 rfl rfl
set_option maxRecDepth 1000000 in
theorem w_669 : Cond.instanceMethod yX2_keepsLocks ∈ zt := zt_at 669 rfl rfl
set_option maxRecDepth 1000000 in
theorem w_18 : Cond.selects RX2 yX2_keepsLocks yX2_keepsLocks ∈ zt := zt_at 18 rfl rfl
set_option maxRecDepth 1000000 in
theorem qX2_keepsLocks : (mX2_keepsLocks.y.cls ≠ "java/lang/invoke/MethodHandle" ∧ mX2_keepsLocks.y.cls ≠ "java/lang/invoke/VarHandle") ∧ (parseMethodDescriptor mX2_keepsLocks.y.desc).map (fun d => d.parameters.length) = some 2 := by decide +kernel
set_option maxRecDepth 1000000 in
theorem kX2_97 : zCalV RX2 97 mX2_keepsLocks 2 := ⟨⟨w_667, w_77, w_670, qX2_keepsLocks.1, qX2_keepsLocks.2⟩, w_669, w_18, rfl⟩
set_option maxRecDepth 1000000 in
theorem w_675 : Cond.methodLink RX2 101 yX2_costOf ∈ zt := zt_at 675 rfl rfl
set_option maxRecDepth 1000000 in
theorem w_678 : mX2_costOf.cond ∈ zt := zt_at 678 rfl rfl
set_option maxRecDepth 1000000 in
theorem w_677 : Cond.instanceMethod yX2_costOf ∈ zt := zt_at 677 rfl rfl
set_option maxRecDepth 1000000 in
theorem w_20 : Cond.selects RX2 yX2_costOf yX2_costOf ∈ zt := zt_at 20 rfl rfl
set_option maxRecDepth 1000000 in
theorem qX2_costOf : (mX2_costOf.y.cls ≠ "java/lang/invoke/MethodHandle" ∧ mX2_costOf.y.cls ≠ "java/lang/invoke/VarHandle") ∧ (parseMethodDescriptor mX2_costOf.y.desc).map (fun d => d.parameters.length) = some 2 := by decide +kernel
set_option maxRecDepth 1000000 in
theorem kX2_101 : zCalV RX2 101 mX2_costOf 2 := ⟨⟨w_675, w_77, w_678, qX2_costOf.1, qX2_costOf.2⟩, w_677, w_20, rfl⟩
set_option maxRecDepth 1000000 in
theorem w_657 : Cond.methodLink RX2 110 yX2_stayOf ∈ zt := zt_at 657 rfl rfl
set_option maxRecDepth 1000000 in
theorem w_660 : mX2_stayOf.cond ∈ zt := zt_at 660 rfl rfl
set_option maxRecDepth 1000000 in
theorem w_659 : Cond.instanceMethod yX2_stayOf ∈ zt := zt_at 659 rfl rfl
set_option maxRecDepth 1000000 in
theorem w_16 : Cond.selects RX2 yX2_stayOf yX2_stayOf ∈ zt := zt_at 16 rfl rfl
set_option maxRecDepth 1000000 in
theorem qX2_stayOf : (mX2_stayOf.y.cls ≠ "java/lang/invoke/MethodHandle" ∧ mX2_stayOf.y.cls ≠ "java/lang/invoke/VarHandle") ∧ (parseMethodDescriptor mX2_stayOf.y.desc).map (fun d => d.parameters.length) = some 2 := by decide +kernel
set_option maxRecDepth 1000000 in
theorem kX2_110 : zCalV RX2 110 mX2_stayOf 2 := ⟨⟨w_657, w_77, w_660, qX2_stayOf.1, qX2_stayOf.2⟩, w_659, w_16, rfl⟩
set_option maxRecDepth 1000000 in
theorem w_280 : Cond.methodLink RX3 11 yX4_init ∈ zt := zt_at 280 rfl rfl
set_option maxRecDepth 1000000 in
theorem kX3_11 : zCalI RX3 11 mX4_init 1 := ⟨⟨w_280, w_72, w_110, qX4_init.1, qX4_init.2⟩, w_109, rfl, rfl⟩
set_option maxRecDepth 1000000 in
theorem w_709 : Cond.methodLink RX3 23 yX0_gapBetween ∈ zt := zt_at 709 rfl rfl
set_option maxRecDepth 1000000 in
theorem w_712 : mX0_gapBetween.cond ∈ zt := zt_at 712 rfl rfl
set_option maxRecDepth 1000000 in
theorem w_710 : Cond.instanceMethod yX0_gapBetween ∈ zt := zt_at 710 rfl rfl
set_option maxRecDepth 1000000 in
theorem w_711 : Cond.selects RX0 yX0_gapBetween yX0_gapBetween ∈ zt := zt_at 711 rfl rfl
set_option maxRecDepth 1000000 in
theorem qX0_gapBetween : (mX0_gapBetween.y.cls ≠ "java/lang/invoke/MethodHandle" ∧ mX0_gapBetween.y.cls ≠ "java/lang/invoke/VarHandle") ∧ (parseMethodDescriptor mX0_gapBetween.y.desc).map (fun d => d.parameters.length) = some 2 := by decide +kernel
set_option maxRecDepth 1000000 in
theorem kX3_23 : zCalV RX3 23 mX0_gapBetween 2 := ⟨⟨w_709, w_71, w_712, qX0_gapBetween.1, qX0_gapBetween.2⟩, w_710, w_711, rfl⟩
set_option maxRecDepth 1000000 in
theorem w_699 : Cond.methodLink RX3 34 yX4_get ∈ zt := zt_at 699 rfl rfl
set_option maxRecDepth 1000000 in
theorem kX3_34 : zCalV RX3 34 mX4_get 1 := ⟨⟨w_699, w_72, w_349, qX4_get.1, qX4_get.2⟩, w_347, w_348, rfl⟩
set_option maxRecDepth 1000000 in
theorem w_696 : Cond.methodLink RX3 38 yX4_clear ∈ zt := zt_at 696 rfl rfl
set_option maxRecDepth 1000000 in
theorem kX3_38 : zCalV RX3 38 mX4_clear 0 := ⟨⟨w_696, w_72, w_470, qX4_clear.1, qX4_clear.2⟩, w_468, w_469, rfl⟩
set_option maxRecDepth 1000000 in
theorem w_697 : Cond.methodLink RX3 41 yX0_count ∈ zt := zt_at 697 rfl rfl
set_option maxRecDepth 1000000 in
theorem kX3_41 : zCalV RX3 41 mX0_count 0 := ⟨⟨w_697, w_71, w_337, qX0_count.1, qX0_count.2⟩, w_335, w_336, rfl⟩
set_option maxRecDepth 1000000 in
theorem w_698 : Cond.methodLink RX3 45 yX4_append ∈ zt := zt_at 698 rfl rfl
set_option maxRecDepth 1000000 in
theorem kX3_45 : zCalV RX3 45 mX4_append 1 := ⟨⟨w_698, w_72, w_497, qX4_append.1, qX4_append.2⟩, w_495, w_496, rfl⟩
set_option maxRecDepth 1000000 in
theorem w_700 : Cond.methodLink RX3 48 yX3_goFrom ∈ zt := zt_at 700 rfl rfl
set_option maxRecDepth 1000000 in
theorem w_703 : mX3_goFrom.cond ∈ zt := zt_at 703 rfl rfl
set_option maxRecDepth 1000000 in
theorem w_702 : Cond.instanceMethod yX3_goFrom ∈ zt := zt_at 702 rfl rfl
set_option maxRecDepth 1000000 in
theorem w_22 : Cond.selects RX3 yX3_goFrom yX3_goFrom ∈ zt := zt_at 22 rfl rfl
set_option maxRecDepth 1000000 in
theorem qX3_goFrom : (mX3_goFrom.y.cls ≠ "java/lang/invoke/MethodHandle" ∧ mX3_goFrom.y.cls ≠ "java/lang/invoke/VarHandle") ∧ (parseMethodDescriptor mX3_goFrom.y.desc).map (fun d => d.parameters.length) = some 4 := by decide +kernel
set_option maxRecDepth 1000000 in
theorem kX3_48 : zCalV RX3 48 mX3_goFrom 4 := ⟨⟨w_700, w_78, w_703, qX3_goFrom.1, qX3_goFrom.2⟩, w_702, w_22, rfl⟩
set_option maxRecDepth 1000000 in
theorem w_704 : Cond.methodLink RX3 52 yX4_set ∈ zt := zt_at 704 rfl rfl
set_option maxRecDepth 1000000 in
theorem kX3_52 : zCalV RX3 52 mX4_set 2 := ⟨⟨w_704, w_72, w_493, qX4_set.1, qX4_set.2⟩, w_491, w_492, rfl⟩
set_option maxRecDepth 1000000 in
theorem w_705 : Cond.methodLink RX3 56 yX4_length ∈ zt := zt_at 705 rfl rfl
set_option maxRecDepth 1000000 in
theorem kX3_56 : zCalV RX3 56 mX4_length 0 := ⟨⟨w_705, w_72, w_341, qX4_length.1, qX4_length.2⟩, w_339, w_340, rfl⟩
set_option maxRecDepth 1000000 in
theorem w_706 : Cond.methodLink RX3 59 yX3_unitsBetween ∈ zt := zt_at 706 rfl rfl
set_option maxRecDepth 1000000 in
theorem kX3_59 : zCalS RX3 59 mX3_unitsBetween 4 := ⟨⟨w_706, w_78, w_708, qX3_unitsBetween.1, qX3_unitsBetween.2⟩, w_707, rfl⟩
set_option maxRecDepth 1000000 in
theorem w_719 : Cond.methodLink RX3 63 yX3_join ∈ zt := zt_at 719 rfl rfl
set_option maxRecDepth 1000000 in
theorem w_722 : mX3_join.cond ∈ zt := zt_at 722 rfl rfl
set_option maxRecDepth 1000000 in
theorem w_721 : Cond.instanceMethod yX3_join ∈ zt := zt_at 721 rfl rfl
set_option maxRecDepth 1000000 in
theorem w_23 : Cond.selects RX3 yX3_join yX3_join ∈ zt := zt_at 23 rfl rfl
set_option maxRecDepth 1000000 in
theorem qX3_join : (mX3_join.y.cls ≠ "java/lang/invoke/MethodHandle" ∧ mX3_join.y.cls ≠ "java/lang/invoke/VarHandle") ∧ (parseMethodDescriptor mX3_join.y.desc).map (fun d => d.parameters.length) = some 2 := by decide +kernel
set_option maxRecDepth 1000000 in
theorem kX3_63 : zCalV RX3 63 mX3_join 2 := ⟨⟨w_719, w_78, w_722, qX3_join.1, qX3_join.2⟩, w_721, w_23, rfl⟩
set_option maxRecDepth 1000000 in
theorem w_187 : Cond.methodLink RX5 11 yX4_init ∈ zt := zt_at 187 rfl rfl
set_option maxRecDepth 1000000 in
theorem kX5_11 : zCalI RX5 11 mX4_init 1 := ⟨⟨w_187, w_72, w_110, qX4_init.1, qX4_init.2⟩, w_109, rfl, rfl⟩
set_option maxRecDepth 1000000 in
theorem w_502 : Cond.methodLink RX5 38 yX4_clear ∈ zt := zt_at 502 rfl rfl
set_option maxRecDepth 1000000 in
theorem kX5_38 : zCalV RX5 38 mX4_clear 0 := ⟨⟨w_502, w_72, w_470, qX4_clear.1, qX4_clear.2⟩, w_468, w_469, rfl⟩
set_option maxRecDepth 1000000 in
theorem w_503 : Cond.methodLink RX5 41 yX0_count ∈ zt := zt_at 503 rfl rfl
set_option maxRecDepth 1000000 in
theorem kX5_41 : zCalV RX5 41 mX0_count 0 := ⟨⟨w_503, w_71, w_337, qX0_count.1, qX0_count.2⟩, w_335, w_336, rfl⟩
set_option maxRecDepth 1000000 in
theorem w_504 : Cond.methodLink RX5 47 yX0_sizeAt ∈ zt := zt_at 504 rfl rfl
set_option maxRecDepth 1000000 in
theorem kX5_47 : zCalV RX5 47 mX0_sizeAt 1 := ⟨⟨w_504, w_71, w_345, qX0_sizeAt.1, qX0_sizeAt.2⟩, w_343, w_344, rfl⟩
set_option maxRecDepth 1000000 in
theorem w_505 : Cond.methodLink RX5 51 yX4_append ∈ zt := zt_at 505 rfl rfl
set_option maxRecDepth 1000000 in
theorem kX5_51 : zCalV RX5 51 mX4_append 1 := ⟨⟨w_505, w_72, w_497, qX4_append.1, qX4_append.2⟩, w_495, w_496, rfl⟩
set_option maxRecDepth 1000000 in
theorem w_506 : Cond.methodLink RX5 54 yX0_startAt ∈ zt := zt_at 506 rfl rfl
set_option maxRecDepth 1000000 in
theorem kX5_54 : zCalV RX5 54 mX0_startAt 1 := ⟨⟨w_506, w_71, w_362, qX0_startAt.1, qX0_startAt.2⟩, w_360, w_361, rfl⟩
set_option maxRecDepth 1000000 in
theorem w_507 : Cond.methodLink RX5 57 yX0_meets ∈ zt := zt_at 507 rfl rfl
set_option maxRecDepth 1000000 in
theorem kX5_57 : zCalV RX5 57 mX0_meets 3 := ⟨⟨w_507, w_71, w_374, qX0_meets.1, qX0_meets.2⟩, w_372, w_373, rfl⟩
set_option maxRecDepth 1000000 in
theorem w_520 : Cond.methodLink RX5 61 yX7_addedCount ∈ zt := zt_at 520 rfl rfl
set_option maxRecDepth 1000000 in
theorem kX5_61 : zCalV RX5 61 mX7_addedCount 0 := ⟨⟨w_520, w_73, w_523, qX7_addedCount.1, qX7_addedCount.2⟩, w_521, w_522, rfl⟩
set_option maxRecDepth 1000000 in
theorem w_525 : Cond.methodLink RX5 66 yX7_isThere ∈ zt := zt_at 525 rfl rfl
set_option maxRecDepth 1000000 in
theorem kX5_66 : zCalV RX5 66 mX7_isThere 1 := ⟨⟨w_525, w_73, w_528, qX7_isThere.1, qX7_isThere.2⟩, w_526, w_527, rfl⟩
set_option maxRecDepth 1000000 in
theorem w_530 : Cond.methodLink RX5 70 yX7_axisAt ∈ zt := zt_at 530 rfl rfl
set_option maxRecDepth 1000000 in
theorem kX5_70 : zCalV RX5 70 mX7_axisAt 1 := ⟨⟨w_530, w_73, w_533, qX7_axisAt.1, qX7_axisAt.2⟩, w_531, w_532, rfl⟩
set_option maxRecDepth 1000000 in
theorem w_537 : Cond.methodLink RX5 74 yX7_shapeAt ∈ zt := zt_at 537 rfl rfl
set_option maxRecDepth 1000000 in
theorem w_540 : mX7_shapeAt.cond ∈ zt := zt_at 540 rfl rfl
set_option maxRecDepth 1000000 in
theorem w_538 : Cond.instanceMethod yX7_shapeAt ∈ zt := zt_at 538 rfl rfl
set_option maxRecDepth 1000000 in
theorem w_539 : Cond.selects RX7 yX7_shapeAt yX7_shapeAt ∈ zt := zt_at 539 rfl rfl
set_option maxRecDepth 1000000 in
theorem qX7_shapeAt : (mX7_shapeAt.y.cls ≠ "java/lang/invoke/MethodHandle" ∧ mX7_shapeAt.y.cls ≠ "java/lang/invoke/VarHandle") ∧ (parseMethodDescriptor mX7_shapeAt.y.desc).map (fun d => d.parameters.length) = some 1 := by decide +kernel
set_option maxRecDepth 1000000 in
theorem kX5_74 : zCalV RX5 74 mX7_shapeAt 1 := ⟨⟨w_537, w_73, w_540, qX7_shapeAt.1, qX7_shapeAt.2⟩, w_538, w_539, rfl⟩
set_option maxRecDepth 1000000 in
theorem w_541 : Cond.methodLink RX5 77 yX7_otherAt ∈ zt := zt_at 541 rfl rfl
set_option maxRecDepth 1000000 in
theorem w_544 : mX7_otherAt.cond ∈ zt := zt_at 544 rfl rfl
set_option maxRecDepth 1000000 in
theorem w_542 : Cond.instanceMethod yX7_otherAt ∈ zt := zt_at 542 rfl rfl
set_option maxRecDepth 1000000 in
theorem w_543 : Cond.selects RX7 yX7_otherAt yX7_otherAt ∈ zt := zt_at 543 rfl rfl
set_option maxRecDepth 1000000 in
theorem qX7_otherAt : (mX7_otherAt.y.cls ≠ "java/lang/invoke/MethodHandle" ∧ mX7_otherAt.y.cls ≠ "java/lang/invoke/VarHandle") ∧ (parseMethodDescriptor mX7_otherAt.y.desc).map (fun d => d.parameters.length) = some 1 := by decide +kernel
set_option maxRecDepth 1000000 in
theorem kX5_77 : zCalV RX5 77 mX7_otherAt 1 := ⟨⟨w_541, w_73, w_544, qX7_otherAt.1, qX7_otherAt.2⟩, w_542, w_543, rfl⟩
set_option maxRecDepth 1000000 in
theorem w_551 : Cond.methodLink RX5 89 yX7_edgeAt ∈ zt := zt_at 551 rfl rfl
set_option maxRecDepth 1000000 in
theorem w_554 : mX7_edgeAt.cond ∈ zt := zt_at 554 rfl rfl
set_option maxRecDepth 1000000 in
theorem w_552 : Cond.instanceMethod yX7_edgeAt ∈ zt := zt_at 552 rfl rfl
set_option maxRecDepth 1000000 in
theorem w_553 : Cond.selects RX7 yX7_edgeAt yX7_edgeAt ∈ zt := zt_at 553 rfl rfl
set_option maxRecDepth 1000000 in
theorem qX7_edgeAt : (mX7_edgeAt.y.cls ≠ "java/lang/invoke/MethodHandle" ∧ mX7_edgeAt.y.cls ≠ "java/lang/invoke/VarHandle") ∧ (parseMethodDescriptor mX7_edgeAt.y.desc).map (fun d => d.parameters.length) = some 1 := by decide +kernel
set_option maxRecDepth 1000000 in
theorem kX5_89 : zCalV RX5 89 mX7_edgeAt 1 := ⟨⟨w_551, w_73, w_554, qX7_edgeAt.1, qX7_edgeAt.2⟩, w_552, w_553, rfl⟩
set_option maxRecDepth 1000000 in
theorem w_555 : Cond.methodLink RX5 92 yX7_strengthAt ∈ zt := zt_at 555 rfl rfl
set_option maxRecDepth 1000000 in
theorem kX5_92 : zCalV RX5 92 mX7_strengthAt 1 := ⟨⟨w_555, w_73, w_558, qX7_strengthAt.1, qX7_strengthAt.2⟩, w_556, w_557, rfl⟩
set_option maxRecDepth 1000000 in
theorem w_567 : Cond.methodLink RX5 95 yX4_length ∈ zt := zt_at 567 rfl rfl
set_option maxRecDepth 1000000 in
theorem kX5_95 : zCalV RX5 95 mX4_length 0 := ⟨⟨w_567, w_72, w_341, qX4_length.1, qX4_length.2⟩, w_339, w_340, rfl⟩
set_option maxRecDepth 1000000 in
theorem w_568 : Cond.methodLink RX5 98 yX4_get ∈ zt := zt_at 568 rfl rfl
set_option maxRecDepth 1000000 in
theorem kX5_98 : zCalV RX5 98 mX4_get 1 := ⟨⟨w_568, w_72, w_349, qX4_get.1, qX4_get.2⟩, w_347, w_348, rfl⟩
set_option maxRecDepth 1000000 in
theorem w_164 : Cond.methodLinkNest RX6 11 yX1_init "SlideLayout" ∈ zbad := zbad_at 164 rfl rfl
set_option maxRecDepth 1000000 in
theorem w_75 : Cond.initialized RX1 ∈ zt := zt_at 75 rfl rfl
set_option maxRecDepth 1000000 in
theorem w_166 : mX1_init.cond ∈ zt := zt_at 166 rfl rfl
set_option maxRecDepth 1000000 in
theorem w_165 : Cond.instanceMethod yX1_init ∈ zt := zt_at 165 rfl rfl
set_option maxRecDepth 1000000 in
theorem qX1_init : (mX1_init.y.cls ≠ "java/lang/invoke/MethodHandle" ∧ mX1_init.y.cls ≠ "java/lang/invoke/VarHandle") ∧ (parseMethodDescriptor mX1_init.y.desc).map (fun d => d.parameters.length) = some 0 := by decide +kernel
set_option maxRecDepth 1000000 in
theorem kX6_11 : zCalIN RX6 11 mX1_init 0 "SlideLayout" := ⟨w_164, w_75, w_166, qX1_init.1, qX1_init.2, w_165, rfl, rfl⟩
set_option maxRecDepth 1000000 in
theorem w_182 : Cond.methodLinkNest RX6 20 yX5_init "SlideLayout" ∈ zbad := zbad_at 182 rfl rfl
set_option maxRecDepth 1000000 in
theorem w_76 : Cond.initialized RX5 ∈ zt := zt_at 76 rfl rfl
set_option maxRecDepth 1000000 in
theorem w_184 : mX5_init.cond ∈ zt := zt_at 184 rfl rfl
set_option maxRecDepth 1000000 in
theorem w_183 : Cond.instanceMethod yX5_init ∈ zt := zt_at 183 rfl rfl
set_option maxRecDepth 1000000 in
theorem qX5_init : (mX5_init.y.cls ≠ "java/lang/invoke/MethodHandle" ∧ mX5_init.y.cls ≠ "java/lang/invoke/VarHandle") ∧ (parseMethodDescriptor mX5_init.y.desc).map (fun d => d.parameters.length) = some 0 := by decide +kernel
set_option maxRecDepth 1000000 in
theorem kX6_20 : zCalIN RX6 20 mX5_init 0 "SlideLayout" := ⟨w_182, w_76, w_184, qX5_init.1, qX5_init.2, w_183, rfl, rfl⟩
set_option maxRecDepth 1000000 in
theorem w_211 : Cond.methodLink RX6 27 yX4_init ∈ zt := zt_at 211 rfl rfl
set_option maxRecDepth 1000000 in
theorem kX6_27 : zCalI RX6 27 mX4_init 1 := ⟨⟨w_211, w_72, w_110, qX4_init.1, qX4_init.2⟩, w_109, rfl, rfl⟩
set_option maxRecDepth 1000000 in
theorem w_463 : Cond.methodLink RX6 43 yX1_load ∈ zt := zt_at 463 rfl rfl
set_option maxRecDepth 1000000 in
theorem w_466 : mX1_load.cond ∈ zt := zt_at 466 rfl rfl
set_option maxRecDepth 1000000 in
theorem w_464 : Cond.instanceMethod yX1_load ∈ zt := zt_at 464 rfl rfl
set_option maxRecDepth 1000000 in
theorem w_465 : Cond.selects RX1 yX1_load yX1_load ∈ zt := zt_at 465 rfl rfl
set_option maxRecDepth 1000000 in
theorem qX1_load : (mX1_load.y.cls ≠ "java/lang/invoke/MethodHandle" ∧ mX1_load.y.cls ≠ "java/lang/invoke/VarHandle") ∧ (parseMethodDescriptor mX1_load.y.desc).map (fun d => d.parameters.length) = some 2 := by decide +kernel
set_option maxRecDepth 1000000 in
theorem kX6_43 : zCalV RX6 43 mX1_load 2 := ⟨⟨w_463, w_75, w_466, qX1_load.1, qX1_load.2⟩, w_464, w_465, rfl⟩
set_option maxRecDepth 1000000 in
theorem w_498 : Cond.methodLink RX6 47 yX5_load ∈ zt := zt_at 498 rfl rfl
set_option maxRecDepth 1000000 in
theorem w_501 : mX5_load.cond ∈ zt := zt_at 501 rfl rfl
set_option maxRecDepth 1000000 in
theorem w_499 : Cond.instanceMethod yX5_load ∈ zt := zt_at 499 rfl rfl
set_option maxRecDepth 1000000 in
theorem w_500 : Cond.selects RX5 yX5_load yX5_load ∈ zt := zt_at 500 rfl rfl
set_option maxRecDepth 1000000 in
theorem qX5_load : (mX5_load.y.cls ≠ "java/lang/invoke/MethodHandle" ∧ mX5_load.y.cls ≠ "java/lang/invoke/VarHandle") ∧ (parseMethodDescriptor mX5_load.y.desc).map (fun d => d.parameters.length) = some 2 := by decide +kernel
set_option maxRecDepth 1000000 in
theorem kX6_47 : zCalV RX6 47 mX5_load 2 := ⟨⟨w_498, w_76, w_501, qX5_load.1, qX5_load.2⟩, w_499, w_500, rfl⟩
set_option maxRecDepth 1000000 in
theorem w_508 : Cond.methodLink RX6 50 yX4_clear ∈ zt := zt_at 508 rfl rfl
set_option maxRecDepth 1000000 in
theorem kX6_50 : zCalV RX6 50 mX4_clear 0 := ⟨⟨w_508, w_72, w_470, qX4_clear.1, qX4_clear.2⟩, w_468, w_469, rfl⟩
set_option maxRecDepth 1000000 in
theorem w_509 : Cond.methodLink RX6 53 yX0_count ∈ zt := zt_at 509 rfl rfl
set_option maxRecDepth 1000000 in
theorem kX6_53 : zCalV RX6 53 mX0_count 0 := ⟨⟨w_509, w_71, w_337, qX0_count.1, qX0_count.2⟩, w_335, w_336, rfl⟩
set_option maxRecDepth 1000000 in
theorem w_510 : Cond.methodLink RX6 59 yX0_startAt ∈ zt := zt_at 510 rfl rfl
set_option maxRecDepth 1000000 in
theorem kX6_59 : zCalV RX6 59 mX0_startAt 1 := ⟨⟨w_510, w_71, w_362, qX0_startAt.1, qX0_startAt.2⟩, w_360, w_361, rfl⟩
set_option maxRecDepth 1000000 in
theorem w_511 : Cond.methodLink RX6 63 yX4_append ∈ zt := zt_at 511 rfl rfl
set_option maxRecDepth 1000000 in
theorem kX6_63 : zCalV RX6 63 mX4_append 1 := ⟨⟨w_511, w_72, w_497, qX4_append.1, qX4_append.2⟩, w_495, w_496, rfl⟩
set_option maxRecDepth 1000000 in
theorem w_516 : Cond.methodLink RX6 66 yX5_loadWishes ∈ zt := zt_at 516 rfl rfl
set_option maxRecDepth 1000000 in
theorem w_519 : mX5_loadWishes.cond ∈ zt := zt_at 519 rfl rfl
set_option maxRecDepth 1000000 in
theorem w_517 : Cond.instanceMethod yX5_loadWishes ∈ zt := zt_at 517 rfl rfl
set_option maxRecDepth 1000000 in
theorem w_518 : Cond.selects RX5 yX5_loadWishes yX5_loadWishes ∈ zt := zt_at 518 rfl rfl
set_option maxRecDepth 1000000 in
theorem qX5_loadWishes : (mX5_loadWishes.y.cls ≠ "java/lang/invoke/MethodHandle" ∧ mX5_loadWishes.y.cls ≠ "java/lang/invoke/VarHandle") ∧ (parseMethodDescriptor mX5_loadWishes.y.desc).map (fun d => d.parameters.length) = some 2 := by decide +kernel
set_option maxRecDepth 1000000 in
theorem kX6_66 : zCalV RX6 66 mX5_loadWishes 2 := ⟨⟨w_516, w_76, w_519, qX5_loadWishes.1, qX5_loadWishes.2⟩, w_517, w_518, rfl⟩
set_option maxRecDepth 1000000 in
theorem w_574 : Cond.methodLink RX6 77 yX4_get ∈ zt := zt_at 574 rfl rfl
set_option maxRecDepth 1000000 in
theorem kX6_77 : zCalV RX6 77 mX4_get 1 := ⟨⟨w_574, w_72, w_349, qX4_get.1, qX4_get.2⟩, w_347, w_348, rfl⟩
set_option maxRecDepth 1000000 in
theorem w_563 : Cond.methodLink RX6 80 yX5_strengthOf ∈ zt := zt_at 563 rfl rfl
set_option maxRecDepth 1000000 in
theorem w_566 : mX5_strengthOf.cond ∈ zt := zt_at 566 rfl rfl
set_option maxRecDepth 1000000 in
theorem w_564 : Cond.instanceMethod yX5_strengthOf ∈ zt := zt_at 564 rfl rfl
set_option maxRecDepth 1000000 in
theorem w_565 : Cond.selects RX5 yX5_strengthOf yX5_strengthOf ∈ zt := zt_at 565 rfl rfl
set_option maxRecDepth 1000000 in
theorem qX5_strengthOf : (mX5_strengthOf.y.cls ≠ "java/lang/invoke/MethodHandle" ∧ mX5_strengthOf.y.cls ≠ "java/lang/invoke/VarHandle") ∧ (parseMethodDescriptor mX5_strengthOf.y.desc).map (fun d => d.parameters.length) = some 3 := by decide +kernel
set_option maxRecDepth 1000000 in
theorem kX6_80 : zCalV RX6 80 mX5_strengthOf 3 := ⟨⟨w_563, w_76, w_566, qX5_strengthOf.1, qX5_strengthOf.2⟩, w_564, w_565, rfl⟩
set_option maxRecDepth 1000000 in
theorem w_569 : Cond.methodLink RX6 84 yX6_keep ∈ zt := zt_at 569 rfl rfl
set_option maxRecDepth 1000000 in
theorem w_572 : mX6_keep.cond ∈ zt := zt_at 572 rfl rfl
set_option maxRecDepth 1000000 in
theorem w_571 : Cond.instanceMethod yX6_keep ∈ zt := zt_at 571 rfl rfl
set_option maxRecDepth 1000000 in
theorem w_7 : Cond.selects RX6 yX6_keep yX6_keep ∈ zt := zt_at 7 rfl rfl
set_option maxRecDepth 1000000 in
theorem qX6_keep : (mX6_keep.y.cls ≠ "java/lang/invoke/MethodHandle" ∧ mX6_keep.y.cls ≠ "java/lang/invoke/VarHandle") ∧ (parseMethodDescriptor mX6_keep.y.desc).map (fun d => d.parameters.length) = some 3 := by decide +kernel
set_option maxRecDepth 1000000 in
theorem kX6_84 : zCalV RX6 84 mX6_keep 3 := ⟨⟨w_569, w_74, w_572, qX6_keep.1, qX6_keep.2⟩, w_571, w_7, rfl⟩
set_option maxRecDepth 1000000 in
theorem w_576 : Cond.methodLink RX6 88 yX6_placeFrom ∈ zt := zt_at 576 rfl rfl
set_option maxRecDepth 1000000 in
theorem w_579 : mX6_placeFrom.cond ∈ zt := zt_at 579 rfl rfl
set_option maxRecDepth 1000000 in
theorem w_578 : Cond.instanceMethod yX6_placeFrom ∈ zt := zt_at 578 rfl rfl
set_option maxRecDepth 1000000 in
theorem w_8 : Cond.selects RX6 yX6_placeFrom yX6_placeFrom ∈ zt := zt_at 8 rfl rfl
set_option maxRecDepth 1000000 in
theorem qX6_placeFrom : (mX6_placeFrom.y.cls ≠ "java/lang/invoke/MethodHandle" ∧ mX6_placeFrom.y.cls ≠ "java/lang/invoke/VarHandle") ∧ (parseMethodDescriptor mX6_placeFrom.y.desc).map (fun d => d.parameters.length) = some 3 := by decide +kernel
set_option maxRecDepth 1000000 in
theorem kX6_88 : zCalV RX6 88 mX6_placeFrom 3 := ⟨⟨w_576, w_74, w_579, qX6_placeFrom.1, qX6_placeFrom.2⟩, w_578, w_8, rfl⟩
set_option maxRecDepth 1000000 in
theorem w_580 : Cond.methodLink RX6 92 yX5_strengthAtMost ∈ zt := zt_at 580 rfl rfl
set_option maxRecDepth 1000000 in
theorem w_583 : mX5_strengthAtMost.cond ∈ zt := zt_at 583 rfl rfl
set_option maxRecDepth 1000000 in
theorem w_581 : Cond.instanceMethod yX5_strengthAtMost ∈ zt := zt_at 581 rfl rfl
set_option maxRecDepth 1000000 in
theorem w_582 : Cond.selects RX5 yX5_strengthAtMost yX5_strengthAtMost ∈ zt := zt_at 582 rfl rfl
set_option maxRecDepth 1000000 in
theorem qX5_strengthAtMost : (mX5_strengthAtMost.y.cls ≠ "java/lang/invoke/MethodHandle" ∧ mX5_strengthAtMost.y.cls ≠ "java/lang/invoke/VarHandle") ∧ (parseMethodDescriptor mX5_strengthAtMost.y.desc).map (fun d => d.parameters.length) = some 1 := by decide +kernel
set_option maxRecDepth 1000000 in
theorem kX6_92 : zCalV RX6 92 mX5_strengthAtMost 1 := ⟨⟨w_580, w_76, w_583, qX5_strengthAtMost.1, qX5_strengthAtMost.2⟩, w_581, w_582, rfl⟩
set_option maxRecDepth 1000000 in
theorem w_584 : Cond.methodLink RX6 95 yX6_isTidier ∈ zt := zt_at 584 rfl rfl
set_option maxRecDepth 1000000 in
theorem w_587 : mX6_isTidier.cond ∈ zt := zt_at 587 rfl rfl
set_option maxRecDepth 1000000 in
theorem w_586 : Cond.instanceMethod yX6_isTidier ∈ zt := zt_at 586 rfl rfl
set_option maxRecDepth 1000000 in
theorem w_9 : Cond.selects RX6 yX6_isTidier yX6_isTidier ∈ zt := zt_at 9 rfl rfl
set_option maxRecDepth 1000000 in
theorem qX6_isTidier : (mX6_isTidier.y.cls ≠ "java/lang/invoke/MethodHandle" ∧ mX6_isTidier.y.cls ≠ "java/lang/invoke/VarHandle") ∧ (parseMethodDescriptor mX6_isTidier.y.desc).map (fun d => d.parameters.length) = some 2 := by decide +kernel
set_option maxRecDepth 1000000 in
theorem kX6_95 : zCalV RX6 95 mX6_isTidier 2 := ⟨⟨w_584, w_74, w_587, qX6_isTidier.1, qX6_isTidier.2⟩, w_586, w_9, rfl⟩
set_option maxRecDepth 1000000 in
theorem w_573 : Cond.methodLink RX6 99 yX4_length ∈ zt := zt_at 573 rfl rfl
set_option maxRecDepth 1000000 in
theorem kX6_99 : zCalV RX6 99 mX4_length 0 := ⟨⟨w_573, w_72, w_341, qX4_length.1, qX4_length.2⟩, w_339, w_340, rfl⟩
set_option maxRecDepth 1000000 in
theorem w_588 : Cond.methodLink RX6 102 yX1_count ∈ zt := zt_at 588 rfl rfl
set_option maxRecDepth 1000000 in
theorem w_591 : mX1_count.cond ∈ zt := zt_at 591 rfl rfl
set_option maxRecDepth 1000000 in
theorem w_589 : Cond.instanceMethod yX1_count ∈ zt := zt_at 589 rfl rfl
set_option maxRecDepth 1000000 in
theorem w_590 : Cond.selects RX1 yX1_count yX1_count ∈ zt := zt_at 590 rfl rfl
set_option maxRecDepth 1000000 in
theorem qX1_count : (mX1_count.y.cls ≠ "java/lang/invoke/MethodHandle" ∧ mX1_count.y.cls ≠ "java/lang/invoke/VarHandle") ∧ (parseMethodDescriptor mX1_count.y.desc).map (fun d => d.parameters.length) = some 1 := by decide +kernel
set_option maxRecDepth 1000000 in
theorem kX6_102 : zCalV RX6 102 mX1_count 1 := ⟨⟨w_588, w_75, w_591, qX1_count.1, qX1_count.2⟩, w_589, w_590, rfl⟩
set_option maxRecDepth 1000000 in
theorem w_592 : Cond.methodLink RX6 104 yX1_start ∈ zt := zt_at 592 rfl rfl
set_option maxRecDepth 1000000 in
theorem w_595 : mX1_start.cond ∈ zt := zt_at 595 rfl rfl
set_option maxRecDepth 1000000 in
theorem w_593 : Cond.instanceMethod yX1_start ∈ zt := zt_at 593 rfl rfl
set_option maxRecDepth 1000000 in
theorem w_594 : Cond.selects RX1 yX1_start yX1_start ∈ zt := zt_at 594 rfl rfl
set_option maxRecDepth 1000000 in
theorem qX1_start : (mX1_start.y.cls ≠ "java/lang/invoke/MethodHandle" ∧ mX1_start.y.cls ≠ "java/lang/invoke/VarHandle") ∧ (parseMethodDescriptor mX1_start.y.desc).map (fun d => d.parameters.length) = some 2 := by decide +kernel
set_option maxRecDepth 1000000 in
theorem kX6_104 : zCalV RX6 104 mX1_start 2 := ⟨⟨w_592, w_75, w_595, qX1_start.1, qX1_start.2⟩, w_593, w_594, rfl⟩
set_option maxRecDepth 1000000 in
theorem w_596 : Cond.methodLink RX6 108 yX6_placeAt ∈ zt := zt_at 596 rfl rfl
set_option maxRecDepth 1000000 in
theorem w_599 : mX6_placeAt.cond ∈ zt := zt_at 599 rfl rfl
set_option maxRecDepth 1000000 in
theorem w_598 : Cond.instanceMethod yX6_placeAt ∈ zt := zt_at 598 rfl rfl
set_option maxRecDepth 1000000 in
theorem w_10 : Cond.selects RX6 yX6_placeAt yX6_placeAt ∈ zt := zt_at 10 rfl rfl
set_option maxRecDepth 1000000 in
theorem qX6_placeAt : (mX6_placeAt.y.cls ≠ "java/lang/invoke/MethodHandle" ∧ mX6_placeAt.y.cls ≠ "java/lang/invoke/VarHandle") ∧ (parseMethodDescriptor mX6_placeAt.y.desc).map (fun d => d.parameters.length) = some 4 := by decide +kernel
set_option maxRecDepth 1000000 in
theorem kX6_108 : zCalV RX6 108 mX6_placeAt 4 := ⟨⟨w_596, w_74, w_599, qX6_placeAt.1, qX6_placeAt.2⟩, w_598, w_10, rfl⟩
set_option maxRecDepth 1000000 in
theorem w_575 : Cond.methodLink RX6 112 yX4_set ∈ zt := zt_at 575 rfl rfl
set_option maxRecDepth 1000000 in
theorem kX6_112 : zCalV RX6 112 mX4_set 2 := ⟨⟨w_575, w_72, w_493, qX4_set.1, qX4_set.2⟩, w_491, w_492, rfl⟩
set_option maxRecDepth 1000000 in
theorem w_600 : Cond.methodLink RX6 116 yX5_keepsApart ∈ zt := zt_at 600 rfl rfl
set_option maxRecDepth 1000000 in
theorem w_603 : mX5_keepsApart.cond ∈ zt := zt_at 603 rfl rfl
set_option maxRecDepth 1000000 in
theorem w_601 : Cond.instanceMethod yX5_keepsApart ∈ zt := zt_at 601 rfl rfl
set_option maxRecDepth 1000000 in
theorem w_602 : Cond.selects RX5 yX5_keepsApart yX5_keepsApart ∈ zt := zt_at 602 rfl rfl
set_option maxRecDepth 1000000 in
theorem qX5_keepsApart : (mX5_keepsApart.y.cls ≠ "java/lang/invoke/MethodHandle" ∧ mX5_keepsApart.y.cls ≠ "java/lang/invoke/VarHandle") ∧ (parseMethodDescriptor mX5_keepsApart.y.desc).map (fun d => d.parameters.length) = some 3 := by decide +kernel
set_option maxRecDepth 1000000 in
theorem kX6_116 : zCalV RX6 116 mX5_keepsApart 3 := ⟨⟨w_600, w_76, w_603, qX5_keepsApart.1, qX5_keepsApart.2⟩, w_601, w_602, rfl⟩
set_option maxRecDepth 1000000 in
theorem w_615 : Cond.methodLink RX6 125 yX6_pick ∈ zt := zt_at 615 rfl rfl
set_option maxRecDepth 1000000 in
theorem w_618 : mX6_pick.cond ∈ zt := zt_at 618 rfl rfl
set_option maxRecDepth 1000000 in
theorem w_617 : Cond.instanceMethod yX6_pick ∈ zt := zt_at 617 rfl rfl
set_option maxRecDepth 1000000 in
theorem w_11 : Cond.selects RX6 yX6_pick yX6_pick ∈ zt := zt_at 11 rfl rfl
set_option maxRecDepth 1000000 in
theorem qX6_pick : (mX6_pick.y.cls ≠ "java/lang/invoke/MethodHandle" ∧ mX6_pick.y.cls ≠ "java/lang/invoke/VarHandle") ∧ (parseMethodDescriptor mX6_pick.y.desc).map (fun d => d.parameters.length) = some 2 := by decide +kernel
set_option maxRecDepth 1000000 in
theorem kX6_125 : zCalV RX6 125 mX6_pick 2 := ⟨⟨w_615, w_74, w_618, qX6_pick.1, qX6_pick.2⟩, w_617, w_11, rfl⟩
set_option maxRecDepth 1000000 in
theorem w_620 : Cond.methodLink RX6 131 yX6_pickNextLayout ∈ zt := zt_at 620 rfl rfl
set_option maxRecDepth 1000000 in
theorem w_623 : mX6_pickNextLayout.cond ∈ zt := zt_at 623 rfl rfl
set_option maxRecDepth 1000000 in
theorem w_622 : Cond.instanceMethod yX6_pickNextLayout ∈ zt := zt_at 622 rfl rfl
set_option maxRecDepth 1000000 in
theorem w_12 : Cond.selects RX6 yX6_pickNextLayout yX6_pickNextLayout ∈ zt := zt_at 12 rfl rfl
set_option maxRecDepth 1000000 in
theorem qX6_pickNextLayout : (mX6_pickNextLayout.y.cls ≠ "java/lang/invoke/MethodHandle" ∧ mX6_pickNextLayout.y.cls ≠ "java/lang/invoke/VarHandle") ∧ (parseMethodDescriptor mX6_pickNextLayout.y.desc).map (fun d => d.parameters.length) = some 0 := by decide +kernel
set_option maxRecDepth 1000000 in
theorem kX6_131 : zCalV RX6 131 mX6_pickNextLayout 0 := ⟨⟨w_620, w_74, w_623, qX6_pickNextLayout.1, qX6_pickNextLayout.2⟩, w_622, w_12, rfl⟩
set_option maxRecDepth 1000000 in
theorem w_139 : Cond.methodLink RX7 11 yX4_init ∈ zt := zt_at 139 rfl rfl
set_option maxRecDepth 1000000 in
theorem kX7_11 : zCalI RX7 11 mX4_init 1 := ⟨⟨w_139, w_72, w_110, qX4_init.1, qX4_init.2⟩, w_109, rfl, rfl⟩
set_option maxRecDepth 1000000 in
theorem w_534 : Cond.methodLink RX7 32 yX7_isKindAcross ∈ zt := zt_at 534 rfl rfl
set_option maxRecDepth 1000000 in
theorem w_536 : mX7_isKindAcross.cond ∈ zt := zt_at 536 rfl rfl
set_option maxRecDepth 1000000 in
theorem w_535 : Cond.static yX7_isKindAcross ∈ zt := zt_at 535 rfl rfl
set_option maxRecDepth 1000000 in
theorem qX7_isKindAcross : (mX7_isKindAcross.y.cls ≠ "java/lang/invoke/MethodHandle" ∧ mX7_isKindAcross.y.cls ≠ "java/lang/invoke/VarHandle") ∧ (parseMethodDescriptor mX7_isKindAcross.y.desc).map (fun d => d.parameters.length) = some 1 := by decide +kernel
set_option maxRecDepth 1000000 in
theorem kX7_32 : zCalS RX7 32 mX7_isKindAcross 1 := ⟨⟨w_534, w_73, w_536, qX7_isKindAcross.1, qX7_isKindAcross.2⟩, w_535, rfl⟩
set_option maxRecDepth 1000000 in
theorem w_524 : Cond.methodLink RX7 36 yX4_length ∈ zt := zt_at 524 rfl rfl
set_option maxRecDepth 1000000 in
theorem kX7_36 : zCalV RX7 36 mX4_length 0 := ⟨⟨w_524, w_72, w_341, qX4_length.1, qX4_length.2⟩, w_339, w_340, rfl⟩
set_option maxRecDepth 1000000 in
theorem w_966 : Cond.methodLink RX7 40 yX4_append ∈ zt := zt_at 966 rfl rfl
set_option maxRecDepth 1000000 in
theorem kX7_40 : zCalV RX7 40 mX4_append 1 := ⟨⟨w_966, w_72, w_497, qX4_append.1, qX4_append.2⟩, w_495, w_496, rfl⟩
set_option maxRecDepth 1000000 in
theorem w_983 : Cond.methodLink RX7 43 yX4_set ∈ zt := zt_at 983 rfl rfl
set_option maxRecDepth 1000000 in
theorem kX7_43 : zCalV RX7 43 mX4_set 2 := ⟨⟨w_983, w_72, w_493, qX4_set.1, qX4_set.2⟩, w_491, w_492, rfl⟩
set_option maxRecDepth 1000000 in
theorem w_529 : Cond.methodLink RX7 47 yX4_get ∈ zt := zt_at 529 rfl rfl
set_option maxRecDepth 1000000 in
theorem kX7_47 : zCalV RX7 47 mX4_get 1 := ⟨⟨w_529, w_72, w_349, qX4_get.1, qX4_get.2⟩, w_347, w_348, rfl⟩
set_option maxRecDepth 1000000 in
theorem w_988 : Cond.methodLink RX7 51 yX7_addedCount ∈ zt := zt_at 988 rfl rfl
set_option maxRecDepth 1000000 in
theorem kX7_51 : zCalV RX7 51 mX7_addedCount 0 := ⟨⟨w_988, w_73, w_523, qX7_addedCount.1, qX7_addedCount.2⟩, w_521, w_522, rfl⟩
set_option maxRecDepth 1000000 in
theorem w_989 : Cond.methodLink RX7 54 yX7_isThere ∈ zt := zt_at 989 rfl rfl
set_option maxRecDepth 1000000 in
theorem kX7_54 : zCalV RX7 54 mX7_isThere 1 := ⟨⟨w_989, w_73, w_528, qX7_isThere.1, qX7_isThere.2⟩, w_526, w_527, rfl⟩
set_option maxRecDepth 1000000 in
theorem w_1002 : Cond.methodLink RX7 57 yX7_edgeAt ∈ zt := zt_at 1002 rfl rfl
set_option maxRecDepth 1000000 in
theorem kX7_57 : zCalV RX7 57 mX7_edgeAt 1 := ⟨⟨w_1002, w_73, w_554, qX7_edgeAt.1, qX7_edgeAt.2⟩, w_552, w_553, rfl⟩
set_option maxRecDepth 1000000 in
theorem w_1003 : Cond.methodLink RX7 60 yX7_shapeAt ∈ zt := zt_at 1003 rfl rfl
set_option maxRecDepth 1000000 in
theorem kX7_60 : zCalV RX7 60 mX7_shapeAt 1 := ⟨⟨w_1003, w_73, w_540, qX7_shapeAt.1, qX7_shapeAt.2⟩, w_538, w_539, rfl⟩
set_option maxRecDepth 1000000 in
theorem w_1004 : Cond.methodLink RX7 63 yX0_twiceEdge ∈ zt := zt_at 1004 rfl rfl
set_option maxRecDepth 1000000 in
theorem kX7_63 : zCalV RX7 63 mX0_twiceEdge 2 := ⟨⟨w_1004, w_71, w_1007, qX0_twiceEdge.1, qX0_twiceEdge.2⟩, w_1005, w_1006, rfl⟩
set_option maxRecDepth 1000000 in
theorem w_1008 : Cond.methodLink RX7 69 yX7_otherAt ∈ zt := zt_at 1008 rfl rfl
set_option maxRecDepth 1000000 in
theorem kX7_69 : zCalV RX7 69 mX7_otherAt 1 := ⟨⟨w_1008, w_73, w_544, qX7_otherAt.1, qX7_otherAt.2⟩, w_542, w_543, rfl⟩
set_option maxRecDepth 1000000 in
theorem w_730 : Cond.methodLink RL 7 yX8_addShape ∈ zt := zt_at 730 rfl rfl
set_option maxRecDepth 1000000 in
theorem w_733 : mX8_addShape.cond ∈ zt := zt_at 733 rfl rfl
set_option maxRecDepth 1000000 in
theorem w_731 : Cond.instanceMethod yX8_addShape ∈ zt := zt_at 731 rfl rfl
set_option maxRecDepth 1000000 in
theorem w_732 : Cond.selects RX8 yX8_addShape yX8_addShape ∈ zt := zt_at 732 rfl rfl
set_option maxRecDepth 1000000 in
theorem qX8_addShape : (mX8_addShape.y.cls ≠ "java/lang/invoke/MethodHandle" ∧ mX8_addShape.y.cls ≠ "java/lang/invoke/VarHandle") ∧ (parseMethodDescriptor mX8_addShape.y.desc).map (fun d => d.parameters.length) = some 4 := by decide +kernel
set_option maxRecDepth 1000000 in
theorem kL_7 : zCalV RL 7 mX8_addShape 4 := ⟨⟨w_730, w_70, w_733, qX8_addShape.1, qX8_addShape.2⟩, w_731, w_732, rfl⟩
set_option maxRecDepth 1000000 in
theorem w_801 : Cond.methodLink RL 19 yX8_setLocked ∈ zt := zt_at 801 rfl rfl
set_option maxRecDepth 1000000 in
theorem w_804 : mX8_setLocked.cond ∈ zt := zt_at 804 rfl rfl
set_option maxRecDepth 1000000 in
theorem w_802 : Cond.instanceMethod yX8_setLocked ∈ zt := zt_at 802 rfl rfl
set_option maxRecDepth 1000000 in
theorem w_803 : Cond.selects RX8 yX8_setLocked yX8_setLocked ∈ zt := zt_at 803 rfl rfl
set_option maxRecDepth 1000000 in
theorem qX8_setLocked : (mX8_setLocked.y.cls ≠ "java/lang/invoke/MethodHandle" ∧ mX8_setLocked.y.cls ≠ "java/lang/invoke/VarHandle") ∧ (parseMethodDescriptor mX8_setLocked.y.desc).map (fun d => d.parameters.length) = some 2 := by decide +kernel
set_option maxRecDepth 1000000 in
theorem kL_19 : zCalV RL 19 mX8_setLocked 2 := ⟨⟨w_801, w_70, w_804, qX8_setLocked.1, qX8_setLocked.2⟩, w_802, w_803, rfl⟩
set_option maxRecDepth 1000000 in
theorem w_831 : Cond.methodLink RL 25 yX8_startOf ∈ zt := zt_at 831 rfl rfl
set_option maxRecDepth 1000000 in
theorem w_834 : mX8_startOf.cond ∈ zt := zt_at 834 rfl rfl
set_option maxRecDepth 1000000 in
theorem w_832 : Cond.instanceMethod yX8_startOf ∈ zt := zt_at 832 rfl rfl
set_option maxRecDepth 1000000 in
theorem w_833 : Cond.selects RX8 yX8_startOf yX8_startOf ∈ zt := zt_at 833 rfl rfl
set_option maxRecDepth 1000000 in
theorem qX8_startOf : (mX8_startOf.y.cls ≠ "java/lang/invoke/MethodHandle" ∧ mX8_startOf.y.cls ≠ "java/lang/invoke/VarHandle") ∧ (parseMethodDescriptor mX8_startOf.y.desc).map (fun d => d.parameters.length) = some 2 := by decide +kernel
set_option maxRecDepth 1000000 in
theorem kL_25 : zCalV RL 25 mX8_startOf 2 := ⟨⟨w_831, w_70, w_834, qX8_startOf.1, qX8_startOf.2⟩, w_832, w_833, rfl⟩
set_option maxRecDepth 1000000 in
theorem w_838 : Cond.methodLink RL 29 yX8_sizeOf ∈ zt := zt_at 838 rfl rfl
set_option maxRecDepth 1000000 in
theorem w_841 : mX8_sizeOf.cond ∈ zt := zt_at 841 rfl rfl
set_option maxRecDepth 1000000 in
theorem w_839 : Cond.instanceMethod yX8_sizeOf ∈ zt := zt_at 839 rfl rfl
set_option maxRecDepth 1000000 in
theorem w_840 : Cond.selects RX8 yX8_sizeOf yX8_sizeOf ∈ zt := zt_at 840 rfl rfl
set_option maxRecDepth 1000000 in
theorem qX8_sizeOf : (mX8_sizeOf.y.cls ≠ "java/lang/invoke/MethodHandle" ∧ mX8_sizeOf.y.cls ≠ "java/lang/invoke/VarHandle") ∧ (parseMethodDescriptor mX8_sizeOf.y.desc).map (fun d => d.parameters.length) = some 2 := by decide +kernel
set_option maxRecDepth 1000000 in
theorem kL_29 : zCalV RL 29 mX8_sizeOf 2 := ⟨⟨w_838, w_70, w_841, qX8_sizeOf.1, qX8_sizeOf.2⟩, w_839, w_840, rfl⟩
set_option maxRecDepth 1000000 in
theorem w_845 : Cond.methodLink RL 32 yX8_moveTo ∈ zt := zt_at 845 rfl rfl
set_option maxRecDepth 1000000 in
theorem w_848 : mX8_moveTo.cond ∈ zt := zt_at 848 rfl rfl
set_option maxRecDepth 1000000 in
theorem w_846 : Cond.instanceMethod yX8_moveTo ∈ zt := zt_at 846 rfl rfl
set_option maxRecDepth 1000000 in
theorem w_847 : Cond.selects RX8 yX8_moveTo yX8_moveTo ∈ zt := zt_at 847 rfl rfl
set_option maxRecDepth 1000000 in
theorem qX8_moveTo : (mX8_moveTo.y.cls ≠ "java/lang/invoke/MethodHandle" ∧ mX8_moveTo.y.cls ≠ "java/lang/invoke/VarHandle") ∧ (parseMethodDescriptor mX8_moveTo.y.desc).map (fun d => d.parameters.length) = some 3 := by decide +kernel
set_option maxRecDepth 1000000 in
theorem kL_32 : zCalV RL 32 mX8_moveTo 3 := ⟨⟨w_845, w_70, w_848, qX8_moveTo.1, qX8_moveTo.2⟩, w_846, w_847, rfl⟩
set_option maxRecDepth 1000000 in
theorem w_865 : Cond.methodLink RL 36 yX8_moveReason ∈ zt := zt_at 865 rfl rfl
set_option maxRecDepth 1000000 in
theorem w_868 : mX8_moveReason.cond ∈ zt := zt_at 868 rfl rfl
set_option maxRecDepth 1000000 in
theorem w_866 : Cond.instanceMethod yX8_moveReason ∈ zt := zt_at 866 rfl rfl
set_option maxRecDepth 1000000 in
theorem w_867 : Cond.selects RX8 yX8_moveReason yX8_moveReason ∈ zt := zt_at 867 rfl rfl
set_option maxRecDepth 1000000 in
theorem qX8_moveReason : (mX8_moveReason.y.cls ≠ "java/lang/invoke/MethodHandle" ∧ mX8_moveReason.y.cls ≠ "java/lang/invoke/VarHandle") ∧ (parseMethodDescriptor mX8_moveReason.y.desc).map (fun d => d.parameters.length) = some 3 := by decide +kernel
set_option maxRecDepth 1000000 in
theorem kL_36 : zCalV RL 36 mX8_moveReason 3 := ⟨⟨w_865, w_70, w_868, qX8_moveReason.1, qX8_moveReason.2⟩, w_866, w_867, rfl⟩
set_option maxRecDepth 1000000 in
theorem w_872 : Cond.methodLink RL 40 yX8_setText ∈ zt := zt_at 872 rfl rfl
set_option maxRecDepth 1000000 in
theorem w_875 : mX8_setText.cond ∈ zt := zt_at 875 rfl rfl
set_option maxRecDepth 1000000 in
theorem w_873 : Cond.instanceMethod yX8_setText ∈ zt := zt_at 873 rfl rfl
set_option maxRecDepth 1000000 in
theorem w_874 : Cond.selects RX8 yX8_setText yX8_setText ∈ zt := zt_at 874 rfl rfl
set_option maxRecDepth 1000000 in
theorem qX8_setText : (mX8_setText.y.cls ≠ "java/lang/invoke/MethodHandle" ∧ mX8_setText.y.cls ≠ "java/lang/invoke/VarHandle") ∧ (parseMethodDescriptor mX8_setText.y.desc).map (fun d => d.parameters.length) = some 2 := by decide +kernel
set_option maxRecDepth 1000000 in
theorem kL_40 : zCalV RL 40 mX8_setText 2 := ⟨⟨w_872, w_70, w_875, qX8_setText.1, qX8_setText.2⟩, w_873, w_874, rfl⟩
set_option maxRecDepth 1000000 in
theorem w_884 : Cond.methodLink RL 44 yX8_fits ∈ zt := zt_at 884 rfl rfl
set_option maxRecDepth 1000000 in
theorem w_887 : mX8_fits.cond ∈ zt := zt_at 887 rfl rfl
set_option maxRecDepth 1000000 in
theorem w_885 : Cond.instanceMethod yX8_fits ∈ zt := zt_at 885 rfl rfl
set_option maxRecDepth 1000000 in
theorem w_886 : Cond.selects RX8 yX8_fits yX8_fits ∈ zt := zt_at 886 rfl rfl
set_option maxRecDepth 1000000 in
theorem qX8_fits : (mX8_fits.y.cls ≠ "java/lang/invoke/MethodHandle" ∧ mX8_fits.y.cls ≠ "java/lang/invoke/VarHandle") ∧ (parseMethodDescriptor mX8_fits.y.desc).map (fun d => d.parameters.length) = some 1 := by decide +kernel
set_option maxRecDepth 1000000 in
theorem kL_44 : zCalV RL 44 mX8_fits 1 := ⟨⟨w_884, w_70, w_887, qX8_fits.1, qX8_fits.2⟩, w_885, w_886, rfl⟩
set_option maxRecDepth 1000000 in
theorem w_896 : Cond.methodLink RL 48 yX8_grow ∈ zt := zt_at 896 rfl rfl
set_option maxRecDepth 1000000 in
theorem w_899 : mX8_grow.cond ∈ zt := zt_at 899 rfl rfl
set_option maxRecDepth 1000000 in
theorem w_897 : Cond.instanceMethod yX8_grow ∈ zt := zt_at 897 rfl rfl
set_option maxRecDepth 1000000 in
theorem w_898 : Cond.selects RX8 yX8_grow yX8_grow ∈ zt := zt_at 898 rfl rfl
set_option maxRecDepth 1000000 in
theorem qX8_grow : (mX8_grow.y.cls ≠ "java/lang/invoke/MethodHandle" ∧ mX8_grow.y.cls ≠ "java/lang/invoke/VarHandle") ∧ (parseMethodDescriptor mX8_grow.y.desc).map (fun d => d.parameters.length) = some 1 := by decide +kernel
set_option maxRecDepth 1000000 in
theorem kL_48 : zCalV RL 48 mX8_grow 1 := ⟨⟨w_896, w_70, w_899, qX8_grow.1, qX8_grow.2⟩, w_897, w_898, rfl⟩
set_option maxRecDepth 1000000 in
theorem w_936 : Cond.methodLink RL 54 yX8_growReason ∈ zt := zt_at 936 rfl rfl
set_option maxRecDepth 1000000 in
theorem w_939 : mX8_growReason.cond ∈ zt := zt_at 939 rfl rfl
set_option maxRecDepth 1000000 in
theorem w_937 : Cond.instanceMethod yX8_growReason ∈ zt := zt_at 937 rfl rfl
set_option maxRecDepth 1000000 in
theorem w_938 : Cond.selects RX8 yX8_growReason yX8_growReason ∈ zt := zt_at 938 rfl rfl
set_option maxRecDepth 1000000 in
theorem qX8_growReason : (mX8_growReason.y.cls ≠ "java/lang/invoke/MethodHandle" ∧ mX8_growReason.y.cls ≠ "java/lang/invoke/VarHandle") ∧ (parseMethodDescriptor mX8_growReason.y.desc).map (fun d => d.parameters.length) = some 1 := by decide +kernel
set_option maxRecDepth 1000000 in
theorem kL_54 : zCalV RL 54 mX8_growReason 1 := ⟨⟨w_936, w_70, w_939, qX8_growReason.1, qX8_growReason.2⟩, w_937, w_938, rfl⟩
set_option maxRecDepth 1000000 in
theorem w_943 : Cond.methodLink RL 58 yX8_inTheWay ∈ zt := zt_at 943 rfl rfl
set_option maxRecDepth 1000000 in
theorem w_946 : mX8_inTheWay.cond ∈ zt := zt_at 946 rfl rfl
set_option maxRecDepth 1000000 in
theorem w_944 : Cond.instanceMethod yX8_inTheWay ∈ zt := zt_at 944 rfl rfl
set_option maxRecDepth 1000000 in
theorem w_945 : Cond.selects RX8 yX8_inTheWay yX8_inTheWay ∈ zt := zt_at 945 rfl rfl
set_option maxRecDepth 1000000 in
theorem qX8_inTheWay : (mX8_inTheWay.y.cls ≠ "java/lang/invoke/MethodHandle" ∧ mX8_inTheWay.y.cls ≠ "java/lang/invoke/VarHandle") ∧ (parseMethodDescriptor mX8_inTheWay.y.desc).map (fun d => d.parameters.length) = some 1 := by decide +kernel
set_option maxRecDepth 1000000 in
theorem kL_58 : zCalV RL 58 mX8_inTheWay 1 := ⟨⟨w_943, w_70, w_946, qX8_inTheWay.1, qX8_inTheWay.2⟩, w_944, w_945, rfl⟩
set_option maxRecDepth 1000000 in
theorem w_952 : Cond.methodLink RL 61 yX8_addWish ∈ zt := zt_at 952 rfl rfl
set_option maxRecDepth 1000000 in
theorem w_955 : mX8_addWish.cond ∈ zt := zt_at 955 rfl rfl
set_option maxRecDepth 1000000 in
theorem w_953 : Cond.instanceMethod yX8_addWish ∈ zt := zt_at 953 rfl rfl
set_option maxRecDepth 1000000 in
theorem w_954 : Cond.selects RX8 yX8_addWish yX8_addWish ∈ zt := zt_at 954 rfl rfl
set_option maxRecDepth 1000000 in
theorem qX8_addWish : (mX8_addWish.y.cls ≠ "java/lang/invoke/MethodHandle" ∧ mX8_addWish.y.cls ≠ "java/lang/invoke/VarHandle") ∧ (parseMethodDescriptor mX8_addWish.y.desc).map (fun d => d.parameters.length) = some 4 := by decide +kernel
set_option maxRecDepth 1000000 in
theorem kL_61 : zCalV RL 61 mX8_addWish 4 := ⟨⟨w_952, w_70, w_955, qX8_addWish.1, qX8_addWish.2⟩, w_953, w_954, rfl⟩
set_option maxRecDepth 1000000 in
theorem w_970 : Cond.methodLink RL 65 yX8_dropWish ∈ zt := zt_at 970 rfl rfl
set_option maxRecDepth 1000000 in
theorem w_973 : mX8_dropWish.cond ∈ zt := zt_at 973 rfl rfl
set_option maxRecDepth 1000000 in
theorem w_971 : Cond.instanceMethod yX8_dropWish ∈ zt := zt_at 971 rfl rfl
set_option maxRecDepth 1000000 in
theorem w_972 : Cond.selects RX8 yX8_dropWish yX8_dropWish ∈ zt := zt_at 972 rfl rfl
set_option maxRecDepth 1000000 in
theorem qX8_dropWish : (mX8_dropWish.y.cls ≠ "java/lang/invoke/MethodHandle" ∧ mX8_dropWish.y.cls ≠ "java/lang/invoke/VarHandle") ∧ (parseMethodDescriptor mX8_dropWish.y.desc).map (fun d => d.parameters.length) = some 1 := by decide +kernel
set_option maxRecDepth 1000000 in
theorem kL_65 : zCalV RL 65 mX8_dropWish 1 := ⟨⟨w_970, w_70, w_973, qX8_dropWish.1, qX8_dropWish.2⟩, w_971, w_972, rfl⟩
set_option maxRecDepth 1000000 in
theorem w_993 : Cond.methodLink RL 68 yX8_isMet ∈ zt := zt_at 993 rfl rfl
set_option maxRecDepth 1000000 in
theorem w_996 : mX8_isMet.cond ∈ zt := zt_at 996 rfl rfl
set_option maxRecDepth 1000000 in
theorem w_994 : Cond.instanceMethod yX8_isMet ∈ zt := zt_at 994 rfl rfl
set_option maxRecDepth 1000000 in
theorem w_995 : Cond.selects RX8 yX8_isMet yX8_isMet ∈ zt := zt_at 995 rfl rfl
set_option maxRecDepth 1000000 in
theorem qX8_isMet : (mX8_isMet.y.cls ≠ "java/lang/invoke/MethodHandle" ∧ mX8_isMet.y.cls ≠ "java/lang/invoke/VarHandle") ∧ (parseMethodDescriptor mX8_isMet.y.desc).map (fun d => d.parameters.length) = some 1 := by decide +kernel
set_option maxRecDepth 1000000 in
theorem kL_68 : zCalV RL 68 mX8_isMet 1 := ⟨⟨w_993, w_70, w_996, qX8_isMet.1, qX8_isMet.2⟩, w_994, w_995, rfl⟩
set_option maxRecDepth 1000000 in
theorem w_1012 : Cond.methodLink RL 71 yX8_strength ∈ zt := zt_at 1012 rfl rfl
set_option maxRecDepth 1000000 in
theorem w_1015 : mX8_strength.cond ∈ zt := zt_at 1015 rfl rfl
set_option maxRecDepth 1000000 in
theorem w_1013 : Cond.instanceMethod yX8_strength ∈ zt := zt_at 1013 rfl rfl
set_option maxRecDepth 1000000 in
theorem w_1014 : Cond.selects RX8 yX8_strength yX8_strength ∈ zt := zt_at 1014 rfl rfl
set_option maxRecDepth 1000000 in
theorem qX8_strength : (mX8_strength.y.cls ≠ "java/lang/invoke/MethodHandle" ∧ mX8_strength.y.cls ≠ "java/lang/invoke/VarHandle") ∧ (parseMethodDescriptor mX8_strength.y.desc).map (fun d => d.parameters.length) = some 1 := by decide +kernel
set_option maxRecDepth 1000000 in
theorem kL_71 : zCalV RL 71 mX8_strength 1 := ⟨⟨w_1012, w_70, w_1015, qX8_strength.1, qX8_strength.2⟩, w_1013, w_1014, rfl⟩
set_option maxRecDepth 1000000 in
theorem w_1020 : Cond.methodLink RL 75 yX8_snaps ∈ zt := zt_at 1020 rfl rfl
set_option maxRecDepth 1000000 in
theorem w_1023 : mX8_snaps.cond ∈ zt := zt_at 1023 rfl rfl
set_option maxRecDepth 1000000 in
theorem w_1021 : Cond.instanceMethod yX8_snaps ∈ zt := zt_at 1021 rfl rfl
set_option maxRecDepth 1000000 in
theorem w_1022 : Cond.selects RX8 yX8_snaps yX8_snaps ∈ zt := zt_at 1022 rfl rfl
set_option maxRecDepth 1000000 in
theorem qX8_snaps : (mX8_snaps.y.cls ≠ "java/lang/invoke/MethodHandle" ∧ mX8_snaps.y.cls ≠ "java/lang/invoke/VarHandle") ∧ (parseMethodDescriptor mX8_snaps.y.desc).map (fun d => d.parameters.length) = some 2 := by decide +kernel
set_option maxRecDepth 1000000 in
theorem kL_75 : zCalV RL 75 mX8_snaps 2 := ⟨⟨w_1020, w_70, w_1023, qX8_snaps.1, qX8_snaps.2⟩, w_1021, w_1022, rfl⟩
set_option maxRecDepth 1000000 in
theorem w_1029 : Cond.methodLink RL 78 yX8_bestStrength ∈ zt := zt_at 1029 rfl rfl
set_option maxRecDepth 1000000 in
theorem w_1032 : mX8_bestStrength.cond ∈ zt := zt_at 1032 rfl rfl
set_option maxRecDepth 1000000 in
theorem w_1030 : Cond.instanceMethod yX8_bestStrength ∈ zt := zt_at 1030 rfl rfl
set_option maxRecDepth 1000000 in
theorem w_1031 : Cond.selects RX8 yX8_bestStrength yX8_bestStrength ∈ zt := zt_at 1031 rfl rfl
set_option maxRecDepth 1000000 in
theorem qX8_bestStrength : (mX8_bestStrength.y.cls ≠ "java/lang/invoke/MethodHandle" ∧ mX8_bestStrength.y.cls ≠ "java/lang/invoke/VarHandle") ∧ (parseMethodDescriptor mX8_bestStrength.y.desc).map (fun d => d.parameters.length) = some 1 := by decide +kernel
set_option maxRecDepth 1000000 in
theorem kL_78 : zCalV RL 78 mX8_bestStrength 1 := ⟨⟨w_1029, w_70, w_1032, qX8_bestStrength.1, qX8_bestStrength.2⟩, w_1030, w_1031, rfl⟩
set_option maxRecDepth 1000000 in
theorem w_1040 : Cond.methodLink RL 81 yX8_bestByAll ∈ zt := zt_at 1040 rfl rfl
set_option maxRecDepth 1000000 in
theorem w_1043 : mX8_bestByAll.cond ∈ zt := zt_at 1043 rfl rfl
set_option maxRecDepth 1000000 in
theorem w_1041 : Cond.instanceMethod yX8_bestByAll ∈ zt := zt_at 1041 rfl rfl
set_option maxRecDepth 1000000 in
theorem w_1042 : Cond.selects RX8 yX8_bestByAll yX8_bestByAll ∈ zt := zt_at 1042 rfl rfl
set_option maxRecDepth 1000000 in
theorem qX8_bestByAll : (mX8_bestByAll.y.cls ≠ "java/lang/invoke/MethodHandle" ∧ mX8_bestByAll.y.cls ≠ "java/lang/invoke/VarHandle") ∧ (parseMethodDescriptor mX8_bestByAll.y.desc).map (fun d => d.parameters.length) = some 1 := by decide +kernel
set_option maxRecDepth 1000000 in
theorem kL_81 : zCalV RL 81 mX8_bestByAll 1 := ⟨⟨w_1040, w_70, w_1043, qX8_bestByAll.1, qX8_bestByAll.2⟩, w_1041, w_1042, rfl⟩
set_option maxRecDepth 1000000 in
theorem w_1047 : Cond.methodLink RL 84 yX8_tidyCost ∈ zt := zt_at 1047 rfl rfl
set_option maxRecDepth 1000000 in
theorem w_1050 : mX8_tidyCost.cond ∈ zt := zt_at 1050 rfl rfl
set_option maxRecDepth 1000000 in
theorem w_1048 : Cond.instanceMethod yX8_tidyCost ∈ zt := zt_at 1048 rfl rfl
set_option maxRecDepth 1000000 in
theorem w_1049 : Cond.selects RX8 yX8_tidyCost yX8_tidyCost ∈ zt := zt_at 1049 rfl rfl
set_option maxRecDepth 1000000 in
theorem qX8_tidyCost : (mX8_tidyCost.y.cls ≠ "java/lang/invoke/MethodHandle" ∧ mX8_tidyCost.y.cls ≠ "java/lang/invoke/VarHandle") ∧ (parseMethodDescriptor mX8_tidyCost.y.desc).map (fun d => d.parameters.length) = some 1 := by decide +kernel
set_option maxRecDepth 1000000 in
theorem kL_84 : zCalV RL 84 mX8_tidyCost 1 := ⟨⟨w_1047, w_70, w_1050, qX8_tidyCost.1, qX8_tidyCost.2⟩, w_1048, w_1049, rfl⟩
set_option maxRecDepth 1000000 in
theorem w_1058 : Cond.methodLink RL 87 yX8_tidyStart ∈ zt := zt_at 1058 rfl rfl
set_option maxRecDepth 1000000 in
theorem w_1061 : mX8_tidyStart.cond ∈ zt := zt_at 1061 rfl rfl
set_option maxRecDepth 1000000 in
theorem w_1059 : Cond.instanceMethod yX8_tidyStart ∈ zt := zt_at 1059 rfl rfl
set_option maxRecDepth 1000000 in
theorem w_1060 : Cond.selects RX8 yX8_tidyStart yX8_tidyStart ∈ zt := zt_at 1060 rfl rfl
set_option maxRecDepth 1000000 in
theorem qX8_tidyStart : (mX8_tidyStart.y.cls ≠ "java/lang/invoke/MethodHandle" ∧ mX8_tidyStart.y.cls ≠ "java/lang/invoke/VarHandle") ∧ (parseMethodDescriptor mX8_tidyStart.y.desc).map (fun d => d.parameters.length) = some 2 := by decide +kernel
set_option maxRecDepth 1000000 in
theorem kL_87 : zCalV RL 87 mX8_tidyStart 2 := ⟨⟨w_1058, w_70, w_1061, qX8_tidyStart.1, qX8_tidyStart.2⟩, w_1059, w_1060, rfl⟩
set_option maxRecDepth 1000000 in
theorem w_1069 : Cond.methodLink RL 90 yX8_tidy ∈ zt := zt_at 1069 rfl rfl
set_option maxRecDepth 1000000 in
theorem w_1072 : mX8_tidy.cond ∈ zt := zt_at 1072 rfl rfl
set_option maxRecDepth 1000000 in
theorem w_1070 : Cond.instanceMethod yX8_tidy ∈ zt := zt_at 1070 rfl rfl
set_option maxRecDepth 1000000 in
theorem w_1071 : Cond.selects RX8 yX8_tidy yX8_tidy ∈ zt := zt_at 1071 rfl rfl
set_option maxRecDepth 1000000 in
theorem qX8_tidy : (mX8_tidy.y.cls ≠ "java/lang/invoke/MethodHandle" ∧ mX8_tidy.y.cls ≠ "java/lang/invoke/VarHandle") ∧ (parseMethodDescriptor mX8_tidy.y.desc).map (fun d => d.parameters.length) = some 1 := by decide +kernel
set_option maxRecDepth 1000000 in
theorem kL_90 : zCalV RL 90 mX8_tidy 1 := ⟨⟨w_1069, w_70, w_1072, qX8_tidy.1, qX8_tidy.2⟩, w_1070, w_1071, rfl⟩
set_option maxRecDepth 1000000 in
theorem w_1076 : Cond.methodLink RL 93 yX8_evenCost ∈ zt := zt_at 1076 rfl rfl
set_option maxRecDepth 1000000 in
theorem w_1079 : mX8_evenCost.cond ∈ zt := zt_at 1079 rfl rfl
set_option maxRecDepth 1000000 in
theorem w_1077 : Cond.instanceMethod yX8_evenCost ∈ zt := zt_at 1077 rfl rfl
set_option maxRecDepth 1000000 in
theorem w_1078 : Cond.selects RX8 yX8_evenCost yX8_evenCost ∈ zt := zt_at 1078 rfl rfl
set_option maxRecDepth 1000000 in
theorem qX8_evenCost : (mX8_evenCost.y.cls ≠ "java/lang/invoke/MethodHandle" ∧ mX8_evenCost.y.cls ≠ "java/lang/invoke/VarHandle") ∧ (parseMethodDescriptor mX8_evenCost.y.desc).map (fun d => d.parameters.length) = some 1 := by decide +kernel
set_option maxRecDepth 1000000 in
theorem kL_93 : zCalV RL 93 mX8_evenCost 1 := ⟨⟨w_1076, w_70, w_1079, qX8_evenCost.1, qX8_evenCost.2⟩, w_1077, w_1078, rfl⟩
set_option maxRecDepth 1000000 in
theorem w_1088 : Cond.methodLink RL 96 yX8_evenByAll ∈ zt := zt_at 1088 rfl rfl
set_option maxRecDepth 1000000 in
theorem w_1091 : mX8_evenByAll.cond ∈ zt := zt_at 1091 rfl rfl
set_option maxRecDepth 1000000 in
theorem w_1089 : Cond.instanceMethod yX8_evenByAll ∈ zt := zt_at 1089 rfl rfl
set_option maxRecDepth 1000000 in
theorem w_1090 : Cond.selects RX8 yX8_evenByAll yX8_evenByAll ∈ zt := zt_at 1090 rfl rfl
set_option maxRecDepth 1000000 in
theorem qX8_evenByAll : (mX8_evenByAll.y.cls ≠ "java/lang/invoke/MethodHandle" ∧ mX8_evenByAll.y.cls ≠ "java/lang/invoke/VarHandle") ∧ (parseMethodDescriptor mX8_evenByAll.y.desc).map (fun d => d.parameters.length) = some 1 := by decide +kernel
set_option maxRecDepth 1000000 in
theorem kL_96 : zCalV RL 96 mX8_evenByAll 1 := ⟨⟨w_1088, w_70, w_1091, qX8_evenByAll.1, qX8_evenByAll.2⟩, w_1089, w_1090, rfl⟩
set_option maxRecDepth 1000000 in
theorem w_1095 : Cond.methodLink RL 99 yX8_spread ∈ zt := zt_at 1095 rfl rfl
set_option maxRecDepth 1000000 in
theorem w_1098 : mX8_spread.cond ∈ zt := zt_at 1098 rfl rfl
set_option maxRecDepth 1000000 in
theorem w_1096 : Cond.instanceMethod yX8_spread ∈ zt := zt_at 1096 rfl rfl
set_option maxRecDepth 1000000 in
theorem w_1097 : Cond.selects RX8 yX8_spread yX8_spread ∈ zt := zt_at 1097 rfl rfl
set_option maxRecDepth 1000000 in
theorem qX8_spread : (mX8_spread.y.cls ≠ "java/lang/invoke/MethodHandle" ∧ mX8_spread.y.cls ≠ "java/lang/invoke/VarHandle") ∧ (parseMethodDescriptor mX8_spread.y.desc).map (fun d => d.parameters.length) = some 1 := by decide +kernel
set_option maxRecDepth 1000000 in
theorem kL_99 : zCalV RL 99 mX8_spread 1 := ⟨⟨w_1095, w_70, w_1098, qX8_spread.1, qX8_spread.2⟩, w_1096, w_1097, rfl⟩
set_option maxRecDepth 1000000 in
theorem w_1114 : Cond.methodLink RL 102 yX8_guides ∈ zt := zt_at 1114 rfl rfl
set_option maxRecDepth 1000000 in
theorem w_1117 : mX8_guides.cond ∈ zt := zt_at 1117 rfl rfl
set_option maxRecDepth 1000000 in
theorem w_1115 : Cond.instanceMethod yX8_guides ∈ zt := zt_at 1115 rfl rfl
set_option maxRecDepth 1000000 in
theorem w_1116 : Cond.selects RX8 yX8_guides yX8_guides ∈ zt := zt_at 1116 rfl rfl
set_option maxRecDepth 1000000 in
theorem qX8_guides : (mX8_guides.y.cls ≠ "java/lang/invoke/MethodHandle" ∧ mX8_guides.y.cls ≠ "java/lang/invoke/VarHandle") ∧ (parseMethodDescriptor mX8_guides.y.desc).map (fun d => d.parameters.length) = some 1 := by decide +kernel
set_option maxRecDepth 1000000 in
theorem kL_102 : zCalV RL 102 mX8_guides 1 := ⟨⟨w_1114, w_70, w_1117, qX8_guides.1, qX8_guides.2⟩, w_1115, w_1116, rfl⟩
set_option maxRecDepth 1000000 in
theorem w_1130 : Cond.methodLink RL 105 yX8_guideAt ∈ zt := zt_at 1130 rfl rfl
set_option maxRecDepth 1000000 in
theorem w_1133 : mX8_guideAt.cond ∈ zt := zt_at 1133 rfl rfl
set_option maxRecDepth 1000000 in
theorem w_1131 : Cond.instanceMethod yX8_guideAt ∈ zt := zt_at 1131 rfl rfl
set_option maxRecDepth 1000000 in
theorem w_1132 : Cond.selects RX8 yX8_guideAt yX8_guideAt ∈ zt := zt_at 1132 rfl rfl
set_option maxRecDepth 1000000 in
theorem qX8_guideAt : (mX8_guideAt.y.cls ≠ "java/lang/invoke/MethodHandle" ∧ mX8_guideAt.y.cls ≠ "java/lang/invoke/VarHandle") ∧ (parseMethodDescriptor mX8_guideAt.y.desc).map (fun d => d.parameters.length) = some 2 := by decide +kernel
set_option maxRecDepth 1000000 in
theorem kL_105 : zCalV RL 105 mX8_guideAt 2 := ⟨⟨w_1130, w_70, w_1133, qX8_guideAt.1, qX8_guideAt.2⟩, w_1131, w_1132, rfl⟩
set_option maxRecDepth 1000000 in
theorem w_1138 : Cond.methodLink RL 109 yX8_distance ∈ zt := zt_at 1138 rfl rfl
set_option maxRecDepth 1000000 in
theorem w_1141 : mX8_distance.cond ∈ zt := zt_at 1141 rfl rfl
set_option maxRecDepth 1000000 in
theorem w_1139 : Cond.instanceMethod yX8_distance ∈ zt := zt_at 1139 rfl rfl
set_option maxRecDepth 1000000 in
theorem w_1140 : Cond.selects RX8 yX8_distance yX8_distance ∈ zt := zt_at 1140 rfl rfl
set_option maxRecDepth 1000000 in
theorem qX8_distance : (mX8_distance.y.cls ≠ "java/lang/invoke/MethodHandle" ∧ mX8_distance.y.cls ≠ "java/lang/invoke/VarHandle") ∧ (parseMethodDescriptor mX8_distance.y.desc).map (fun d => d.parameters.length) = some 2 := by decide +kernel
set_option maxRecDepth 1000000 in
theorem kL_109 : zCalV RL 109 mX8_distance 2 := ⟨⟨w_1138, w_70, w_1141, qX8_distance.1, qX8_distance.2⟩, w_1139, w_1140, rfl⟩
set_option maxRecDepth 1000000 in
theorem w_1147 : Cond.methodLink RL 112 yX8_groups ∈ zt := zt_at 1147 rfl rfl
set_option maxRecDepth 1000000 in
theorem w_1150 : mX8_groups.cond ∈ zt := zt_at 1150 rfl rfl
set_option maxRecDepth 1000000 in
theorem w_1148 : Cond.instanceMethod yX8_groups ∈ zt := zt_at 1148 rfl rfl
set_option maxRecDepth 1000000 in
theorem w_1149 : Cond.selects RX8 yX8_groups yX8_groups ∈ zt := zt_at 1149 rfl rfl
set_option maxRecDepth 1000000 in
theorem qX8_groups : (mX8_groups.y.cls ≠ "java/lang/invoke/MethodHandle" ∧ mX8_groups.y.cls ≠ "java/lang/invoke/VarHandle") ∧ (parseMethodDescriptor mX8_groups.y.desc).map (fun d => d.parameters.length) = some 1 := by decide +kernel
set_option maxRecDepth 1000000 in
theorem kL_112 : zCalV RL 112 mX8_groups 1 := ⟨⟨w_1147, w_70, w_1150, qX8_groups.1, qX8_groups.2⟩, w_1148, w_1149, rfl⟩
set_option maxRecDepth 1000000 in
theorem w_1159 : Cond.methodLink RL 115 yX8_groupsByLinks ∈ zt := zt_at 1159 rfl rfl
set_option maxRecDepth 1000000 in
theorem w_1162 : mX8_groupsByLinks.cond ∈ zt := zt_at 1162 rfl rfl
set_option maxRecDepth 1000000 in
theorem w_1160 : Cond.instanceMethod yX8_groupsByLinks ∈ zt := zt_at 1160 rfl rfl
set_option maxRecDepth 1000000 in
theorem w_1161 : Cond.selects RX8 yX8_groupsByLinks yX8_groupsByLinks ∈ zt := zt_at 1161 rfl rfl
set_option maxRecDepth 1000000 in
theorem qX8_groupsByLinks : (mX8_groupsByLinks.y.cls ≠ "java/lang/invoke/MethodHandle" ∧ mX8_groupsByLinks.y.cls ≠ "java/lang/invoke/VarHandle") ∧ (parseMethodDescriptor mX8_groupsByLinks.y.desc).map (fun d => d.parameters.length) = some 1 := by decide +kernel
set_option maxRecDepth 1000000 in
theorem kL_115 : zCalV RL 115 mX8_groupsByLinks 1 := ⟨⟨w_1159, w_70, w_1162, qX8_groupsByLinks.1, qX8_groupsByLinks.2⟩, w_1160, w_1161, rfl⟩
set_option maxRecDepth 1000000 in
theorem w_1166 : Cond.methodLink RL 118 yX8_groupOf ∈ zt := zt_at 1166 rfl rfl
set_option maxRecDepth 1000000 in
theorem w_1169 : mX8_groupOf.cond ∈ zt := zt_at 1169 rfl rfl
set_option maxRecDepth 1000000 in
theorem w_1167 : Cond.instanceMethod yX8_groupOf ∈ zt := zt_at 1167 rfl rfl
set_option maxRecDepth 1000000 in
theorem w_1168 : Cond.selects RX8 yX8_groupOf yX8_groupOf ∈ zt := zt_at 1168 rfl rfl
set_option maxRecDepth 1000000 in
theorem qX8_groupOf : (mX8_groupOf.y.cls ≠ "java/lang/invoke/MethodHandle" ∧ mX8_groupOf.y.cls ≠ "java/lang/invoke/VarHandle") ∧ (parseMethodDescriptor mX8_groupOf.y.desc).map (fun d => d.parameters.length) = some 2 := by decide +kernel
set_option maxRecDepth 1000000 in
theorem kL_118 : zCalV RL 118 mX8_groupOf 2 := ⟨⟨w_1166, w_70, w_1169, qX8_groupOf.1, qX8_groupOf.2⟩, w_1167, w_1168, rfl⟩
set_option maxRecDepth 1000000 in
theorem w_1191 : Cond.methodLink RL 121 yX8_meanDistance ∈ zt := zt_at 1191 rfl rfl
set_option maxRecDepth 1000000 in
theorem w_1194 : mX8_meanDistance.cond ∈ zt := zt_at 1194 rfl rfl
set_option maxRecDepth 1000000 in
theorem w_1192 : Cond.instanceMethod yX8_meanDistance ∈ zt := zt_at 1192 rfl rfl
set_option maxRecDepth 1000000 in
theorem w_1193 : Cond.selects RX8 yX8_meanDistance yX8_meanDistance ∈ zt := zt_at 1193 rfl rfl
set_option maxRecDepth 1000000 in
theorem qX8_meanDistance : (mX8_meanDistance.y.cls ≠ "java/lang/invoke/MethodHandle" ∧ mX8_meanDistance.y.cls ≠ "java/lang/invoke/VarHandle") ∧ (parseMethodDescriptor mX8_meanDistance.y.desc).map (fun d => d.parameters.length) = some 0 := by decide +kernel
set_option maxRecDepth 1000000 in
theorem kL_121 : zCalV RL 121 mX8_meanDistance 0 := ⟨⟨w_1191, w_70, w_1194, qX8_meanDistance.1, qX8_meanDistance.2⟩, w_1192, w_1193, rfl⟩
set_option maxRecDepth 1000000 in
theorem w_94 : Cond.methodLink RL 127 yX8_init ∈ zt := zt_at 94 rfl rfl
set_option maxRecDepth 1000000 in
theorem w_96 : mX8_init.cond ∈ zt := zt_at 96 rfl rfl
set_option maxRecDepth 1000000 in
theorem w_95 : Cond.instanceMethod yX8_init ∈ zt := zt_at 95 rfl rfl
set_option maxRecDepth 1000000 in
theorem qX8_init : (mX8_init.y.cls ≠ "java/lang/invoke/MethodHandle" ∧ mX8_init.y.cls ≠ "java/lang/invoke/VarHandle") ∧ (parseMethodDescriptor mX8_init.y.desc).map (fun d => d.parameters.length) = some 0 := by decide +kernel
set_option maxRecDepth 1000000 in
theorem kL_127 : zCalI RL 127 mX8_init 0 := ⟨⟨w_94, w_70, w_96, qX8_init.1, qX8_init.2⟩, w_95, rfl, rfl⟩
set_option maxRecDepth 1000000 in
theorem w_1200 : Cond.methodLink RL 130 yX9_init ∈ zt := zt_at 1200 rfl rfl
set_option maxRecDepth 1000000 in
theorem w_79 : Cond.initialized RX9 ∈ zt := zt_at 79 rfl rfl
set_option maxRecDepth 1000000 in
theorem w_1202 : mX9_init.cond ∈ zt := zt_at 1202 rfl rfl
set_option maxRecDepth 1000000 in
theorem w_1201 : Cond.instanceMethod yX9_init ∈ zt := zt_at 1201 rfl rfl
set_option maxRecDepth 1000000 in
theorem qX9_init : (mX9_init.y.cls ≠ "java/lang/invoke/MethodHandle" ∧ mX9_init.y.cls ≠ "java/lang/invoke/VarHandle") ∧ (parseMethodDescriptor mX9_init.y.desc).map (fun d => d.parameters.length) = some 0 := by decide +kernel
set_option maxRecDepth 1000000 in
theorem kL_130 : zCalI RL 130 mX9_init 0 := ⟨⟨w_1200, w_79, w_1202, qX9_init.1, qX9_init.2⟩, w_1201, rfl, rfl⟩
set_option maxRecDepth 1000000 in
theorem w_724 : Cond.methodLink RL 131 yL_addShape ∈ zt := zt_at 724 rfl rfl
set_option maxRecDepth 1000000 in
theorem w_69 : Cond.initialized RL ∈ zt := zt_at 69 rfl rfl
set_option maxRecDepth 1000000 in
theorem w_726 : mL_addShape.cond ∈ zt := zt_at 726 rfl rfl
set_option maxRecDepth 1000000 in
theorem w_725 : Cond.static yL_addShape ∈ zt := zt_at 725 rfl rfl
set_option maxRecDepth 1000000 in
theorem qL_addShape : (mL_addShape.y.cls ≠ "java/lang/invoke/MethodHandle" ∧ mL_addShape.y.cls ≠ "java/lang/invoke/VarHandle") ∧ (parseMethodDescriptor mL_addShape.y.desc).map (fun d => d.parameters.length) = some 6 := by decide +kernel
set_option maxRecDepth 1000000 in
theorem kL_131 : zCalSW RL 131 mL_addShape 6 [(0, 14, 17, 13), (0, 14, 21, 15), (0, 14, 25, 17)] := ⟨⟨w_724, w_69, w_726, qL_addShape.1, qL_addShape.2⟩, w_725, rfl⟩
set_option maxRecDepth 1000000 in
theorem w_1283 : Cond.methodLink RL 136 yX9_addShape ∈ zt := zt_at 1283 rfl rfl
set_option maxRecDepth 1000000 in
theorem w_1286 : mX9_addShape.cond ∈ zt := zt_at 1286 rfl rfl
set_option maxRecDepth 1000000 in
theorem w_1284 : Cond.instanceMethod yX9_addShape ∈ zt := zt_at 1284 rfl rfl
set_option maxRecDepth 1000000 in
theorem w_1285 : Cond.selects RX9 yX9_addShape yX9_addShape ∈ zt := zt_at 1285 rfl rfl
set_option maxRecDepth 1000000 in
theorem qX9_addShape : (mX9_addShape.y.cls ≠ "java/lang/invoke/MethodHandle" ∧ mX9_addShape.y.cls ≠ "java/lang/invoke/VarHandle") ∧ (parseMethodDescriptor mX9_addShape.y.desc).map (fun d => d.parameters.length) = some 4 := by decide +kernel
set_option maxRecDepth 1000000 in
theorem kL_136 : zCalV RL 136 mX9_addShape 4 := ⟨⟨w_1283, w_79, w_1286, qX9_addShape.1, qX9_addShape.2⟩, w_1284, w_1285, rfl⟩
set_option maxRecDepth 1000000 in
theorem w_1279 : Cond.methodLink RL 137 yX9_thrown ∈ zt := zt_at 1279 rfl rfl
set_option maxRecDepth 1000000 in
theorem w_1282 : mX9_thrown.cond ∈ zt := zt_at 1282 rfl rfl
set_option maxRecDepth 1000000 in
theorem w_1280 : Cond.instanceMethod yX9_thrown ∈ zt := zt_at 1280 rfl rfl
set_option maxRecDepth 1000000 in
theorem w_1281 : Cond.selects RX9 yX9_thrown yX9_thrown ∈ zt := zt_at 1281 rfl rfl
set_option maxRecDepth 1000000 in
theorem qX9_thrown : (mX9_thrown.y.cls ≠ "java/lang/invoke/MethodHandle" ∧ mX9_thrown.y.cls ≠ "java/lang/invoke/VarHandle") ∧ (parseMethodDescriptor mX9_thrown.y.desc).map (fun d => d.parameters.length) = some 0 := by decide +kernel
set_option maxRecDepth 1000000 in
theorem kL_137 : zCalV RL 137 mX9_thrown 0 := ⟨⟨w_1279, w_79, w_1282, qX9_thrown.1, qX9_thrown.2⟩, w_1280, w_1281, rfl⟩
set_option maxRecDepth 1000000 in
theorem w_774 : Cond.methodLink RL 141 yL_setLocked ∈ zt := zt_at 774 rfl rfl
set_option maxRecDepth 1000000 in
theorem w_776 : mL_setLocked.cond ∈ zt := zt_at 776 rfl rfl
set_option maxRecDepth 1000000 in
theorem w_775 : Cond.static yL_setLocked ∈ zt := zt_at 775 rfl rfl
set_option maxRecDepth 1000000 in
theorem qL_setLocked : (mL_setLocked.y.cls ≠ "java/lang/invoke/MethodHandle" ∧ mL_setLocked.y.cls ≠ "java/lang/invoke/VarHandle") ∧ (parseMethodDescriptor mL_setLocked.y.desc).map (fun d => d.parameters.length) = some 4 := by decide +kernel
set_option maxRecDepth 1000000 in
theorem kL_141 : zCalSW RL 141 mL_setLocked 4 [(0, 17, 20, 23)] := ⟨⟨w_774, w_69, w_776, qL_setLocked.1, qL_setLocked.2⟩, w_775, rfl⟩
set_option maxRecDepth 1000000 in
theorem w_1315 : Cond.methodLink RL 144 yX9_setLocked ∈ zt := zt_at 1315 rfl rfl
set_option maxRecDepth 1000000 in
theorem w_1318 : mX9_setLocked.cond ∈ zt := zt_at 1318 rfl rfl
set_option maxRecDepth 1000000 in
theorem w_1316 : Cond.instanceMethod yX9_setLocked ∈ zt := zt_at 1316 rfl rfl
set_option maxRecDepth 1000000 in
theorem w_1317 : Cond.selects RX9 yX9_setLocked yX9_setLocked ∈ zt := zt_at 1317 rfl rfl
set_option maxRecDepth 1000000 in
theorem qX9_setLocked : (mX9_setLocked.y.cls ≠ "java/lang/invoke/MethodHandle" ∧ mX9_setLocked.y.cls ≠ "java/lang/invoke/VarHandle") ∧ (parseMethodDescriptor mX9_setLocked.y.desc).map (fun d => d.parameters.length) = some 2 := by decide +kernel
set_option maxRecDepth 1000000 in
theorem kL_144 : zCalV RL 144 mX9_setLocked 2 := ⟨⟨w_1315, w_79, w_1318, qX9_setLocked.1, qX9_setLocked.2⟩, w_1316, w_1317, rfl⟩
set_option maxRecDepth 1000000 in
theorem w_828 : Cond.methodLink RL 145 yL_startOf ∈ zt := zt_at 828 rfl rfl
set_option maxRecDepth 1000000 in
theorem w_830 : mL_startOf.cond ∈ zt := zt_at 830 rfl rfl
set_option maxRecDepth 1000000 in
theorem w_829 : Cond.static yL_startOf ∈ zt := zt_at 829 rfl rfl
set_option maxRecDepth 1000000 in
theorem qL_startOf : (mL_startOf.y.cls ≠ "java/lang/invoke/MethodHandle" ∧ mL_startOf.y.cls ≠ "java/lang/invoke/VarHandle") ∧ (parseMethodDescriptor mL_startOf.y.desc).map (fun d => d.parameters.length) = some 4 := by decide +kernel
set_option maxRecDepth 1000000 in
theorem kL_145 : zCalSW RL 145 mL_startOf 4 [(0, 10, 13, 23), (0, 10, 17, 13)] := ⟨⟨w_828, w_69, w_830, qL_startOf.1, qL_startOf.2⟩, w_829, rfl⟩
set_option maxRecDepth 1000000 in
theorem w_1323 : Cond.methodLink RL 148 yX9_startOf ∈ zt := zt_at 1323 rfl rfl
set_option maxRecDepth 1000000 in
theorem w_1326 : mX9_startOf.cond ∈ zt := zt_at 1326 rfl rfl
set_option maxRecDepth 1000000 in
theorem w_1324 : Cond.instanceMethod yX9_startOf ∈ zt := zt_at 1324 rfl rfl
set_option maxRecDepth 1000000 in
theorem w_1325 : Cond.selects RX9 yX9_startOf yX9_startOf ∈ zt := zt_at 1325 rfl rfl
set_option maxRecDepth 1000000 in
theorem qX9_startOf : (mX9_startOf.y.cls ≠ "java/lang/invoke/MethodHandle" ∧ mX9_startOf.y.cls ≠ "java/lang/invoke/VarHandle") ∧ (parseMethodDescriptor mX9_startOf.y.desc).map (fun d => d.parameters.length) = some 2 := by decide +kernel
set_option maxRecDepth 1000000 in
theorem kL_148 : zCalV RL 148 mX9_startOf 2 := ⟨⟨w_1323, w_79, w_1326, qX9_startOf.1, qX9_startOf.2⟩, w_1324, w_1325, rfl⟩
set_option maxRecDepth 1000000 in
theorem w_835 : Cond.methodLink RL 149 yL_sizeOf ∈ zt := zt_at 835 rfl rfl
set_option maxRecDepth 1000000 in
theorem w_837 : mL_sizeOf.cond ∈ zt := zt_at 837 rfl rfl
set_option maxRecDepth 1000000 in
theorem w_836 : Cond.static yL_sizeOf ∈ zt := zt_at 836 rfl rfl
set_option maxRecDepth 1000000 in
theorem qL_sizeOf : (mL_sizeOf.y.cls ≠ "java/lang/invoke/MethodHandle" ∧ mL_sizeOf.y.cls ≠ "java/lang/invoke/VarHandle") ∧ (parseMethodDescriptor mL_sizeOf.y.desc).map (fun d => d.parameters.length) = some 4 := by decide +kernel
set_option maxRecDepth 1000000 in
theorem kL_149 : zCalSW RL 149 mL_sizeOf 4 [(0, 10, 13, 23), (0, 10, 17, 13)] := ⟨⟨w_835, w_69, w_837, qL_sizeOf.1, qL_sizeOf.2⟩, w_836, rfl⟩
set_option maxRecDepth 1000000 in
theorem w_1330 : Cond.methodLink RL 151 yX9_sizeOf ∈ zt := zt_at 1330 rfl rfl
set_option maxRecDepth 1000000 in
theorem w_1333 : mX9_sizeOf.cond ∈ zt := zt_at 1333 rfl rfl
set_option maxRecDepth 1000000 in
theorem w_1331 : Cond.instanceMethod yX9_sizeOf ∈ zt := zt_at 1331 rfl rfl
set_option maxRecDepth 1000000 in
theorem w_1332 : Cond.selects RX9 yX9_sizeOf yX9_sizeOf ∈ zt := zt_at 1332 rfl rfl
set_option maxRecDepth 1000000 in
theorem qX9_sizeOf : (mX9_sizeOf.y.cls ≠ "java/lang/invoke/MethodHandle" ∧ mX9_sizeOf.y.cls ≠ "java/lang/invoke/VarHandle") ∧ (parseMethodDescriptor mX9_sizeOf.y.desc).map (fun d => d.parameters.length) = some 2 := by decide +kernel
set_option maxRecDepth 1000000 in
theorem kL_151 : zCalV RL 151 mX9_sizeOf 2 := ⟨⟨w_1330, w_79, w_1333, qX9_sizeOf.1, qX9_sizeOf.2⟩, w_1331, w_1332, rfl⟩
set_option maxRecDepth 1000000 in
theorem w_842 : Cond.methodLink RL 152 yL_moveTo ∈ zt := zt_at 842 rfl rfl
set_option maxRecDepth 1000000 in
theorem w_844 : mL_moveTo.cond ∈ zt := zt_at 844 rfl rfl
set_option maxRecDepth 1000000 in
theorem w_843 : Cond.static yL_moveTo ∈ zt := zt_at 843 rfl rfl
set_option maxRecDepth 1000000 in
theorem qL_moveTo : (mL_moveTo.y.cls ≠ "java/lang/invoke/MethodHandle" ∧ mL_moveTo.y.cls ≠ "java/lang/invoke/VarHandle") ∧ (parseMethodDescriptor mL_moveTo.y.desc).map (fun d => d.parameters.length) = some 5 := by decide +kernel
set_option maxRecDepth 1000000 in
theorem kL_152 : zCalSW RL 152 mL_moveTo 5 [(0, 12, 15, 23), (0, 12, 19, 15), (0, 12, 23, 13), (0, 12, 27, 17)] := ⟨⟨w_842, w_69, w_844, qL_moveTo.1, qL_moveTo.2⟩, w_843, rfl⟩
set_option maxRecDepth 1000000 in
theorem w_1334 : Cond.methodLink RL 155 yX9_moveTo ∈ zt := zt_at 1334 rfl rfl
set_option maxRecDepth 1000000 in
theorem w_1337 : mX9_moveTo.cond ∈ zt := zt_at 1337 rfl rfl
set_option maxRecDepth 1000000 in
theorem w_1335 : Cond.instanceMethod yX9_moveTo ∈ zt := zt_at 1335 rfl rfl
set_option maxRecDepth 1000000 in
theorem w_1336 : Cond.selects RX9 yX9_moveTo yX9_moveTo ∈ zt := zt_at 1336 rfl rfl
set_option maxRecDepth 1000000 in
theorem qX9_moveTo : (mX9_moveTo.y.cls ≠ "java/lang/invoke/MethodHandle" ∧ mX9_moveTo.y.cls ≠ "java/lang/invoke/VarHandle") ∧ (parseMethodDescriptor mX9_moveTo.y.desc).map (fun d => d.parameters.length) = some 3 := by decide +kernel
set_option maxRecDepth 1000000 in
theorem kL_155 : zCalV RL 155 mX9_moveTo 3 := ⟨⟨w_1334, w_79, w_1337, qX9_moveTo.1, qX9_moveTo.2⟩, w_1335, w_1336, rfl⟩
set_option maxRecDepth 1000000 in
theorem w_862 : Cond.methodLink RL 156 yL_moveReason ∈ zt := zt_at 862 rfl rfl
set_option maxRecDepth 1000000 in
theorem w_864 : mL_moveReason.cond ∈ zt := zt_at 864 rfl rfl
set_option maxRecDepth 1000000 in
theorem w_863 : Cond.static yL_moveReason ∈ zt := zt_at 863 rfl rfl
set_option maxRecDepth 1000000 in
theorem qL_moveReason : (mL_moveReason.y.cls ≠ "java/lang/invoke/MethodHandle" ∧ mL_moveReason.y.cls ≠ "java/lang/invoke/VarHandle") ∧ (parseMethodDescriptor mL_moveReason.y.desc).map (fun d => d.parameters.length) = some 5 := by decide +kernel
set_option maxRecDepth 1000000 in
theorem kL_156 : zCalSW RL 156 mL_moveReason 5 [(0, 12, 15, 23)] := ⟨⟨w_862, w_69, w_864, qL_moveReason.1, qL_moveReason.2⟩, w_863, rfl⟩
set_option maxRecDepth 1000000 in
theorem w_1345 : Cond.methodLink RL 158 yX9_moveReason ∈ zt := zt_at 1345 rfl rfl
set_option maxRecDepth 1000000 in
theorem w_1348 : mX9_moveReason.cond ∈ zt := zt_at 1348 rfl rfl
set_option maxRecDepth 1000000 in
theorem w_1346 : Cond.instanceMethod yX9_moveReason ∈ zt := zt_at 1346 rfl rfl
set_option maxRecDepth 1000000 in
theorem w_1347 : Cond.selects RX9 yX9_moveReason yX9_moveReason ∈ zt := zt_at 1347 rfl rfl
set_option maxRecDepth 1000000 in
theorem qX9_moveReason : (mX9_moveReason.y.cls ≠ "java/lang/invoke/MethodHandle" ∧ mX9_moveReason.y.cls ≠ "java/lang/invoke/VarHandle") ∧ (parseMethodDescriptor mX9_moveReason.y.desc).map (fun d => d.parameters.length) = some 3 := by decide +kernel
set_option maxRecDepth 1000000 in
theorem kL_158 : zCalV RL 158 mX9_moveReason 3 := ⟨⟨w_1345, w_79, w_1348, qX9_moveReason.1, qX9_moveReason.2⟩, w_1346, w_1347, rfl⟩
set_option maxRecDepth 1000000 in
theorem w_869 : Cond.methodLink RL 159 yL_setText ∈ zt := zt_at 869 rfl rfl
set_option maxRecDepth 1000000 in
theorem w_871 : mL_setText.cond ∈ zt := zt_at 871 rfl rfl
set_option maxRecDepth 1000000 in
theorem w_870 : Cond.static yL_setText ∈ zt := zt_at 870 rfl rfl
set_option maxRecDepth 1000000 in
theorem qL_setText : (mL_setText.y.cls ≠ "java/lang/invoke/MethodHandle" ∧ mL_setText.y.cls ≠ "java/lang/invoke/VarHandle") ∧ (parseMethodDescriptor mL_setText.y.desc).map (fun d => d.parameters.length) = some 4 := by decide +kernel
set_option maxRecDepth 1000000 in
theorem kL_159 : zCalSW RL 159 mL_setText 4 [(0, 10, 13, 23), (0, 10, 17, 13)] := ⟨⟨w_869, w_69, w_871, qL_setText.1, qL_setText.2⟩, w_870, rfl⟩
set_option maxRecDepth 1000000 in
theorem w_1349 : Cond.methodLink RL 162 yX9_setText ∈ zt := zt_at 1349 rfl rfl
set_option maxRecDepth 1000000 in
theorem w_1352 : mX9_setText.cond ∈ zt := zt_at 1352 rfl rfl
set_option maxRecDepth 1000000 in
theorem w_1350 : Cond.instanceMethod yX9_setText ∈ zt := zt_at 1350 rfl rfl
set_option maxRecDepth 1000000 in
theorem w_1351 : Cond.selects RX9 yX9_setText yX9_setText ∈ zt := zt_at 1351 rfl rfl
set_option maxRecDepth 1000000 in
theorem qX9_setText : (mX9_setText.y.cls ≠ "java/lang/invoke/MethodHandle" ∧ mX9_setText.y.cls ≠ "java/lang/invoke/VarHandle") ∧ (parseMethodDescriptor mX9_setText.y.desc).map (fun d => d.parameters.length) = some 2 := by decide +kernel
set_option maxRecDepth 1000000 in
theorem kL_162 : zCalV RL 162 mX9_setText 2 := ⟨⟨w_1349, w_79, w_1352, qX9_setText.1, qX9_setText.2⟩, w_1350, w_1351, rfl⟩
set_option maxRecDepth 1000000 in
theorem w_881 : Cond.methodLink RL 163 yL_fits ∈ zt := zt_at 881 rfl rfl
set_option maxRecDepth 1000000 in
theorem w_883 : mL_fits.cond ∈ zt := zt_at 883 rfl rfl
set_option maxRecDepth 1000000 in
theorem w_882 : Cond.static yL_fits ∈ zt := zt_at 882 rfl rfl
set_option maxRecDepth 1000000 in
theorem qL_fits : (mL_fits.y.cls ≠ "java/lang/invoke/MethodHandle" ∧ mL_fits.y.cls ≠ "java/lang/invoke/VarHandle") ∧ (parseMethodDescriptor mL_fits.y.desc).map (fun d => d.parameters.length) = some 3 := by decide +kernel
set_option maxRecDepth 1000000 in
theorem kL_163 : zCalSW RL 163 mL_fits 3 [(0, 16, 19, 23)] := ⟨⟨w_881, w_69, w_883, qL_fits.1, qL_fits.2⟩, w_882, rfl⟩
set_option maxRecDepth 1000000 in
theorem w_1357 : Cond.methodLink RL 166 yX9_fits ∈ zt := zt_at 1357 rfl rfl
set_option maxRecDepth 1000000 in
theorem w_1360 : mX9_fits.cond ∈ zt := zt_at 1360 rfl rfl
set_option maxRecDepth 1000000 in
theorem w_1358 : Cond.instanceMethod yX9_fits ∈ zt := zt_at 1358 rfl rfl
set_option maxRecDepth 1000000 in
theorem w_1359 : Cond.selects RX9 yX9_fits yX9_fits ∈ zt := zt_at 1359 rfl rfl
set_option maxRecDepth 1000000 in
theorem qX9_fits : (mX9_fits.y.cls ≠ "java/lang/invoke/MethodHandle" ∧ mX9_fits.y.cls ≠ "java/lang/invoke/VarHandle") ∧ (parseMethodDescriptor mX9_fits.y.desc).map (fun d => d.parameters.length) = some 1 := by decide +kernel
set_option maxRecDepth 1000000 in
theorem kL_166 : zCalV RL 166 mX9_fits 1 := ⟨⟨w_1357, w_79, w_1360, qX9_fits.1, qX9_fits.2⟩, w_1358, w_1359, rfl⟩
set_option maxRecDepth 1000000 in
theorem w_892 : Cond.methodLink RL 167 yL_grow ∈ zt := zt_at 892 rfl rfl
set_option maxRecDepth 1000000 in
theorem w_894 : mL_grow.cond ∈ zt := zt_at 894 rfl rfl
set_option maxRecDepth 1000000 in
theorem w_893 : Cond.static yL_grow ∈ zt := zt_at 893 rfl rfl
set_option maxRecDepth 1000000 in
theorem qL_grow : (mL_grow.y.cls ≠ "java/lang/invoke/MethodHandle" ∧ mL_grow.y.cls ≠ "java/lang/invoke/VarHandle") ∧ (parseMethodDescriptor mL_grow.y.desc).map (fun d => d.parameters.length) = some 3 := by decide +kernel
set_option maxRecDepth 1000000 in
theorem kL_167 : zCalSW RL 167 mL_grow 3 [(0, 9, 12, 23), (0, 9, 15, 52), (0, 9, 18, 15), (0, 9, 21, 17)] := ⟨⟨w_892, w_69, w_894, qL_grow.1, qL_grow.2⟩, w_893, rfl⟩
set_option maxRecDepth 1000000 in
theorem w_1365 : Cond.methodLink RL 169 yX9_grow ∈ zt := zt_at 1365 rfl rfl
set_option maxRecDepth 1000000 in
theorem w_1368 : mX9_grow.cond ∈ zt := zt_at 1368 rfl rfl
set_option maxRecDepth 1000000 in
theorem w_1366 : Cond.instanceMethod yX9_grow ∈ zt := zt_at 1366 rfl rfl
set_option maxRecDepth 1000000 in
theorem w_1367 : Cond.selects RX9 yX9_grow yX9_grow ∈ zt := zt_at 1367 rfl rfl
set_option maxRecDepth 1000000 in
theorem qX9_grow : (mX9_grow.y.cls ≠ "java/lang/invoke/MethodHandle" ∧ mX9_grow.y.cls ≠ "java/lang/invoke/VarHandle") ∧ (parseMethodDescriptor mX9_grow.y.desc).map (fun d => d.parameters.length) = some 1 := by decide +kernel
set_option maxRecDepth 1000000 in
theorem kL_169 : zCalV RL 169 mX9_grow 1 := ⟨⟨w_1365, w_79, w_1368, qX9_grow.1, qX9_grow.2⟩, w_1366, w_1367, rfl⟩
set_option maxRecDepth 1000000 in
theorem w_933 : Cond.methodLink RL 170 yL_growReason ∈ zt := zt_at 933 rfl rfl
set_option maxRecDepth 1000000 in
theorem w_935 : mL_growReason.cond ∈ zt := zt_at 935 rfl rfl
set_option maxRecDepth 1000000 in
theorem w_934 : Cond.static yL_growReason ∈ zt := zt_at 934 rfl rfl
set_option maxRecDepth 1000000 in
theorem qL_growReason : (mL_growReason.y.cls ≠ "java/lang/invoke/MethodHandle" ∧ mL_growReason.y.cls ≠ "java/lang/invoke/VarHandle") ∧ (parseMethodDescriptor mL_growReason.y.desc).map (fun d => d.parameters.length) = some 3 := by decide +kernel
set_option maxRecDepth 1000000 in
theorem kL_170 : zCalSW RL 170 mL_growReason 3 [(0, 9, 12, 23)] := ⟨⟨w_933, w_69, w_935, qL_growReason.1, qL_growReason.2⟩, w_934, rfl⟩
set_option maxRecDepth 1000000 in
theorem w_1377 : Cond.methodLink RL 172 yX9_growReason ∈ zt := zt_at 1377 rfl rfl
set_option maxRecDepth 1000000 in
theorem w_1380 : mX9_growReason.cond ∈ zt := zt_at 1380 rfl rfl
set_option maxRecDepth 1000000 in
theorem w_1378 : Cond.instanceMethod yX9_growReason ∈ zt := zt_at 1378 rfl rfl
set_option maxRecDepth 1000000 in
theorem w_1379 : Cond.selects RX9 yX9_growReason yX9_growReason ∈ zt := zt_at 1379 rfl rfl
set_option maxRecDepth 1000000 in
theorem qX9_growReason : (mX9_growReason.y.cls ≠ "java/lang/invoke/MethodHandle" ∧ mX9_growReason.y.cls ≠ "java/lang/invoke/VarHandle") ∧ (parseMethodDescriptor mX9_growReason.y.desc).map (fun d => d.parameters.length) = some 1 := by decide +kernel
set_option maxRecDepth 1000000 in
theorem kL_172 : zCalV RL 172 mX9_growReason 1 := ⟨⟨w_1377, w_79, w_1380, qX9_growReason.1, qX9_growReason.2⟩, w_1378, w_1379, rfl⟩
set_option maxRecDepth 1000000 in
theorem w_940 : Cond.methodLink RL 173 yL_inTheWay ∈ zt := zt_at 940 rfl rfl
set_option maxRecDepth 1000000 in
theorem w_942 : mL_inTheWay.cond ∈ zt := zt_at 942 rfl rfl
set_option maxRecDepth 1000000 in
theorem w_941 : Cond.static yL_inTheWay ∈ zt := zt_at 941 rfl rfl
set_option maxRecDepth 1000000 in
theorem qL_inTheWay : (mL_inTheWay.y.cls ≠ "java/lang/invoke/MethodHandle" ∧ mL_inTheWay.y.cls ≠ "java/lang/invoke/VarHandle") ∧ (parseMethodDescriptor mL_inTheWay.y.desc).map (fun d => d.parameters.length) = some 3 := by decide +kernel
set_option maxRecDepth 1000000 in
theorem kL_173 : zCalSW RL 173 mL_inTheWay 3 [(0, 9, 12, 23), (0, 9, 15, 52)] := ⟨⟨w_940, w_69, w_942, qL_inTheWay.1, qL_inTheWay.2⟩, w_941, rfl⟩
set_option maxRecDepth 1000000 in
theorem w_1381 : Cond.methodLink RL 175 yX9_inTheWay ∈ zt := zt_at 1381 rfl rfl
set_option maxRecDepth 1000000 in
theorem w_1384 : mX9_inTheWay.cond ∈ zt := zt_at 1384 rfl rfl
set_option maxRecDepth 1000000 in
theorem w_1382 : Cond.instanceMethod yX9_inTheWay ∈ zt := zt_at 1382 rfl rfl
set_option maxRecDepth 1000000 in
theorem w_1383 : Cond.selects RX9 yX9_inTheWay yX9_inTheWay ∈ zt := zt_at 1383 rfl rfl
set_option maxRecDepth 1000000 in
theorem qX9_inTheWay : (mX9_inTheWay.y.cls ≠ "java/lang/invoke/MethodHandle" ∧ mX9_inTheWay.y.cls ≠ "java/lang/invoke/VarHandle") ∧ (parseMethodDescriptor mX9_inTheWay.y.desc).map (fun d => d.parameters.length) = some 1 := by decide +kernel
set_option maxRecDepth 1000000 in
theorem kL_175 : zCalV RL 175 mX9_inTheWay 1 := ⟨⟨w_1381, w_79, w_1384, qX9_inTheWay.1, qX9_inTheWay.2⟩, w_1382, w_1383, rfl⟩
set_option maxRecDepth 1000000 in
theorem w_949 : Cond.methodLink RL 176 yL_addWish ∈ zt := zt_at 949 rfl rfl
set_option maxRecDepth 1000000 in
theorem w_951 : mL_addWish.cond ∈ zt := zt_at 951 rfl rfl
set_option maxRecDepth 1000000 in
theorem w_950 : Cond.static yL_addWish ∈ zt := zt_at 950 rfl rfl
set_option maxRecDepth 1000000 in
theorem qL_addWish : (mL_addWish.y.cls ≠ "java/lang/invoke/MethodHandle" ∧ mL_addWish.y.cls ≠ "java/lang/invoke/VarHandle") ∧ (parseMethodDescriptor mL_addWish.y.desc).map (fun d => d.parameters.length) = some 6 := by decide +kernel
set_option maxRecDepth 1000000 in
theorem kL_176 : zCalSW RL 176 mL_addWish 6 [(0, 14, 17, 23), (0, 14, 21, 13), (0, 14, 25, 15)] := ⟨⟨w_949, w_69, w_951, qL_addWish.1, qL_addWish.2⟩, w_950, rfl⟩
set_option maxRecDepth 1000000 in
theorem w_1385 : Cond.methodLink RL 179 yX9_addWish ∈ zt := zt_at 1385 rfl rfl
set_option maxRecDepth 1000000 in
theorem w_1388 : mX9_addWish.cond ∈ zt := zt_at 1388 rfl rfl
set_option maxRecDepth 1000000 in
theorem w_1386 : Cond.instanceMethod yX9_addWish ∈ zt := zt_at 1386 rfl rfl
set_option maxRecDepth 1000000 in
theorem w_1387 : Cond.selects RX9 yX9_addWish yX9_addWish ∈ zt := zt_at 1387 rfl rfl
set_option maxRecDepth 1000000 in
theorem qX9_addWish : (mX9_addWish.y.cls ≠ "java/lang/invoke/MethodHandle" ∧ mX9_addWish.y.cls ≠ "java/lang/invoke/VarHandle") ∧ (parseMethodDescriptor mX9_addWish.y.desc).map (fun d => d.parameters.length) = some 4 := by decide +kernel
set_option maxRecDepth 1000000 in
theorem kL_179 : zCalV RL 179 mX9_addWish 4 := ⟨⟨w_1385, w_79, w_1388, qX9_addWish.1, qX9_addWish.2⟩, w_1386, w_1387, rfl⟩
set_option maxRecDepth 1000000 in
theorem w_967 : Cond.methodLink RL 180 yL_dropWish ∈ zt := zt_at 967 rfl rfl
set_option maxRecDepth 1000000 in
theorem w_969 : mL_dropWish.cond ∈ zt := zt_at 969 rfl rfl
set_option maxRecDepth 1000000 in
theorem w_968 : Cond.static yL_dropWish ∈ zt := zt_at 968 rfl rfl
set_option maxRecDepth 1000000 in
theorem qL_dropWish : (mL_dropWish.y.cls ≠ "java/lang/invoke/MethodHandle" ∧ mL_dropWish.y.cls ≠ "java/lang/invoke/VarHandle") ∧ (parseMethodDescriptor mL_dropWish.y.desc).map (fun d => d.parameters.length) = some 3 := by decide +kernel
set_option maxRecDepth 1000000 in
theorem kL_180 : zCalSW RL 180 mL_dropWish 3 [(0, 9, 12, 52)] := ⟨⟨w_967, w_69, w_969, qL_dropWish.1, qL_dropWish.2⟩, w_968, rfl⟩
set_option maxRecDepth 1000000 in
theorem w_1392 : Cond.methodLink RL 182 yX9_dropWish ∈ zt := zt_at 1392 rfl rfl
set_option maxRecDepth 1000000 in
theorem w_1395 : mX9_dropWish.cond ∈ zt := zt_at 1395 rfl rfl
set_option maxRecDepth 1000000 in
theorem w_1393 : Cond.instanceMethod yX9_dropWish ∈ zt := zt_at 1393 rfl rfl
set_option maxRecDepth 1000000 in
theorem w_1394 : Cond.selects RX9 yX9_dropWish yX9_dropWish ∈ zt := zt_at 1394 rfl rfl
set_option maxRecDepth 1000000 in
theorem qX9_dropWish : (mX9_dropWish.y.cls ≠ "java/lang/invoke/MethodHandle" ∧ mX9_dropWish.y.cls ≠ "java/lang/invoke/VarHandle") ∧ (parseMethodDescriptor mX9_dropWish.y.desc).map (fun d => d.parameters.length) = some 1 := by decide +kernel
set_option maxRecDepth 1000000 in
theorem kL_182 : zCalV RL 182 mX9_dropWish 1 := ⟨⟨w_1392, w_79, w_1395, qX9_dropWish.1, qX9_dropWish.2⟩, w_1393, w_1394, rfl⟩
set_option maxRecDepth 1000000 in
theorem w_990 : Cond.methodLink RL 183 yL_isMet ∈ zt := zt_at 990 rfl rfl
set_option maxRecDepth 1000000 in
theorem w_992 : mL_isMet.cond ∈ zt := zt_at 992 rfl rfl
set_option maxRecDepth 1000000 in
theorem w_991 : Cond.static yL_isMet ∈ zt := zt_at 991 rfl rfl
set_option maxRecDepth 1000000 in
theorem qL_isMet : (mL_isMet.y.cls ≠ "java/lang/invoke/MethodHandle" ∧ mL_isMet.y.cls ≠ "java/lang/invoke/VarHandle") ∧ (parseMethodDescriptor mL_isMet.y.desc).map (fun d => d.parameters.length) = some 3 := by decide +kernel
set_option maxRecDepth 1000000 in
theorem kL_183 : zCalSW RL 183 mL_isMet 3 [(0, 16, 19, 52)] := ⟨⟨w_990, w_69, w_992, qL_isMet.1, qL_isMet.2⟩, w_991, rfl⟩
set_option maxRecDepth 1000000 in
theorem w_1400 : Cond.methodLink RL 185 yX9_isMet ∈ zt := zt_at 1400 rfl rfl
set_option maxRecDepth 1000000 in
theorem w_1403 : mX9_isMet.cond ∈ zt := zt_at 1403 rfl rfl
set_option maxRecDepth 1000000 in
theorem w_1401 : Cond.instanceMethod yX9_isMet ∈ zt := zt_at 1401 rfl rfl
set_option maxRecDepth 1000000 in
theorem w_1402 : Cond.selects RX9 yX9_isMet yX9_isMet ∈ zt := zt_at 1402 rfl rfl
set_option maxRecDepth 1000000 in
theorem qX9_isMet : (mX9_isMet.y.cls ≠ "java/lang/invoke/MethodHandle" ∧ mX9_isMet.y.cls ≠ "java/lang/invoke/VarHandle") ∧ (parseMethodDescriptor mX9_isMet.y.desc).map (fun d => d.parameters.length) = some 1 := by decide +kernel
set_option maxRecDepth 1000000 in
theorem kL_185 : zCalV RL 185 mX9_isMet 1 := ⟨⟨w_1400, w_79, w_1403, qX9_isMet.1, qX9_isMet.2⟩, w_1401, w_1402, rfl⟩
set_option maxRecDepth 1000000 in
theorem w_1009 : Cond.methodLink RL 186 yL_strength ∈ zt := zt_at 1009 rfl rfl
set_option maxRecDepth 1000000 in
theorem w_1011 : mL_strength.cond ∈ zt := zt_at 1011 rfl rfl
set_option maxRecDepth 1000000 in
theorem w_1010 : Cond.static yL_strength ∈ zt := zt_at 1010 rfl rfl
set_option maxRecDepth 1000000 in
theorem qL_strength : (mL_strength.y.cls ≠ "java/lang/invoke/MethodHandle" ∧ mL_strength.y.cls ≠ "java/lang/invoke/VarHandle") ∧ (parseMethodDescriptor mL_strength.y.desc).map (fun d => d.parameters.length) = some 3 := by decide +kernel
set_option maxRecDepth 1000000 in
theorem kL_186 : zCalSW RL 186 mL_strength 3 [(0, 9, 12, 13)] := ⟨⟨w_1009, w_69, w_1011, qL_strength.1, qL_strength.2⟩, w_1010, rfl⟩
set_option maxRecDepth 1000000 in
theorem w_1412 : Cond.methodLink RL 189 yX9_strength ∈ zt := zt_at 1412 rfl rfl
set_option maxRecDepth 1000000 in
theorem w_1415 : mX9_strength.cond ∈ zt := zt_at 1415 rfl rfl
set_option maxRecDepth 1000000 in
theorem w_1413 : Cond.instanceMethod yX9_strength ∈ zt := zt_at 1413 rfl rfl
set_option maxRecDepth 1000000 in
theorem w_1414 : Cond.selects RX9 yX9_strength yX9_strength ∈ zt := zt_at 1414 rfl rfl
set_option maxRecDepth 1000000 in
theorem qX9_strength : (mX9_strength.y.cls ≠ "java/lang/invoke/MethodHandle" ∧ mX9_strength.y.cls ≠ "java/lang/invoke/VarHandle") ∧ (parseMethodDescriptor mX9_strength.y.desc).map (fun d => d.parameters.length) = some 1 := by decide +kernel
set_option maxRecDepth 1000000 in
theorem kL_189 : zCalV RL 189 mX9_strength 1 := ⟨⟨w_1412, w_79, w_1415, qX9_strength.1, qX9_strength.2⟩, w_1413, w_1414, rfl⟩
set_option maxRecDepth 1000000 in
theorem w_1017 : Cond.methodLink RL 190 yL_snaps ∈ zt := zt_at 1017 rfl rfl
set_option maxRecDepth 1000000 in
theorem w_1019 : mL_snaps.cond ∈ zt := zt_at 1019 rfl rfl
set_option maxRecDepth 1000000 in
theorem w_1018 : Cond.static yL_snaps ∈ zt := zt_at 1018 rfl rfl
set_option maxRecDepth 1000000 in
theorem qL_snaps : (mL_snaps.y.cls ≠ "java/lang/invoke/MethodHandle" ∧ mL_snaps.y.cls ≠ "java/lang/invoke/VarHandle") ∧ (parseMethodDescriptor mL_snaps.y.desc).map (fun d => d.parameters.length) = some 4 := by decide +kernel
set_option maxRecDepth 1000000 in
theorem kL_190 : zCalSW RL 190 mL_snaps 4 [(0, 10, 13, 23), (0, 10, 17, 13)] := ⟨⟨w_1017, w_69, w_1019, qL_snaps.1, qL_snaps.2⟩, w_1018, rfl⟩
set_option maxRecDepth 1000000 in
theorem w_1424 : Cond.methodLink RL 192 yX9_snaps ∈ zt := zt_at 1424 rfl rfl
set_option maxRecDepth 1000000 in
theorem w_1427 : mX9_snaps.cond ∈ zt := zt_at 1427 rfl rfl
set_option maxRecDepth 1000000 in
theorem w_1425 : Cond.instanceMethod yX9_snaps ∈ zt := zt_at 1425 rfl rfl
set_option maxRecDepth 1000000 in
theorem w_1426 : Cond.selects RX9 yX9_snaps yX9_snaps ∈ zt := zt_at 1426 rfl rfl
set_option maxRecDepth 1000000 in
theorem qX9_snaps : (mX9_snaps.y.cls ≠ "java/lang/invoke/MethodHandle" ∧ mX9_snaps.y.cls ≠ "java/lang/invoke/VarHandle") ∧ (parseMethodDescriptor mX9_snaps.y.desc).map (fun d => d.parameters.length) = some 2 := by decide +kernel
set_option maxRecDepth 1000000 in
theorem kL_192 : zCalV RL 192 mX9_snaps 2 := ⟨⟨w_1424, w_79, w_1427, qX9_snaps.1, qX9_snaps.2⟩, w_1425, w_1426, rfl⟩
set_option maxRecDepth 1000000 in
theorem w_1026 : Cond.methodLink RL 193 yL_bestStrength ∈ zt := zt_at 1026 rfl rfl
set_option maxRecDepth 1000000 in
theorem w_1028 : mL_bestStrength.cond ∈ zt := zt_at 1028 rfl rfl
set_option maxRecDepth 1000000 in
theorem w_1027 : Cond.static yL_bestStrength ∈ zt := zt_at 1027 rfl rfl
set_option maxRecDepth 1000000 in
theorem qL_bestStrength : (mL_bestStrength.y.cls ≠ "java/lang/invoke/MethodHandle" ∧ mL_bestStrength.y.cls ≠ "java/lang/invoke/VarHandle") ∧ (parseMethodDescriptor mL_bestStrength.y.desc).map (fun d => d.parameters.length) = some 3 := by decide +kernel
set_option maxRecDepth 1000000 in
theorem kL_193 : zCalSW RL 193 mL_bestStrength 3 [(0, 9, 12, 13)] := ⟨⟨w_1026, w_69, w_1028, qL_bestStrength.1, qL_bestStrength.2⟩, w_1027, rfl⟩
set_option maxRecDepth 1000000 in
theorem w_1436 : Cond.methodLink RL 195 yX9_bestStrength ∈ zt := zt_at 1436 rfl rfl
set_option maxRecDepth 1000000 in
theorem w_1439 : mX9_bestStrength.cond ∈ zt := zt_at 1439 rfl rfl
set_option maxRecDepth 1000000 in
theorem w_1437 : Cond.instanceMethod yX9_bestStrength ∈ zt := zt_at 1437 rfl rfl
set_option maxRecDepth 1000000 in
theorem w_1438 : Cond.selects RX9 yX9_bestStrength yX9_bestStrength ∈ zt := zt_at 1438 rfl rfl
set_option maxRecDepth 1000000 in
theorem qX9_bestStrength : (mX9_bestStrength.y.cls ≠ "java/lang/invoke/MethodHandle" ∧ mX9_bestStrength.y.cls ≠ "java/lang/invoke/VarHandle") ∧ (parseMethodDescriptor mX9_bestStrength.y.desc).map (fun d => d.parameters.length) = some 1 := by decide +kernel
set_option maxRecDepth 1000000 in
theorem kL_195 : zCalV RL 195 mX9_bestStrength 1 := ⟨⟨w_1436, w_79, w_1439, qX9_bestStrength.1, qX9_bestStrength.2⟩, w_1437, w_1438, rfl⟩
set_option maxRecDepth 1000000 in
theorem w_1037 : Cond.methodLink RL 196 yL_bestByAll ∈ zt := zt_at 1037 rfl rfl
set_option maxRecDepth 1000000 in
theorem w_1039 : mL_bestByAll.cond ∈ zt := zt_at 1039 rfl rfl
set_option maxRecDepth 1000000 in
theorem w_1038 : Cond.static yL_bestByAll ∈ zt := zt_at 1038 rfl rfl
set_option maxRecDepth 1000000 in
theorem qL_bestByAll : (mL_bestByAll.y.cls ≠ "java/lang/invoke/MethodHandle" ∧ mL_bestByAll.y.cls ≠ "java/lang/invoke/VarHandle") ∧ (parseMethodDescriptor mL_bestByAll.y.desc).map (fun d => d.parameters.length) = some 3 := by decide +kernel
set_option maxRecDepth 1000000 in
theorem kL_196 : zCalSW RL 196 mL_bestByAll 3 [(0, 9, 12, 13)] := ⟨⟨w_1037, w_69, w_1039, qL_bestByAll.1, qL_bestByAll.2⟩, w_1038, rfl⟩
set_option maxRecDepth 1000000 in
theorem w_1468 : Cond.methodLink RL 198 yX9_bestByAll ∈ zt := zt_at 1468 rfl rfl
set_option maxRecDepth 1000000 in
theorem w_1471 : mX9_bestByAll.cond ∈ zt := zt_at 1471 rfl rfl
set_option maxRecDepth 1000000 in
theorem w_1469 : Cond.instanceMethod yX9_bestByAll ∈ zt := zt_at 1469 rfl rfl
set_option maxRecDepth 1000000 in
theorem w_1470 : Cond.selects RX9 yX9_bestByAll yX9_bestByAll ∈ zt := zt_at 1470 rfl rfl
set_option maxRecDepth 1000000 in
theorem qX9_bestByAll : (mX9_bestByAll.y.cls ≠ "java/lang/invoke/MethodHandle" ∧ mX9_bestByAll.y.cls ≠ "java/lang/invoke/VarHandle") ∧ (parseMethodDescriptor mX9_bestByAll.y.desc).map (fun d => d.parameters.length) = some 1 := by decide +kernel
set_option maxRecDepth 1000000 in
theorem kL_198 : zCalV RL 198 mX9_bestByAll 1 := ⟨⟨w_1468, w_79, w_1471, qX9_bestByAll.1, qX9_bestByAll.2⟩, w_1469, w_1470, rfl⟩
set_option maxRecDepth 1000000 in
theorem w_1044 : Cond.methodLink RL 199 yL_tidyCost ∈ zt := zt_at 1044 rfl rfl
set_option maxRecDepth 1000000 in
theorem w_1046 : mL_tidyCost.cond ∈ zt := zt_at 1046 rfl rfl
set_option maxRecDepth 1000000 in
theorem w_1045 : Cond.static yL_tidyCost ∈ zt := zt_at 1045 rfl rfl
set_option maxRecDepth 1000000 in
theorem qL_tidyCost : (mL_tidyCost.y.cls ≠ "java/lang/invoke/MethodHandle" ∧ mL_tidyCost.y.cls ≠ "java/lang/invoke/VarHandle") ∧ (parseMethodDescriptor mL_tidyCost.y.desc).map (fun d => d.parameters.length) = some 3 := by decide +kernel
set_option maxRecDepth 1000000 in
theorem kL_199 : zCalSW RL 199 mL_tidyCost 3 [(0, 9, 12, 13)] := ⟨⟨w_1044, w_69, w_1046, qL_tidyCost.1, qL_tidyCost.2⟩, w_1045, rfl⟩
set_option maxRecDepth 1000000 in
theorem w_1473 : Cond.methodLink RL 201 yX9_tidyCost ∈ zt := zt_at 1473 rfl rfl
set_option maxRecDepth 1000000 in
theorem w_1476 : mX9_tidyCost.cond ∈ zt := zt_at 1476 rfl rfl
set_option maxRecDepth 1000000 in
theorem w_1474 : Cond.instanceMethod yX9_tidyCost ∈ zt := zt_at 1474 rfl rfl
set_option maxRecDepth 1000000 in
theorem w_1475 : Cond.selects RX9 yX9_tidyCost yX9_tidyCost ∈ zt := zt_at 1475 rfl rfl
set_option maxRecDepth 1000000 in
theorem qX9_tidyCost : (mX9_tidyCost.y.cls ≠ "java/lang/invoke/MethodHandle" ∧ mX9_tidyCost.y.cls ≠ "java/lang/invoke/VarHandle") ∧ (parseMethodDescriptor mX9_tidyCost.y.desc).map (fun d => d.parameters.length) = some 1 := by decide +kernel
set_option maxRecDepth 1000000 in
theorem kL_201 : zCalV RL 201 mX9_tidyCost 1 := ⟨⟨w_1473, w_79, w_1476, qX9_tidyCost.1, qX9_tidyCost.2⟩, w_1474, w_1475, rfl⟩
set_option maxRecDepth 1000000 in
theorem w_1055 : Cond.methodLink RL 202 yL_tidyStart ∈ zt := zt_at 1055 rfl rfl
set_option maxRecDepth 1000000 in
theorem w_1057 : mL_tidyStart.cond ∈ zt := zt_at 1057 rfl rfl
set_option maxRecDepth 1000000 in
theorem w_1056 : Cond.static yL_tidyStart ∈ zt := zt_at 1056 rfl rfl
set_option maxRecDepth 1000000 in
theorem qL_tidyStart : (mL_tidyStart.y.cls ≠ "java/lang/invoke/MethodHandle" ∧ mL_tidyStart.y.cls ≠ "java/lang/invoke/VarHandle") ∧ (parseMethodDescriptor mL_tidyStart.y.desc).map (fun d => d.parameters.length) = some 4 := by decide +kernel
set_option maxRecDepth 1000000 in
theorem kL_202 : zCalSW RL 202 mL_tidyStart 4 [(0, 10, 13, 23), (0, 10, 17, 13)] := ⟨⟨w_1055, w_69, w_1057, qL_tidyStart.1, qL_tidyStart.2⟩, w_1056, rfl⟩
set_option maxRecDepth 1000000 in
theorem w_1477 : Cond.methodLink RL 204 yX9_tidyStart ∈ zt := zt_at 1477 rfl rfl
set_option maxRecDepth 1000000 in
theorem w_1480 : mX9_tidyStart.cond ∈ zt := zt_at 1480 rfl rfl
set_option maxRecDepth 1000000 in
theorem w_1478 : Cond.instanceMethod yX9_tidyStart ∈ zt := zt_at 1478 rfl rfl
set_option maxRecDepth 1000000 in
theorem w_1479 : Cond.selects RX9 yX9_tidyStart yX9_tidyStart ∈ zt := zt_at 1479 rfl rfl
set_option maxRecDepth 1000000 in
theorem qX9_tidyStart : (mX9_tidyStart.y.cls ≠ "java/lang/invoke/MethodHandle" ∧ mX9_tidyStart.y.cls ≠ "java/lang/invoke/VarHandle") ∧ (parseMethodDescriptor mX9_tidyStart.y.desc).map (fun d => d.parameters.length) = some 2 := by decide +kernel
set_option maxRecDepth 1000000 in
theorem kL_204 : zCalV RL 204 mX9_tidyStart 2 := ⟨⟨w_1477, w_79, w_1480, qX9_tidyStart.1, qX9_tidyStart.2⟩, w_1478, w_1479, rfl⟩
set_option maxRecDepth 1000000 in
theorem w_1066 : Cond.methodLink RL 205 yL_tidy ∈ zt := zt_at 1066 rfl rfl
set_option maxRecDepth 1000000 in
theorem w_1068 : mL_tidy.cond ∈ zt := zt_at 1068 rfl rfl
set_option maxRecDepth 1000000 in
theorem w_1067 : Cond.static yL_tidy ∈ zt := zt_at 1067 rfl rfl
set_option maxRecDepth 1000000 in
theorem qL_tidy : (mL_tidy.y.cls ≠ "java/lang/invoke/MethodHandle" ∧ mL_tidy.y.cls ≠ "java/lang/invoke/VarHandle") ∧ (parseMethodDescriptor mL_tidy.y.desc).map (fun d => d.parameters.length) = some 3 := by decide +kernel
set_option maxRecDepth 1000000 in
theorem kL_205 : zCalSW RL 205 mL_tidy 3 [(0, 9, 12, 13)] := ⟨⟨w_1066, w_69, w_1068, qL_tidy.1, qL_tidy.2⟩, w_1067, rfl⟩
set_option maxRecDepth 1000000 in
theorem w_1481 : Cond.methodLink RL 207 yX9_tidy ∈ zt := zt_at 1481 rfl rfl
set_option maxRecDepth 1000000 in
theorem w_1484 : mX9_tidy.cond ∈ zt := zt_at 1484 rfl rfl
set_option maxRecDepth 1000000 in
theorem w_1482 : Cond.instanceMethod yX9_tidy ∈ zt := zt_at 1482 rfl rfl
set_option maxRecDepth 1000000 in
theorem w_1483 : Cond.selects RX9 yX9_tidy yX9_tidy ∈ zt := zt_at 1483 rfl rfl
set_option maxRecDepth 1000000 in
theorem qX9_tidy : (mX9_tidy.y.cls ≠ "java/lang/invoke/MethodHandle" ∧ mX9_tidy.y.cls ≠ "java/lang/invoke/VarHandle") ∧ (parseMethodDescriptor mX9_tidy.y.desc).map (fun d => d.parameters.length) = some 1 := by decide +kernel
set_option maxRecDepth 1000000 in
theorem kL_207 : zCalV RL 207 mX9_tidy 1 := ⟨⟨w_1481, w_79, w_1484, qX9_tidy.1, qX9_tidy.2⟩, w_1482, w_1483, rfl⟩
set_option maxRecDepth 1000000 in
theorem w_1073 : Cond.methodLink RL 208 yL_evenCost ∈ zt := zt_at 1073 rfl rfl
set_option maxRecDepth 1000000 in
theorem w_1075 : mL_evenCost.cond ∈ zt := zt_at 1075 rfl rfl
set_option maxRecDepth 1000000 in
theorem w_1074 : Cond.static yL_evenCost ∈ zt := zt_at 1074 rfl rfl
set_option maxRecDepth 1000000 in
theorem qL_evenCost : (mL_evenCost.y.cls ≠ "java/lang/invoke/MethodHandle" ∧ mL_evenCost.y.cls ≠ "java/lang/invoke/VarHandle") ∧ (parseMethodDescriptor mL_evenCost.y.desc).map (fun d => d.parameters.length) = some 3 := by decide +kernel
set_option maxRecDepth 1000000 in
theorem kL_208 : zCalSW RL 208 mL_evenCost 3 [(0, 9, 12, 13), (0, 9, 15, 52)] := ⟨⟨w_1073, w_69, w_1075, qL_evenCost.1, qL_evenCost.2⟩, w_1074, rfl⟩
set_option maxRecDepth 1000000 in
theorem w_1489 : Cond.methodLink RL 210 yX9_evenCost ∈ zt := zt_at 1489 rfl rfl
set_option maxRecDepth 1000000 in
theorem w_1492 : mX9_evenCost.cond ∈ zt := zt_at 1492 rfl rfl
set_option maxRecDepth 1000000 in
theorem w_1490 : Cond.instanceMethod yX9_evenCost ∈ zt := zt_at 1490 rfl rfl
set_option maxRecDepth 1000000 in
theorem w_1491 : Cond.selects RX9 yX9_evenCost yX9_evenCost ∈ zt := zt_at 1491 rfl rfl
set_option maxRecDepth 1000000 in
theorem qX9_evenCost : (mX9_evenCost.y.cls ≠ "java/lang/invoke/MethodHandle" ∧ mX9_evenCost.y.cls ≠ "java/lang/invoke/VarHandle") ∧ (parseMethodDescriptor mX9_evenCost.y.desc).map (fun d => d.parameters.length) = some 1 := by decide +kernel
set_option maxRecDepth 1000000 in
theorem kL_210 : zCalV RL 210 mX9_evenCost 1 := ⟨⟨w_1489, w_79, w_1492, qX9_evenCost.1, qX9_evenCost.2⟩, w_1490, w_1491, rfl⟩
set_option maxRecDepth 1000000 in
theorem w_1085 : Cond.methodLink RL 211 yL_evenByAll ∈ zt := zt_at 1085 rfl rfl
set_option maxRecDepth 1000000 in
theorem w_1087 : mL_evenByAll.cond ∈ zt := zt_at 1087 rfl rfl
set_option maxRecDepth 1000000 in
theorem w_1086 : Cond.static yL_evenByAll ∈ zt := zt_at 1086 rfl rfl
set_option maxRecDepth 1000000 in
theorem qL_evenByAll : (mL_evenByAll.y.cls ≠ "java/lang/invoke/MethodHandle" ∧ mL_evenByAll.y.cls ≠ "java/lang/invoke/VarHandle") ∧ (parseMethodDescriptor mL_evenByAll.y.desc).map (fun d => d.parameters.length) = some 3 := by decide +kernel
set_option maxRecDepth 1000000 in
theorem kL_211 : zCalSW RL 211 mL_evenByAll 3 [(0, 9, 12, 13), (0, 9, 15, 52)] := ⟨⟨w_1085, w_69, w_1087, qL_evenByAll.1, qL_evenByAll.2⟩, w_1086, rfl⟩
set_option maxRecDepth 1000000 in
theorem w_1501 : Cond.methodLink RL 213 yX9_evenByAll ∈ zt := zt_at 1501 rfl rfl
set_option maxRecDepth 1000000 in
theorem w_1504 : mX9_evenByAll.cond ∈ zt := zt_at 1504 rfl rfl
set_option maxRecDepth 1000000 in
theorem w_1502 : Cond.instanceMethod yX9_evenByAll ∈ zt := zt_at 1502 rfl rfl
set_option maxRecDepth 1000000 in
theorem w_1503 : Cond.selects RX9 yX9_evenByAll yX9_evenByAll ∈ zt := zt_at 1503 rfl rfl
set_option maxRecDepth 1000000 in
theorem qX9_evenByAll : (mX9_evenByAll.y.cls ≠ "java/lang/invoke/MethodHandle" ∧ mX9_evenByAll.y.cls ≠ "java/lang/invoke/VarHandle") ∧ (parseMethodDescriptor mX9_evenByAll.y.desc).map (fun d => d.parameters.length) = some 1 := by decide +kernel
set_option maxRecDepth 1000000 in
theorem kL_213 : zCalV RL 213 mX9_evenByAll 1 := ⟨⟨w_1501, w_79, w_1504, qX9_evenByAll.1, qX9_evenByAll.2⟩, w_1502, w_1503, rfl⟩
set_option maxRecDepth 1000000 in
theorem w_1092 : Cond.methodLink RL 214 yL_spread ∈ zt := zt_at 1092 rfl rfl
set_option maxRecDepth 1000000 in
theorem w_1094 : mL_spread.cond ∈ zt := zt_at 1094 rfl rfl
set_option maxRecDepth 1000000 in
theorem w_1093 : Cond.static yL_spread ∈ zt := zt_at 1093 rfl rfl
set_option maxRecDepth 1000000 in
theorem qL_spread : (mL_spread.y.cls ≠ "java/lang/invoke/MethodHandle" ∧ mL_spread.y.cls ≠ "java/lang/invoke/VarHandle") ∧ (parseMethodDescriptor mL_spread.y.desc).map (fun d => d.parameters.length) = some 3 := by decide +kernel
set_option maxRecDepth 1000000 in
theorem kL_214 : zCalSW RL 214 mL_spread 3 [(0, 9, 12, 13), (0, 9, 15, 52)] := ⟨⟨w_1092, w_69, w_1094, qL_spread.1, qL_spread.2⟩, w_1093, rfl⟩
set_option maxRecDepth 1000000 in
theorem w_1506 : Cond.methodLink RL 216 yX9_spread ∈ zt := zt_at 1506 rfl rfl
set_option maxRecDepth 1000000 in
theorem w_1509 : mX9_spread.cond ∈ zt := zt_at 1509 rfl rfl
set_option maxRecDepth 1000000 in
theorem w_1507 : Cond.instanceMethod yX9_spread ∈ zt := zt_at 1507 rfl rfl
set_option maxRecDepth 1000000 in
theorem w_1508 : Cond.selects RX9 yX9_spread yX9_spread ∈ zt := zt_at 1508 rfl rfl
set_option maxRecDepth 1000000 in
theorem qX9_spread : (mX9_spread.y.cls ≠ "java/lang/invoke/MethodHandle" ∧ mX9_spread.y.cls ≠ "java/lang/invoke/VarHandle") ∧ (parseMethodDescriptor mX9_spread.y.desc).map (fun d => d.parameters.length) = some 1 := by decide +kernel
set_option maxRecDepth 1000000 in
theorem kL_216 : zCalV RL 216 mX9_spread 1 := ⟨⟨w_1506, w_79, w_1509, qX9_spread.1, qX9_spread.2⟩, w_1507, w_1508, rfl⟩
set_option maxRecDepth 1000000 in
theorem w_1111 : Cond.methodLink RL 217 yL_guides ∈ zt := zt_at 1111 rfl rfl
set_option maxRecDepth 1000000 in
theorem w_1113 : mL_guides.cond ∈ zt := zt_at 1113 rfl rfl
set_option maxRecDepth 1000000 in
theorem w_1112 : Cond.static yL_guides ∈ zt := zt_at 1112 rfl rfl
set_option maxRecDepth 1000000 in
theorem qL_guides : (mL_guides.y.cls ≠ "java/lang/invoke/MethodHandle" ∧ mL_guides.y.cls ≠ "java/lang/invoke/VarHandle") ∧ (parseMethodDescriptor mL_guides.y.desc).map (fun d => d.parameters.length) = some 3 := by decide +kernel
set_option maxRecDepth 1000000 in
theorem kL_217 : zCalSW RL 217 mL_guides 3 [(0, 9, 12, 13)] := ⟨⟨w_1111, w_69, w_1113, qL_guides.1, qL_guides.2⟩, w_1112, rfl⟩
set_option maxRecDepth 1000000 in
theorem w_1510 : Cond.methodLink RL 219 yX9_guides ∈ zt := zt_at 1510 rfl rfl
set_option maxRecDepth 1000000 in
theorem w_1513 : mX9_guides.cond ∈ zt := zt_at 1513 rfl rfl
set_option maxRecDepth 1000000 in
theorem w_1511 : Cond.instanceMethod yX9_guides ∈ zt := zt_at 1511 rfl rfl
set_option maxRecDepth 1000000 in
theorem w_1512 : Cond.selects RX9 yX9_guides yX9_guides ∈ zt := zt_at 1512 rfl rfl
set_option maxRecDepth 1000000 in
theorem qX9_guides : (mX9_guides.y.cls ≠ "java/lang/invoke/MethodHandle" ∧ mX9_guides.y.cls ≠ "java/lang/invoke/VarHandle") ∧ (parseMethodDescriptor mX9_guides.y.desc).map (fun d => d.parameters.length) = some 1 := by decide +kernel
set_option maxRecDepth 1000000 in
theorem kL_219 : zCalV RL 219 mX9_guides 1 := ⟨⟨w_1510, w_79, w_1513, qX9_guides.1, qX9_guides.2⟩, w_1511, w_1512, rfl⟩
set_option maxRecDepth 1000000 in
theorem w_1127 : Cond.methodLink RL 220 yL_guideAt ∈ zt := zt_at 1127 rfl rfl
set_option maxRecDepth 1000000 in
theorem w_1129 : mL_guideAt.cond ∈ zt := zt_at 1129 rfl rfl
set_option maxRecDepth 1000000 in
theorem w_1128 : Cond.static yL_guideAt ∈ zt := zt_at 1128 rfl rfl
set_option maxRecDepth 1000000 in
theorem qL_guideAt : (mL_guideAt.y.cls ≠ "java/lang/invoke/MethodHandle" ∧ mL_guideAt.y.cls ≠ "java/lang/invoke/VarHandle") ∧ (parseMethodDescriptor mL_guideAt.y.desc).map (fun d => d.parameters.length) = some 4 := by decide +kernel
set_option maxRecDepth 1000000 in
theorem kL_220 : zCalSW RL 220 mL_guideAt 4 [(0, 10, 13, 13), (0, 10, 17, 52)] := ⟨⟨w_1127, w_69, w_1129, qL_guideAt.1, qL_guideAt.2⟩, w_1128, rfl⟩
set_option maxRecDepth 1000000 in
theorem w_1522 : Cond.methodLink RL 223 yX9_guideAt ∈ zt := zt_at 1522 rfl rfl
set_option maxRecDepth 1000000 in
theorem w_1525 : mX9_guideAt.cond ∈ zt := zt_at 1525 rfl rfl
set_option maxRecDepth 1000000 in
theorem w_1523 : Cond.instanceMethod yX9_guideAt ∈ zt := zt_at 1523 rfl rfl
set_option maxRecDepth 1000000 in
theorem w_1524 : Cond.selects RX9 yX9_guideAt yX9_guideAt ∈ zt := zt_at 1524 rfl rfl
set_option maxRecDepth 1000000 in
theorem qX9_guideAt : (mX9_guideAt.y.cls ≠ "java/lang/invoke/MethodHandle" ∧ mX9_guideAt.y.cls ≠ "java/lang/invoke/VarHandle") ∧ (parseMethodDescriptor mX9_guideAt.y.desc).map (fun d => d.parameters.length) = some 2 := by decide +kernel
set_option maxRecDepth 1000000 in
theorem kL_223 : zCalV RL 223 mX9_guideAt 2 := ⟨⟨w_1522, w_79, w_1525, qX9_guideAt.1, qX9_guideAt.2⟩, w_1523, w_1524, rfl⟩
set_option maxRecDepth 1000000 in
theorem w_1135 : Cond.methodLink RL 224 yL_distance ∈ zt := zt_at 1135 rfl rfl
set_option maxRecDepth 1000000 in
theorem w_1137 : mL_distance.cond ∈ zt := zt_at 1137 rfl rfl
set_option maxRecDepth 1000000 in
theorem w_1136 : Cond.static yL_distance ∈ zt := zt_at 1136 rfl rfl
set_option maxRecDepth 1000000 in
theorem qL_distance : (mL_distance.y.cls ≠ "java/lang/invoke/MethodHandle" ∧ mL_distance.y.cls ≠ "java/lang/invoke/VarHandle") ∧ (parseMethodDescriptor mL_distance.y.desc).map (fun d => d.parameters.length) = some 4 := by decide +kernel
set_option maxRecDepth 1000000 in
theorem kL_224 : zCalSW RL 224 mL_distance 4 [(0, 10, 13, 23), (0, 10, 17, 13)] := ⟨⟨w_1135, w_69, w_1137, qL_distance.1, qL_distance.2⟩, w_1136, rfl⟩
set_option maxRecDepth 1000000 in
theorem w_1526 : Cond.methodLink RL 226 yX9_distance ∈ zt := zt_at 1526 rfl rfl
set_option maxRecDepth 1000000 in
theorem w_1529 : mX9_distance.cond ∈ zt := zt_at 1529 rfl rfl
set_option maxRecDepth 1000000 in
theorem w_1527 : Cond.instanceMethod yX9_distance ∈ zt := zt_at 1527 rfl rfl
set_option maxRecDepth 1000000 in
theorem w_1528 : Cond.selects RX9 yX9_distance yX9_distance ∈ zt := zt_at 1528 rfl rfl
set_option maxRecDepth 1000000 in
theorem qX9_distance : (mX9_distance.y.cls ≠ "java/lang/invoke/MethodHandle" ∧ mX9_distance.y.cls ≠ "java/lang/invoke/VarHandle") ∧ (parseMethodDescriptor mX9_distance.y.desc).map (fun d => d.parameters.length) = some 2 := by decide +kernel
set_option maxRecDepth 1000000 in
theorem kL_226 : zCalV RL 226 mX9_distance 2 := ⟨⟨w_1526, w_79, w_1529, qX9_distance.1, qX9_distance.2⟩, w_1527, w_1528, rfl⟩
set_option maxRecDepth 1000000 in
theorem w_1144 : Cond.methodLink RL 227 yL_groups ∈ zt := zt_at 1144 rfl rfl
set_option maxRecDepth 1000000 in
theorem w_1146 : mL_groups.cond ∈ zt := zt_at 1146 rfl rfl
set_option maxRecDepth 1000000 in
theorem w_1145 : Cond.static yL_groups ∈ zt := zt_at 1145 rfl rfl
set_option maxRecDepth 1000000 in
theorem qL_groups : (mL_groups.y.cls ≠ "java/lang/invoke/MethodHandle" ∧ mL_groups.y.cls ≠ "java/lang/invoke/VarHandle") ∧ (parseMethodDescriptor mL_groups.y.desc).map (fun d => d.parameters.length) = some 3 := by decide +kernel
set_option maxRecDepth 1000000 in
theorem kL_227 : zCalSW RL 227 mL_groups 3 [(0, 9, 12, 13)] := ⟨⟨w_1144, w_69, w_1146, qL_groups.1, qL_groups.2⟩, w_1145, rfl⟩
set_option maxRecDepth 1000000 in
theorem w_1541 : Cond.methodLink RL 229 yX9_groups ∈ zt := zt_at 1541 rfl rfl
set_option maxRecDepth 1000000 in
theorem w_1544 : mX9_groups.cond ∈ zt := zt_at 1544 rfl rfl
set_option maxRecDepth 1000000 in
theorem w_1542 : Cond.instanceMethod yX9_groups ∈ zt := zt_at 1542 rfl rfl
set_option maxRecDepth 1000000 in
theorem w_1543 : Cond.selects RX9 yX9_groups yX9_groups ∈ zt := zt_at 1543 rfl rfl
set_option maxRecDepth 1000000 in
theorem qX9_groups : (mX9_groups.y.cls ≠ "java/lang/invoke/MethodHandle" ∧ mX9_groups.y.cls ≠ "java/lang/invoke/VarHandle") ∧ (parseMethodDescriptor mX9_groups.y.desc).map (fun d => d.parameters.length) = some 1 := by decide +kernel
set_option maxRecDepth 1000000 in
theorem kL_229 : zCalV RL 229 mX9_groups 1 := ⟨⟨w_1541, w_79, w_1544, qX9_groups.1, qX9_groups.2⟩, w_1542, w_1543, rfl⟩
set_option maxRecDepth 1000000 in
theorem w_1156 : Cond.methodLink RL 230 yL_groupsByLinks ∈ zt := zt_at 1156 rfl rfl
set_option maxRecDepth 1000000 in
theorem w_1158 : mL_groupsByLinks.cond ∈ zt := zt_at 1158 rfl rfl
set_option maxRecDepth 1000000 in
theorem w_1157 : Cond.static yL_groupsByLinks ∈ zt := zt_at 1157 rfl rfl
set_option maxRecDepth 1000000 in
theorem qL_groupsByLinks : (mL_groupsByLinks.y.cls ≠ "java/lang/invoke/MethodHandle" ∧ mL_groupsByLinks.y.cls ≠ "java/lang/invoke/VarHandle") ∧ (parseMethodDescriptor mL_groupsByLinks.y.desc).map (fun d => d.parameters.length) = some 3 := by decide +kernel
set_option maxRecDepth 1000000 in
theorem kL_230 : zCalSW RL 230 mL_groupsByLinks 3 [(0, 9, 12, 13)] := ⟨⟨w_1156, w_69, w_1158, qL_groupsByLinks.1, qL_groupsByLinks.2⟩, w_1157, rfl⟩
set_option maxRecDepth 1000000 in
theorem w_1549 : Cond.methodLink RL 232 yX9_groupsByLinks ∈ zt := zt_at 1549 rfl rfl
set_option maxRecDepth 1000000 in
theorem w_1552 : mX9_groupsByLinks.cond ∈ zt := zt_at 1552 rfl rfl
set_option maxRecDepth 1000000 in
theorem w_1550 : Cond.instanceMethod yX9_groupsByLinks ∈ zt := zt_at 1550 rfl rfl
set_option maxRecDepth 1000000 in
theorem w_1551 : Cond.selects RX9 yX9_groupsByLinks yX9_groupsByLinks ∈ zt := zt_at 1551 rfl rfl
set_option maxRecDepth 1000000 in
theorem qX9_groupsByLinks : (mX9_groupsByLinks.y.cls ≠ "java/lang/invoke/MethodHandle" ∧ mX9_groupsByLinks.y.cls ≠ "java/lang/invoke/VarHandle") ∧ (parseMethodDescriptor mX9_groupsByLinks.y.desc).map (fun d => d.parameters.length) = some 1 := by decide +kernel
set_option maxRecDepth 1000000 in
theorem kL_232 : zCalV RL 232 mX9_groupsByLinks 1 := ⟨⟨w_1549, w_79, w_1552, qX9_groupsByLinks.1, qX9_groupsByLinks.2⟩, w_1550, w_1551, rfl⟩
set_option maxRecDepth 1000000 in
theorem w_1163 : Cond.methodLink RL 233 yL_groupOf ∈ zt := zt_at 1163 rfl rfl
set_option maxRecDepth 1000000 in
theorem w_1165 : mL_groupOf.cond ∈ zt := zt_at 1165 rfl rfl
set_option maxRecDepth 1000000 in
theorem w_1164 : Cond.static yL_groupOf ∈ zt := zt_at 1164 rfl rfl
set_option maxRecDepth 1000000 in
theorem qL_groupOf : (mL_groupOf.y.cls ≠ "java/lang/invoke/MethodHandle" ∧ mL_groupOf.y.cls ≠ "java/lang/invoke/VarHandle") ∧ (parseMethodDescriptor mL_groupOf.y.desc).map (fun d => d.parameters.length) = some 4 := by decide +kernel
set_option maxRecDepth 1000000 in
theorem kL_233 : zCalSW RL 233 mL_groupOf 4 [(0, 10, 13, 23), (0, 10, 17, 13)] := ⟨⟨w_1163, w_69, w_1165, qL_groupOf.1, qL_groupOf.2⟩, w_1164, rfl⟩
set_option maxRecDepth 1000000 in
theorem w_1554 : Cond.methodLink RL 235 yX9_groupOf ∈ zt := zt_at 1554 rfl rfl
set_option maxRecDepth 1000000 in
theorem w_1557 : mX9_groupOf.cond ∈ zt := zt_at 1557 rfl rfl
set_option maxRecDepth 1000000 in
theorem w_1555 : Cond.instanceMethod yX9_groupOf ∈ zt := zt_at 1555 rfl rfl
set_option maxRecDepth 1000000 in
theorem w_1556 : Cond.selects RX9 yX9_groupOf yX9_groupOf ∈ zt := zt_at 1556 rfl rfl
set_option maxRecDepth 1000000 in
theorem qX9_groupOf : (mX9_groupOf.y.cls ≠ "java/lang/invoke/MethodHandle" ∧ mX9_groupOf.y.cls ≠ "java/lang/invoke/VarHandle") ∧ (parseMethodDescriptor mX9_groupOf.y.desc).map (fun d => d.parameters.length) = some 2 := by decide +kernel
set_option maxRecDepth 1000000 in
theorem kL_235 : zCalV RL 235 mX9_groupOf 2 := ⟨⟨w_1554, w_79, w_1557, qX9_groupOf.1, qX9_groupOf.2⟩, w_1555, w_1556, rfl⟩
set_option maxRecDepth 1000000 in
theorem w_322 : Cond.methodLink RL 236 yX8_moved ∈ zt := zt_at 322 rfl rfl
set_option maxRecDepth 1000000 in
theorem w_325 : mX8_moved.cond ∈ zt := zt_at 325 rfl rfl
set_option maxRecDepth 1000000 in
theorem w_323 : Cond.instanceMethod yX8_moved ∈ zt := zt_at 323 rfl rfl
set_option maxRecDepth 1000000 in
theorem w_324 : Cond.selects RX8 yX8_moved yX8_moved ∈ zt := zt_at 324 rfl rfl
set_option maxRecDepth 1000000 in
theorem qX8_moved : (mX8_moved.y.cls ≠ "java/lang/invoke/MethodHandle" ∧ mX8_moved.y.cls ≠ "java/lang/invoke/VarHandle") ∧ (parseMethodDescriptor mX8_moved.y.desc).map (fun d => d.parameters.length) = some 0 := by decide +kernel
set_option maxRecDepth 1000000 in
theorem kL_236 : zCalV RL 236 mX8_moved 0 := ⟨⟨w_322, w_70, w_325, qX8_moved.1, qX8_moved.2⟩, w_323, w_324, rfl⟩
set_option maxRecDepth 1000000 in
theorem w_1558 : Cond.methodLink RL 240 yX9_moved ∈ zt := zt_at 1558 rfl rfl
set_option maxRecDepth 1000000 in
theorem w_1561 : mX9_moved.cond ∈ zt := zt_at 1561 rfl rfl
set_option maxRecDepth 1000000 in
theorem w_1559 : Cond.instanceMethod yX9_moved ∈ zt := zt_at 1559 rfl rfl
set_option maxRecDepth 1000000 in
theorem w_1560 : Cond.selects RX9 yX9_moved yX9_moved ∈ zt := zt_at 1560 rfl rfl
set_option maxRecDepth 1000000 in
theorem qX9_moved : (mX9_moved.y.cls ≠ "java/lang/invoke/MethodHandle" ∧ mX9_moved.y.cls ≠ "java/lang/invoke/VarHandle") ∧ (parseMethodDescriptor mX9_moved.y.desc).map (fun d => d.parameters.length) = some 0 := by decide +kernel
set_option maxRecDepth 1000000 in
theorem kL_240 : zCalV RL 240 mX9_moved 0 := ⟨⟨w_1558, w_79, w_1561, qX9_moved.1, qX9_moved.2⟩, w_1559, w_1560, rfl⟩
set_option maxRecDepth 1000000 in
theorem w_326 : Cond.methodLink RL 241 yX8_covered ∈ zt := zt_at 326 rfl rfl
set_option maxRecDepth 1000000 in
theorem w_329 : mX8_covered.cond ∈ zt := zt_at 329 rfl rfl
set_option maxRecDepth 1000000 in
theorem w_327 : Cond.instanceMethod yX8_covered ∈ zt := zt_at 327 rfl rfl
set_option maxRecDepth 1000000 in
theorem w_328 : Cond.selects RX8 yX8_covered yX8_covered ∈ zt := zt_at 328 rfl rfl
set_option maxRecDepth 1000000 in
theorem qX8_covered : (mX8_covered.y.cls ≠ "java/lang/invoke/MethodHandle" ∧ mX8_covered.y.cls ≠ "java/lang/invoke/VarHandle") ∧ (parseMethodDescriptor mX8_covered.y.desc).map (fun d => d.parameters.length) = some 0 := by decide +kernel
set_option maxRecDepth 1000000 in
theorem kL_241 : zCalV RL 241 mX8_covered 0 := ⟨⟨w_326, w_70, w_329, qX8_covered.1, qX8_covered.2⟩, w_327, w_328, rfl⟩
set_option maxRecDepth 1000000 in
theorem w_1562 : Cond.methodLink RL 245 yX9_covered ∈ zt := zt_at 1562 rfl rfl
set_option maxRecDepth 1000000 in
theorem w_1565 : mX9_covered.cond ∈ zt := zt_at 1565 rfl rfl
set_option maxRecDepth 1000000 in
theorem w_1563 : Cond.instanceMethod yX9_covered ∈ zt := zt_at 1563 rfl rfl
set_option maxRecDepth 1000000 in
theorem w_1564 : Cond.selects RX9 yX9_covered yX9_covered ∈ zt := zt_at 1564 rfl rfl
set_option maxRecDepth 1000000 in
theorem qX9_covered : (mX9_covered.y.cls ≠ "java/lang/invoke/MethodHandle" ∧ mX9_covered.y.cls ≠ "java/lang/invoke/VarHandle") ∧ (parseMethodDescriptor mX9_covered.y.desc).map (fun d => d.parameters.length) = some 0 := by decide +kernel
set_option maxRecDepth 1000000 in
theorem kL_245 : zCalV RL 245 mX9_covered 0 := ⟨⟨w_1562, w_79, w_1565, qX9_covered.1, qX9_covered.2⟩, w_1563, w_1564, rfl⟩
set_option maxRecDepth 1000000 in
theorem w_1174 : Cond.methodLink RL 246 yL_meanDistance ∈ zt := zt_at 1174 rfl rfl
set_option maxRecDepth 1000000 in
theorem w_1176 : mL_meanDistance.cond ∈ zt := zt_at 1176 rfl rfl
set_option maxRecDepth 1000000 in
theorem w_1175 : Cond.static yL_meanDistance ∈ zt := zt_at 1175 rfl rfl
set_option maxRecDepth 1000000 in
theorem qL_meanDistance : (mL_meanDistance.y.cls ≠ "java/lang/invoke/MethodHandle" ∧ mL_meanDistance.y.cls ≠ "java/lang/invoke/VarHandle") ∧ (parseMethodDescriptor mL_meanDistance.y.desc).map (fun d => d.parameters.length) = some 2 := by decide +kernel
set_option maxRecDepth 1000000 in
theorem kL_246 : zCalSW RL 246 mL_meanDistance 2 [(0, 7, 10, 125)] := ⟨⟨w_1174, w_69, w_1176, qL_meanDistance.1, qL_meanDistance.2⟩, w_1175, rfl⟩
set_option maxRecDepth 1000000 in
theorem w_1567 : Cond.methodLink RL 249 yX9_meanDistance ∈ zt := zt_at 1567 rfl rfl
set_option maxRecDepth 1000000 in
theorem w_1570 : mX9_meanDistance.cond ∈ zt := zt_at 1570 rfl rfl
set_option maxRecDepth 1000000 in
theorem w_1568 : Cond.instanceMethod yX9_meanDistance ∈ zt := zt_at 1568 rfl rfl
set_option maxRecDepth 1000000 in
theorem w_1569 : Cond.selects RX9 yX9_meanDistance yX9_meanDistance ∈ zt := zt_at 1569 rfl rfl
set_option maxRecDepth 1000000 in
theorem qX9_meanDistance : (mX9_meanDistance.y.cls ≠ "java/lang/invoke/MethodHandle" ∧ mX9_meanDistance.y.cls ≠ "java/lang/invoke/VarHandle") ∧ (parseMethodDescriptor mX9_meanDistance.y.desc).map (fun d => d.parameters.length) = some 0 := by decide +kernel
set_option maxRecDepth 1000000 in
theorem kL_249 : zCalV RL 249 mX9_meanDistance 0 := ⟨⟨w_1567, w_79, w_1570, qX9_meanDistance.1, qX9_meanDistance.2⟩, w_1568, w_1569, rfl⟩
set_option maxRecDepth 1000000 in
theorem w_351 : Cond.methodLink RL 250 yX8_isSound ∈ zt := zt_at 351 rfl rfl
set_option maxRecDepth 1000000 in
theorem w_354 : mX8_isSound.cond ∈ zt := zt_at 354 rfl rfl
set_option maxRecDepth 1000000 in
theorem w_352 : Cond.instanceMethod yX8_isSound ∈ zt := zt_at 352 rfl rfl
set_option maxRecDepth 1000000 in
theorem w_353 : Cond.selects RX8 yX8_isSound yX8_isSound ∈ zt := zt_at 353 rfl rfl
set_option maxRecDepth 1000000 in
theorem qX8_isSound : (mX8_isSound.y.cls ≠ "java/lang/invoke/MethodHandle" ∧ mX8_isSound.y.cls ≠ "java/lang/invoke/VarHandle") ∧ (parseMethodDescriptor mX8_isSound.y.desc).map (fun d => d.parameters.length) = some 0 := by decide +kernel
set_option maxRecDepth 1000000 in
theorem kL_250 : zCalV RL 250 mX8_isSound 0 := ⟨⟨w_351, w_70, w_354, qX8_isSound.1, qX8_isSound.2⟩, w_352, w_353, rfl⟩
set_option maxRecDepth 1000000 in
theorem w_1571 : Cond.methodLink RL 254 yX9_isSound ∈ zt := zt_at 1571 rfl rfl
set_option maxRecDepth 1000000 in
theorem w_1574 : mX9_isSound.cond ∈ zt := zt_at 1574 rfl rfl
set_option maxRecDepth 1000000 in
theorem w_1572 : Cond.instanceMethod yX9_isSound ∈ zt := zt_at 1572 rfl rfl
set_option maxRecDepth 1000000 in
theorem w_1573 : Cond.selects RX9 yX9_isSound yX9_isSound ∈ zt := zt_at 1573 rfl rfl
set_option maxRecDepth 1000000 in
theorem qX9_isSound : (mX9_isSound.y.cls ≠ "java/lang/invoke/MethodHandle" ∧ mX9_isSound.y.cls ≠ "java/lang/invoke/VarHandle") ∧ (parseMethodDescriptor mX9_isSound.y.desc).map (fun d => d.parameters.length) = some 0 := by decide +kernel
set_option maxRecDepth 1000000 in
theorem kL_254 : zCalV RL 254 mX9_isSound 0 := ⟨⟨w_1571, w_79, w_1574, qX9_isSound.1, qX9_isSound.2⟩, w_1572, w_1573, rfl⟩
set_option maxRecDepth 1000000 in
theorem w_1287 : Cond.methodLink RX9 67 yX9_in ∈ zt := zt_at 1287 rfl rfl
set_option maxRecDepth 1000000 in
theorem w_1289 : mX9_in.cond ∈ zt := zt_at 1289 rfl rfl
set_option maxRecDepth 1000000 in
theorem w_1288 : Cond.static yX9_in ∈ zt := zt_at 1288 rfl rfl
set_option maxRecDepth 1000000 in
theorem qX9_in : (mX9_in.y.cls ≠ "java/lang/invoke/MethodHandle" ∧ mX9_in.y.cls ≠ "java/lang/invoke/VarHandle") ∧ (parseMethodDescriptor mX9_in.y.desc).map (fun d => d.parameters.length) = some 3 := by decide +kernel
set_option maxRecDepth 1000000 in
theorem kX9_67 : zCalS RX9 67 mX9_in 3 := ⟨⟨w_1287, w_79, w_1289, qX9_in.1, qX9_in.2⟩, w_1288, rfl⟩
set_option maxRecDepth 1000000 in
theorem w_1293 : Cond.methodLink RX9 71 yX9_room ∈ zt := zt_at 1293 rfl rfl
set_option maxRecDepth 1000000 in
theorem w_1295 : mX9_room.cond ∈ zt := zt_at 1295 rfl rfl
set_option maxRecDepth 1000000 in
theorem w_1294 : Cond.static yX9_room ∈ zt := zt_at 1294 rfl rfl
set_option maxRecDepth 1000000 in
theorem qX9_room : (mX9_room.y.cls ≠ "java/lang/invoke/MethodHandle" ∧ mX9_room.y.cls ≠ "java/lang/invoke/VarHandle") ∧ (parseMethodDescriptor mX9_room.y.desc).map (fun d => d.parameters.length) = some 1 := by decide +kernel
set_option maxRecDepth 1000000 in
theorem kX9_71 : zCalS RX9 71 mX9_room 1 := ⟨⟨w_1293, w_79, w_1295, qX9_room.1, qX9_room.2⟩, w_1294, rfl⟩
set_option maxRecDepth 1000000 in
theorem w_1304 : Cond.methodLink RX9 75 yX9_at ∈ zt := zt_at 1304 rfl rfl
set_option maxRecDepth 1000000 in
theorem w_1307 : mX9_at.cond ∈ zt := zt_at 1307 rfl rfl
set_option maxRecDepth 1000000 in
theorem w_1306 : Cond.instanceMethod yX9_at ∈ zt := zt_at 1306 rfl rfl
set_option maxRecDepth 1000000 in
theorem w_39 : Cond.selects RX9 yX9_at yX9_at ∈ zt := zt_at 39 rfl rfl
set_option maxRecDepth 1000000 in
theorem qX9_at : (mX9_at.y.cls ≠ "java/lang/invoke/MethodHandle" ∧ mX9_at.y.cls ≠ "java/lang/invoke/VarHandle") ∧ (parseMethodDescriptor mX9_at.y.desc).map (fun d => d.parameters.length) = some 2 := by decide +kernel
set_option maxRecDepth 1000000 in
theorem kX9_75 : zCalV RX9 75 mX9_at 2 := ⟨⟨w_1304, w_79, w_1307, qX9_at.1, qX9_at.2⟩, w_1306, w_39, rfl⟩
set_option maxRecDepth 1000000 in
theorem w_1308 : Cond.methodLink RX9 79 yX9_sizeAt ∈ zt := zt_at 1308 rfl rfl
set_option maxRecDepth 1000000 in
theorem w_1311 : mX9_sizeAt.cond ∈ zt := zt_at 1311 rfl rfl
set_option maxRecDepth 1000000 in
theorem w_1310 : Cond.instanceMethod yX9_sizeAt ∈ zt := zt_at 1310 rfl rfl
set_option maxRecDepth 1000000 in
theorem w_40 : Cond.selects RX9 yX9_sizeAt yX9_sizeAt ∈ zt := zt_at 40 rfl rfl
set_option maxRecDepth 1000000 in
theorem qX9_sizeAt : (mX9_sizeAt.y.cls ≠ "java/lang/invoke/MethodHandle" ∧ mX9_sizeAt.y.cls ≠ "java/lang/invoke/VarHandle") ∧ (parseMethodDescriptor mX9_sizeAt.y.desc).map (fun d => d.parameters.length) = some 2 := by decide +kernel
set_option maxRecDepth 1000000 in
theorem kX9_79 : zCalV RX9 79 mX9_sizeAt 2 := ⟨⟨w_1308, w_79, w_1311, qX9_sizeAt.1, qX9_sizeAt.2⟩, w_1310, w_40, rfl⟩
set_option maxRecDepth 1000000 in
theorem w_1312 : Cond.methodLink RX9 82 yX9_meet ∈ zt := zt_at 1312 rfl rfl
set_option maxRecDepth 1000000 in
theorem w_1314 : mX9_meet.cond ∈ zt := zt_at 1314 rfl rfl
set_option maxRecDepth 1000000 in
theorem w_1313 : Cond.static yX9_meet ∈ zt := zt_at 1313 rfl rfl
set_option maxRecDepth 1000000 in
theorem qX9_meet : (mX9_meet.y.cls ≠ "java/lang/invoke/MethodHandle" ∧ mX9_meet.y.cls ≠ "java/lang/invoke/VarHandle") ∧ (parseMethodDescriptor mX9_meet.y.desc).map (fun d => d.parameters.length) = some 4 := by decide +kernel
set_option maxRecDepth 1000000 in
theorem kX9_82 : zCalS RX9 82 mX9_meet 4 := ⟨⟨w_1312, w_79, w_1314, qX9_meet.1, qX9_meet.2⟩, w_1313, rfl⟩
set_option maxRecDepth 1000000 in
theorem w_1290 : Cond.methodLink RX9 86 yX9_isOn ∈ zt := zt_at 1290 rfl rfl
set_option maxRecDepth 1000000 in
theorem w_1292 : mX9_isOn.cond ∈ zt := zt_at 1292 rfl rfl
set_option maxRecDepth 1000000 in
theorem w_1291 : Cond.static yX9_isOn ∈ zt := zt_at 1291 rfl rfl
set_option maxRecDepth 1000000 in
theorem qX9_isOn : (mX9_isOn.y.cls ≠ "java/lang/invoke/MethodHandle" ∧ mX9_isOn.y.cls ≠ "java/lang/invoke/VarHandle") ∧ (parseMethodDescriptor mX9_isOn.y.desc).map (fun d => d.parameters.length) = some 3 := by decide +kernel
set_option maxRecDepth 1000000 in
theorem kX9_86 : zCalS RX9 86 mX9_isOn 3 := ⟨⟨w_1290, w_79, w_1292, qX9_isOn.1, qX9_isOn.2⟩, w_1291, rfl⟩
set_option maxRecDepth 1000000 in
theorem w_1296 : Cond.methodLink RX9 89 yX9_fails ∈ zt := zt_at 1296 rfl rfl
set_option maxRecDepth 1000000 in
theorem w_1299 : mX9_fails.cond ∈ zt := zt_at 1299 rfl rfl
set_option maxRecDepth 1000000 in
theorem w_1298 : Cond.instanceMethod yX9_fails ∈ zt := zt_at 1298 rfl rfl
set_option maxRecDepth 1000000 in
theorem w_37 : Cond.selects RX9 yX9_fails yX9_fails ∈ zt := zt_at 37 rfl rfl
set_option maxRecDepth 1000000 in
theorem qX9_fails : (mX9_fails.y.cls ≠ "java/lang/invoke/MethodHandle" ∧ mX9_fails.y.cls ≠ "java/lang/invoke/VarHandle") ∧ (parseMethodDescriptor mX9_fails.y.desc).map (fun d => d.parameters.length) = some 2 := by decide +kernel
set_option maxRecDepth 1000000 in
theorem kX9_89 : zCalV RX9 89 mX9_fails 2 := ⟨⟨w_1296, w_79, w_1299, qX9_fails.1, qX9_fails.2⟩, w_1298, w_37, rfl⟩
set_option maxRecDepth 1000000 in
theorem w_1300 : Cond.methodLink RX9 93 yX9_overlapped ∈ zt := zt_at 1300 rfl rfl
set_option maxRecDepth 1000000 in
theorem w_1303 : mX9_overlapped.cond ∈ zt := zt_at 1303 rfl rfl
set_option maxRecDepth 1000000 in
theorem w_1302 : Cond.instanceMethod yX9_overlapped ∈ zt := zt_at 1302 rfl rfl
set_option maxRecDepth 1000000 in
theorem w_38 : Cond.selects RX9 yX9_overlapped yX9_overlapped ∈ zt := zt_at 38 rfl rfl
set_option maxRecDepth 1000000 in
theorem qX9_overlapped : (mX9_overlapped.y.cls ≠ "java/lang/invoke/MethodHandle" ∧ mX9_overlapped.y.cls ≠ "java/lang/invoke/VarHandle") ∧ (parseMethodDescriptor mX9_overlapped.y.desc).map (fun d => d.parameters.length) = some 5 := by decide +kernel
set_option maxRecDepth 1000000 in
theorem kX9_93 : zCalV RX9 93 mX9_overlapped 5 := ⟨⟨w_1300, w_79, w_1303, qX9_overlapped.1, qX9_overlapped.2⟩, w_1302, w_38, rfl⟩
set_option maxRecDepth 1000000 in
theorem w_1319 : Cond.methodLink RX9 97 yX9_noShape ∈ zt := zt_at 1319 rfl rfl
set_option maxRecDepth 1000000 in
theorem w_1322 : mX9_noShape.cond ∈ zt := zt_at 1322 rfl rfl
set_option maxRecDepth 1000000 in
theorem w_1321 : Cond.instanceMethod yX9_noShape ∈ zt := zt_at 1321 rfl rfl
set_option maxRecDepth 1000000 in
theorem w_41 : Cond.selects RX9 yX9_noShape yX9_noShape ∈ zt := zt_at 41 rfl rfl
set_option maxRecDepth 1000000 in
theorem qX9_noShape : (mX9_noShape.y.cls ≠ "java/lang/invoke/MethodHandle" ∧ mX9_noShape.y.cls ≠ "java/lang/invoke/VarHandle") ∧ (parseMethodDescriptor mX9_noShape.y.desc).map (fun d => d.parameters.length) = some 1 := by decide +kernel
set_option maxRecDepth 1000000 in
theorem kX9_97 : zCalV RX9 97 mX9_noShape 1 := ⟨⟨w_1319, w_79, w_1322, qX9_noShape.1, qX9_noShape.2⟩, w_1321, w_41, rfl⟩
set_option maxRecDepth 1000000 in
theorem w_1327 : Cond.methodLink RX9 101 yX9_axisOf ∈ zt := zt_at 1327 rfl rfl
set_option maxRecDepth 1000000 in
theorem w_1329 : mX9_axisOf.cond ∈ zt := zt_at 1329 rfl rfl
set_option maxRecDepth 1000000 in
theorem w_1328 : Cond.static yX9_axisOf ∈ zt := zt_at 1328 rfl rfl
set_option maxRecDepth 1000000 in
theorem qX9_axisOf : (mX9_axisOf.y.cls ≠ "java/lang/invoke/MethodHandle" ∧ mX9_axisOf.y.cls ≠ "java/lang/invoke/VarHandle") ∧ (parseMethodDescriptor mX9_axisOf.y.desc).map (fun d => d.parameters.length) = some 1 := by decide +kernel
set_option maxRecDepth 1000000 in
theorem kX9_101 : zCalS RX9 101 mX9_axisOf 1 := ⟨⟨w_1327, w_79, w_1329, qX9_axisOf.1, qX9_axisOf.2⟩, w_1328, rfl⟩
set_option maxRecDepth 1000000 in
theorem w_1338 : Cond.methodLink RX9 105 yX9_moveNow ∈ zt := zt_at 1338 rfl rfl
set_option maxRecDepth 1000000 in
theorem w_1341 : mX9_moveNow.cond ∈ zt := zt_at 1341 rfl rfl
set_option maxRecDepth 1000000 in
theorem w_1340 : Cond.instanceMethod yX9_moveNow ∈ zt := zt_at 1340 rfl rfl
set_option maxRecDepth 1000000 in
theorem w_42 : Cond.selects RX9 yX9_moveNow yX9_moveNow ∈ zt := zt_at 42 rfl rfl
set_option maxRecDepth 1000000 in
theorem qX9_moveNow : (mX9_moveNow.y.cls ≠ "java/lang/invoke/MethodHandle" ∧ mX9_moveNow.y.cls ≠ "java/lang/invoke/VarHandle") ∧ (parseMethodDescriptor mX9_moveNow.y.desc).map (fun d => d.parameters.length) = some 3 := by decide +kernel
set_option maxRecDepth 1000000 in
theorem kX9_105 : zCalV RX9 105 mX9_moveNow 3 := ⟨⟨w_1338, w_79, w_1341, qX9_moveNow.1, qX9_moveNow.2⟩, w_1340, w_42, rfl⟩
set_option maxRecDepth 1000000 in
theorem w_1342 : Cond.methodLink RX9 109 yX9_without ∈ zt := zt_at 1342 rfl rfl
set_option maxRecDepth 1000000 in
theorem w_1344 : mX9_without.cond ∈ zt := zt_at 1344 rfl rfl
set_option maxRecDepth 1000000 in
theorem w_1343 : Cond.static yX9_without ∈ zt := zt_at 1343 rfl rfl
set_option maxRecDepth 1000000 in
theorem qX9_without : (mX9_without.y.cls ≠ "java/lang/invoke/MethodHandle" ∧ mX9_without.y.cls ≠ "java/lang/invoke/VarHandle") ∧ (parseMethodDescriptor mX9_without.y.desc).map (fun d => d.parameters.length) = some 1 := by decide +kernel
set_option maxRecDepth 1000000 in
theorem kX9_109 : zCalS RX9 109 mX9_without 1 := ⟨⟨w_1342, w_79, w_1344, qX9_without.1, qX9_without.2⟩, w_1343, rfl⟩
set_option maxRecDepth 1000000 in
theorem w_1353 : Cond.methodLink RX9 116 yX9_needed ∈ zt := zt_at 1353 rfl rfl
set_option maxRecDepth 1000000 in
theorem w_1356 : mX9_needed.cond ∈ zt := zt_at 1356 rfl rfl
set_option maxRecDepth 1000000 in
theorem w_1355 : Cond.instanceMethod yX9_needed ∈ zt := zt_at 1355 rfl rfl
set_option maxRecDepth 1000000 in
theorem w_43 : Cond.selects RX9 yX9_needed yX9_needed ∈ zt := zt_at 43 rfl rfl
set_option maxRecDepth 1000000 in
theorem qX9_needed : (mX9_needed.y.cls ≠ "java/lang/invoke/MethodHandle" ∧ mX9_needed.y.cls ≠ "java/lang/invoke/VarHandle") ∧ (parseMethodDescriptor mX9_needed.y.desc).map (fun d => d.parameters.length) = some 1 := by decide +kernel
set_option maxRecDepth 1000000 in
theorem kX9_116 : zCalV RX9 116 mX9_needed 1 := ⟨⟨w_1353, w_79, w_1356, qX9_needed.1, qX9_needed.2⟩, w_1355, w_43, rfl⟩
set_option maxRecDepth 1000000 in
theorem w_1361 : Cond.methodLink RX9 119 yX9_fitsNow ∈ zt := zt_at 1361 rfl rfl
set_option maxRecDepth 1000000 in
theorem w_1364 : mX9_fitsNow.cond ∈ zt := zt_at 1364 rfl rfl
set_option maxRecDepth 1000000 in
theorem w_1363 : Cond.instanceMethod yX9_fitsNow ∈ zt := zt_at 1363 rfl rfl
set_option maxRecDepth 1000000 in
theorem w_44 : Cond.selects RX9 yX9_fitsNow yX9_fitsNow ∈ zt := zt_at 44 rfl rfl
set_option maxRecDepth 1000000 in
theorem qX9_fitsNow : (mX9_fitsNow.y.cls ≠ "java/lang/invoke/MethodHandle" ∧ mX9_fitsNow.y.cls ≠ "java/lang/invoke/VarHandle") ∧ (parseMethodDescriptor mX9_fitsNow.y.desc).map (fun d => d.parameters.length) = some 1 := by decide +kernel
set_option maxRecDepth 1000000 in
theorem kX9_119 : zCalV RX9 119 mX9_fitsNow 1 := ⟨⟨w_1361, w_79, w_1364, qX9_fitsNow.1, qX9_fitsNow.2⟩, w_1363, w_44, rfl⟩
set_option maxRecDepth 1000000 in
theorem w_1373 : Cond.methodLink RX9 122 yX9_way ∈ zt := zt_at 1373 rfl rfl
set_option maxRecDepth 1000000 in
theorem w_1376 : mX9_way.cond ∈ zt := zt_at 1376 rfl rfl
set_option maxRecDepth 1000000 in
theorem w_1375 : Cond.instanceMethod yX9_way ∈ zt := zt_at 1375 rfl rfl
set_option maxRecDepth 1000000 in
theorem w_46 : Cond.selects RX9 yX9_way yX9_way ∈ zt := zt_at 46 rfl rfl
set_option maxRecDepth 1000000 in
theorem qX9_way : (mX9_way.y.cls ≠ "java/lang/invoke/MethodHandle" ∧ mX9_way.y.cls ≠ "java/lang/invoke/VarHandle") ∧ (parseMethodDescriptor mX9_way.y.desc).map (fun d => d.parameters.length) = some 1 := by decide +kernel
set_option maxRecDepth 1000000 in
theorem kX9_122 : zCalV RX9 122 mX9_way 1 := ⟨⟨w_1373, w_79, w_1376, qX9_way.1, qX9_way.2⟩, w_1375, w_46, rfl⟩
set_option maxRecDepth 1000000 in
theorem w_1369 : Cond.methodLink RX9 125 yX9_growNow ∈ zt := zt_at 1369 rfl rfl
set_option maxRecDepth 1000000 in
theorem w_1372 : mX9_growNow.cond ∈ zt := zt_at 1372 rfl rfl
set_option maxRecDepth 1000000 in
theorem w_1371 : Cond.instanceMethod yX9_growNow ∈ zt := zt_at 1371 rfl rfl
set_option maxRecDepth 1000000 in
theorem w_45 : Cond.selects RX9 yX9_growNow yX9_growNow ∈ zt := zt_at 45 rfl rfl
set_option maxRecDepth 1000000 in
theorem qX9_growNow : (mX9_growNow.y.cls ≠ "java/lang/invoke/MethodHandle" ∧ mX9_growNow.y.cls ≠ "java/lang/invoke/VarHandle") ∧ (parseMethodDescriptor mX9_growNow.y.desc).map (fun d => d.parameters.length) = some 1 := by decide +kernel
set_option maxRecDepth 1000000 in
theorem kX9_125 : zCalV RX9 125 mX9_growNow 1 := ⟨⟨w_1369, w_79, w_1372, qX9_growNow.1, qX9_growNow.2⟩, w_1371, w_45, rfl⟩
set_option maxRecDepth 1000000 in
theorem w_1389 : Cond.methodLink RX9 129 yX9_axisOfKind ∈ zt := zt_at 1389 rfl rfl
set_option maxRecDepth 1000000 in
theorem w_1391 : mX9_axisOfKind.cond ∈ zt := zt_at 1391 rfl rfl
set_option maxRecDepth 1000000 in
theorem w_1390 : Cond.static yX9_axisOfKind ∈ zt := zt_at 1390 rfl rfl
set_option maxRecDepth 1000000 in
theorem qX9_axisOfKind : (mX9_axisOfKind.y.cls ≠ "java/lang/invoke/MethodHandle" ∧ mX9_axisOfKind.y.cls ≠ "java/lang/invoke/VarHandle") ∧ (parseMethodDescriptor mX9_axisOfKind.y.desc).map (fun d => d.parameters.length) = some 1 := by decide +kernel
set_option maxRecDepth 1000000 in
theorem kX9_129 : zCalS RX9 129 mX9_axisOfKind 1 := ⟨⟨w_1389, w_79, w_1391, qX9_axisOfKind.1, qX9_axisOfKind.2⟩, w_1390, rfl⟩
set_option maxRecDepth 1000000 in
theorem w_1396 : Cond.methodLink RX9 135 yX9_noWish ∈ zt := zt_at 1396 rfl rfl
set_option maxRecDepth 1000000 in
theorem w_1399 : mX9_noWish.cond ∈ zt := zt_at 1399 rfl rfl
set_option maxRecDepth 1000000 in
theorem w_1398 : Cond.instanceMethod yX9_noWish ∈ zt := zt_at 1398 rfl rfl
set_option maxRecDepth 1000000 in
theorem w_47 : Cond.selects RX9 yX9_noWish yX9_noWish ∈ zt := zt_at 47 rfl rfl
set_option maxRecDepth 1000000 in
theorem qX9_noWish : (mX9_noWish.y.cls ≠ "java/lang/invoke/MethodHandle" ∧ mX9_noWish.y.cls ≠ "java/lang/invoke/VarHandle") ∧ (parseMethodDescriptor mX9_noWish.y.desc).map (fun d => d.parameters.length) = some 1 := by decide +kernel
set_option maxRecDepth 1000000 in
theorem kX9_135 : zCalV RX9 135 mX9_noWish 1 := ⟨⟨w_1396, w_79, w_1399, qX9_noWish.1, qX9_noWish.2⟩, w_1398, w_47, rfl⟩
set_option maxRecDepth 1000000 in
theorem w_1408 : Cond.methodLink RX9 138 yX9_feature ∈ zt := zt_at 1408 rfl rfl
set_option maxRecDepth 1000000 in
theorem w_1411 : mX9_feature.cond ∈ zt := zt_at 1411 rfl rfl
set_option maxRecDepth 1000000 in
theorem w_1410 : Cond.instanceMethod yX9_feature ∈ zt := zt_at 1410 rfl rfl
set_option maxRecDepth 1000000 in
theorem w_49 : Cond.selects RX9 yX9_feature yX9_feature ∈ zt := zt_at 49 rfl rfl
set_option maxRecDepth 1000000 in
theorem qX9_feature : (mX9_feature.y.cls ≠ "java/lang/invoke/MethodHandle" ∧ mX9_feature.y.cls ≠ "java/lang/invoke/VarHandle") ∧ (parseMethodDescriptor mX9_feature.y.desc).map (fun d => d.parameters.length) = some 3 := by decide +kernel
set_option maxRecDepth 1000000 in
theorem kX9_138 : zCalV RX9 138 mX9_feature 3 := ⟨⟨w_1408, w_79, w_1411, qX9_feature.1, qX9_feature.2⟩, w_1410, w_49, rfl⟩
set_option maxRecDepth 1000000 in
theorem w_1404 : Cond.methodLink RX9 142 yX9_isMetWith ∈ zt := zt_at 1404 rfl rfl
set_option maxRecDepth 1000000 in
theorem w_1407 : mX9_isMetWith.cond ∈ zt := zt_at 1407 rfl rfl
set_option maxRecDepth 1000000 in
theorem w_1406 : Cond.instanceMethod yX9_isMetWith ∈ zt := zt_at 1406 rfl rfl
set_option maxRecDepth 1000000 in
theorem w_48 : Cond.selects RX9 yX9_isMetWith yX9_isMetWith ∈ zt := zt_at 48 rfl rfl
set_option maxRecDepth 1000000 in
theorem qX9_isMetWith : (mX9_isMetWith.y.cls ≠ "java/lang/invoke/MethodHandle" ∧ mX9_isMetWith.y.cls ≠ "java/lang/invoke/VarHandle") ∧ (parseMethodDescriptor mX9_isMetWith.y.desc).map (fun d => d.parameters.length) = some 3 := by decide +kernel
set_option maxRecDepth 1000000 in
theorem kX9_142 : zCalV RX9 142 mX9_isMetWith 3 := ⟨⟨w_1404, w_79, w_1407, qX9_isMetWith.1, qX9_isMetWith.2⟩, w_1406, w_48, rfl⟩
set_option maxRecDepth 1000000 in
theorem w_1416 : Cond.methodLink RX9 145 yX9_looksAtPresent ∈ zt := zt_at 1416 rfl rfl
set_option maxRecDepth 1000000 in
theorem w_1419 : mX9_looksAtPresent.cond ∈ zt := zt_at 1419 rfl rfl
set_option maxRecDepth 1000000 in
theorem w_1418 : Cond.instanceMethod yX9_looksAtPresent ∈ zt := zt_at 1418 rfl rfl
set_option maxRecDepth 1000000 in
theorem w_50 : Cond.selects RX9 yX9_looksAtPresent yX9_looksAtPresent ∈ zt := zt_at 50 rfl rfl
set_option maxRecDepth 1000000 in
theorem qX9_looksAtPresent : (mX9_looksAtPresent.y.cls ≠ "java/lang/invoke/MethodHandle" ∧ mX9_looksAtPresent.y.cls ≠ "java/lang/invoke/VarHandle") ∧ (parseMethodDescriptor mX9_looksAtPresent.y.desc).map (fun d => d.parameters.length) = some 1 := by decide +kernel
set_option maxRecDepth 1000000 in
theorem kX9_145 : zCalV RX9 145 mX9_looksAtPresent 1 := ⟨⟨w_1416, w_79, w_1419, qX9_looksAtPresent.1, qX9_looksAtPresent.2⟩, w_1418, w_50, rfl⟩
set_option maxRecDepth 1000000 in
theorem w_1420 : Cond.methodLink RX9 149 yX9_forceNow ∈ zt := zt_at 1420 rfl rfl
set_option maxRecDepth 1000000 in
theorem w_1423 : mX9_forceNow.cond ∈ zt := zt_at 1423 rfl rfl
set_option maxRecDepth 1000000 in
theorem w_1422 : Cond.instanceMethod yX9_forceNow ∈ zt := zt_at 1422 rfl rfl
set_option maxRecDepth 1000000 in
theorem w_51 : Cond.selects RX9 yX9_forceNow yX9_forceNow ∈ zt := zt_at 51 rfl rfl
set_option maxRecDepth 1000000 in
theorem qX9_forceNow : (mX9_forceNow.y.cls ≠ "java/lang/invoke/MethodHandle" ∧ mX9_forceNow.y.cls ≠ "java/lang/invoke/VarHandle") ∧ (parseMethodDescriptor mX9_forceNow.y.desc).map (fun d => d.parameters.length) = some 1 := by decide +kernel
set_option maxRecDepth 1000000 in
theorem kX9_149 : zCalV RX9 149 mX9_forceNow 1 := ⟨⟨w_1420, w_79, w_1423, qX9_forceNow.1, qX9_forceNow.2⟩, w_1422, w_51, rfl⟩
set_option maxRecDepth 1000000 in
theorem w_1432 : Cond.methodLink RX9 152 yX9_addSnap ∈ zt := zt_at 1432 rfl rfl
set_option maxRecDepth 1000000 in
theorem w_1435 : mX9_addSnap.cond ∈ zt := zt_at 1435 rfl rfl
set_option maxRecDepth 1000000 in
theorem w_1434 : Cond.instanceMethod yX9_addSnap ∈ zt := zt_at 1434 rfl rfl
set_option maxRecDepth 1000000 in
theorem w_53 : Cond.selects RX9 yX9_addSnap yX9_addSnap ∈ zt := zt_at 53 rfl rfl
set_option maxRecDepth 1000000 in
theorem qX9_addSnap : (mX9_addSnap.y.cls ≠ "java/lang/invoke/MethodHandle" ∧ mX9_addSnap.y.cls ≠ "java/lang/invoke/VarHandle") ∧ (parseMethodDescriptor mX9_addSnap.y.desc).map (fun d => d.parameters.length) = some 2 := by decide +kernel
set_option maxRecDepth 1000000 in
theorem kX9_152 : zCalV RX9 152 mX9_addSnap 2 := ⟨⟨w_1432, w_79, w_1435, qX9_addSnap.1, qX9_addSnap.2⟩, w_1434, w_53, rfl⟩
set_option maxRecDepth 1000000 in
theorem w_1428 : Cond.methodLink RX9 156 yX9_findSnaps ∈ zt := zt_at 1428 rfl rfl
set_option maxRecDepth 1000000 in
theorem w_1431 : mX9_findSnaps.cond ∈ zt := zt_at 1431 rfl rfl
set_option maxRecDepth 1000000 in
theorem w_1430 : Cond.instanceMethod yX9_findSnaps ∈ zt := zt_at 1430 rfl rfl
set_option maxRecDepth 1000000 in
theorem w_52 : Cond.selects RX9 yX9_findSnaps yX9_findSnaps ∈ zt := zt_at 52 rfl rfl
set_option maxRecDepth 1000000 in
theorem qX9_findSnaps : (mX9_findSnaps.y.cls ≠ "java/lang/invoke/MethodHandle" ∧ mX9_findSnaps.y.cls ≠ "java/lang/invoke/VarHandle") ∧ (parseMethodDescriptor mX9_findSnaps.y.desc).map (fun d => d.parameters.length) = some 1 := by decide +kernel
set_option maxRecDepth 1000000 in
theorem kX9_156 : zCalV RX9 156 mX9_findSnaps 1 := ⟨⟨w_1428, w_79, w_1431, qX9_findSnaps.1, qX9_findSnaps.2⟩, w_1430, w_52, rfl⟩
set_option maxRecDepth 1000000 in
theorem w_1448 : Cond.methodLink RX9 172 yX9_isAllowed ∈ zt := zt_at 1448 rfl rfl
set_option maxRecDepth 1000000 in
theorem w_1451 : mX9_isAllowed.cond ∈ zt := zt_at 1451 rfl rfl
set_option maxRecDepth 1000000 in
theorem w_1450 : Cond.instanceMethod yX9_isAllowed ∈ zt := zt_at 1450 rfl rfl
set_option maxRecDepth 1000000 in
theorem w_56 : Cond.selects RX9 yX9_isAllowed yX9_isAllowed ∈ zt := zt_at 56 rfl rfl
set_option maxRecDepth 1000000 in
theorem qX9_isAllowed : (mX9_isAllowed.y.cls ≠ "java/lang/invoke/MethodHandle" ∧ mX9_isAllowed.y.cls ≠ "java/lang/invoke/VarHandle") ∧ (parseMethodDescriptor mX9_isAllowed.y.desc).map (fun d => d.parameters.length) = some 1 := by decide +kernel
set_option maxRecDepth 1000000 in
theorem kX9_172 : zCalV RX9 172 mX9_isAllowed 1 := ⟨⟨w_1448, w_79, w_1451, qX9_isAllowed.1, qX9_isAllowed.2⟩, w_1450, w_56, rfl⟩
set_option maxRecDepth 1000000 in
theorem w_1452 : Cond.methodLink RX9 175 yX9_costNow ∈ zt := zt_at 1452 rfl rfl
set_option maxRecDepth 1000000 in
theorem w_1455 : mX9_costNow.cond ∈ zt := zt_at 1455 rfl rfl
set_option maxRecDepth 1000000 in
theorem w_1454 : Cond.instanceMethod yX9_costNow ∈ zt := zt_at 1454 rfl rfl
set_option maxRecDepth 1000000 in
theorem w_57 : Cond.selects RX9 yX9_costNow yX9_costNow ∈ zt := zt_at 57 rfl rfl
set_option maxRecDepth 1000000 in
theorem qX9_costNow : (mX9_costNow.y.cls ≠ "java/lang/invoke/MethodHandle" ∧ mX9_costNow.y.cls ≠ "java/lang/invoke/VarHandle") ∧ (parseMethodDescriptor mX9_costNow.y.desc).map (fun d => d.parameters.length) = some 1 := by decide +kernel
set_option maxRecDepth 1000000 in
theorem kX9_175 : zCalV RX9 175 mX9_costNow 1 := ⟨⟨w_1452, w_79, w_1455, qX9_costNow.1, qX9_costNow.2⟩, w_1454, w_57, rfl⟩
set_option maxRecDepth 1000000 in
theorem w_1456 : Cond.methodLink RX9 178 yX9_isLower ∈ zt := zt_at 1456 rfl rfl
set_option maxRecDepth 1000000 in
theorem w_1459 : mX9_isLower.cond ∈ zt := zt_at 1459 rfl rfl
set_option maxRecDepth 1000000 in
theorem w_1458 : Cond.instanceMethod yX9_isLower ∈ zt := zt_at 1458 rfl rfl
set_option maxRecDepth 1000000 in
theorem w_58 : Cond.selects RX9 yX9_isLower yX9_isLower ∈ zt := zt_at 58 rfl rfl
set_option maxRecDepth 1000000 in
theorem qX9_isLower : (mX9_isLower.y.cls ≠ "java/lang/invoke/MethodHandle" ∧ mX9_isLower.y.cls ≠ "java/lang/invoke/VarHandle") ∧ (parseMethodDescriptor mX9_isLower.y.desc).map (fun d => d.parameters.length) = some 0 := by decide +kernel
set_option maxRecDepth 1000000 in
theorem kX9_178 : zCalV RX9 178 mX9_isLower 0 := ⟨⟨w_1456, w_79, w_1459, qX9_isLower.1, qX9_isLower.2⟩, w_1458, w_58, rfl⟩
set_option maxRecDepth 1000000 in
theorem w_1460 : Cond.methodLink RX9 182 yX9_keeps ∈ zt := zt_at 1460 rfl rfl
set_option maxRecDepth 1000000 in
theorem w_1463 : mX9_keeps.cond ∈ zt := zt_at 1463 rfl rfl
set_option maxRecDepth 1000000 in
theorem w_1462 : Cond.instanceMethod yX9_keeps ∈ zt := zt_at 1462 rfl rfl
set_option maxRecDepth 1000000 in
theorem w_59 : Cond.selects RX9 yX9_keeps yX9_keeps ∈ zt := zt_at 59 rfl rfl
set_option maxRecDepth 1000000 in
theorem qX9_keeps : (mX9_keeps.y.cls ≠ "java/lang/invoke/MethodHandle" ∧ mX9_keeps.y.cls ≠ "java/lang/invoke/VarHandle") ∧ (parseMethodDescriptor mX9_keeps.y.desc).map (fun d => d.parameters.length) = some 3 := by decide +kernel
set_option maxRecDepth 1000000 in
theorem kX9_182 : zCalV RX9 182 mX9_keeps 3 := ⟨⟨w_1460, w_79, w_1463, qX9_keeps.1, qX9_keeps.2⟩, w_1462, w_59, rfl⟩
set_option maxRecDepth 1000000 in
theorem w_1464 : Cond.methodLink RX9 186 yX9_goesOn ∈ zt := zt_at 1464 rfl rfl
set_option maxRecDepth 1000000 in
theorem w_1467 : mX9_goesOn.cond ∈ zt := zt_at 1467 rfl rfl
set_option maxRecDepth 1000000 in
theorem w_1466 : Cond.instanceMethod yX9_goesOn ∈ zt := zt_at 1466 rfl rfl
set_option maxRecDepth 1000000 in
theorem w_60 : Cond.selects RX9 yX9_goesOn yX9_goesOn ∈ zt := zt_at 60 rfl rfl
set_option maxRecDepth 1000000 in
theorem qX9_goesOn : (mX9_goesOn.y.cls ≠ "java/lang/invoke/MethodHandle" ∧ mX9_goesOn.y.cls ≠ "java/lang/invoke/VarHandle") ∧ (parseMethodDescriptor mX9_goesOn.y.desc).map (fun d => d.parameters.length) = some 0 := by decide +kernel
set_option maxRecDepth 1000000 in
theorem kX9_186 : zCalV RX9 186 mX9_goesOn 0 := ⟨⟨w_1464, w_79, w_1467, qX9_goesOn.1, qX9_goesOn.2⟩, w_1466, w_60, rfl⟩
set_option maxRecDepth 1000000 in
theorem w_1444 : Cond.methodLink RX9 189 yX9_findTidiest ∈ zt := zt_at 1444 rfl rfl
set_option maxRecDepth 1000000 in
theorem w_1447 : mX9_findTidiest.cond ∈ zt := zt_at 1447 rfl rfl
set_option maxRecDepth 1000000 in
theorem w_1446 : Cond.instanceMethod yX9_findTidiest ∈ zt := zt_at 1446 rfl rfl
set_option maxRecDepth 1000000 in
theorem w_55 : Cond.selects RX9 yX9_findTidiest yX9_findTidiest ∈ zt := zt_at 55 rfl rfl
set_option maxRecDepth 1000000 in
theorem qX9_findTidiest : (mX9_findTidiest.y.cls ≠ "java/lang/invoke/MethodHandle" ∧ mX9_findTidiest.y.cls ≠ "java/lang/invoke/VarHandle") ∧ (parseMethodDescriptor mX9_findTidiest.y.desc).map (fun d => d.parameters.length) = some 1 := by decide +kernel
set_option maxRecDepth 1000000 in
theorem kX9_189 : zCalV RX9 189 mX9_findTidiest 1 := ⟨⟨w_1444, w_79, w_1447, qX9_findTidiest.1, qX9_findTidiest.2⟩, w_1446, w_55, rfl⟩
set_option maxRecDepth 1000000 in
theorem w_1440 : Cond.methodLink RX9 192 yX9_tidies ∈ zt := zt_at 1440 rfl rfl
set_option maxRecDepth 1000000 in
theorem w_1443 : mX9_tidies.cond ∈ zt := zt_at 1443 rfl rfl
set_option maxRecDepth 1000000 in
theorem w_1442 : Cond.instanceMethod yX9_tidies ∈ zt := zt_at 1442 rfl rfl
set_option maxRecDepth 1000000 in
theorem w_54 : Cond.selects RX9 yX9_tidies yX9_tidies ∈ zt := zt_at 54 rfl rfl
set_option maxRecDepth 1000000 in
theorem qX9_tidies : (mX9_tidies.y.cls ≠ "java/lang/invoke/MethodHandle" ∧ mX9_tidies.y.cls ≠ "java/lang/invoke/VarHandle") ∧ (parseMethodDescriptor mX9_tidies.y.desc).map (fun d => d.parameters.length) = some 1 := by decide +kernel
set_option maxRecDepth 1000000 in
theorem kX9_192 : zCalV RX9 192 mX9_tidies 1 := ⟨⟨w_1440, w_79, w_1443, qX9_tidies.1, qX9_tidies.2⟩, w_1442, w_54, rfl⟩
set_option maxRecDepth 1000000 in
theorem w_1472 : Cond.methodLink RX9 196 yX9_bestStrength ∈ zt := zt_at 1472 rfl rfl
set_option maxRecDepth 1000000 in
theorem kX9_196 : zCalV RX9 196 mX9_bestStrength 1 := ⟨⟨w_1472, w_79, w_1439, qX9_bestStrength.1, qX9_bestStrength.2⟩, w_1437, w_1438, rfl⟩
set_option maxRecDepth 1000000 in
theorem w_1485 : Cond.methodLink RX9 199 yX9_movesToBest ∈ zt := zt_at 1485 rfl rfl
set_option maxRecDepth 1000000 in
theorem w_1488 : mX9_movesToBest.cond ∈ zt := zt_at 1488 rfl rfl
set_option maxRecDepth 1000000 in
theorem w_1487 : Cond.instanceMethod yX9_movesToBest ∈ zt := zt_at 1487 rfl rfl
set_option maxRecDepth 1000000 in
theorem w_61 : Cond.selects RX9 yX9_movesToBest yX9_movesToBest ∈ zt := zt_at 61 rfl rfl
set_option maxRecDepth 1000000 in
theorem qX9_movesToBest : (mX9_movesToBest.y.cls ≠ "java/lang/invoke/MethodHandle" ∧ mX9_movesToBest.y.cls ≠ "java/lang/invoke/VarHandle") ∧ (parseMethodDescriptor mX9_movesToBest.y.desc).map (fun d => d.parameters.length) = some 1 := by decide +kernel
set_option maxRecDepth 1000000 in
theorem kX9_199 : zCalV RX9 199 mX9_movesToBest 1 := ⟨⟨w_1485, w_79, w_1488, qX9_movesToBest.1, qX9_movesToBest.2⟩, w_1487, w_61, rfl⟩
set_option maxRecDepth 1000000 in
theorem w_1497 : Cond.methodLink RX9 202 yX9_findEvenest ∈ zt := zt_at 1497 rfl rfl
set_option maxRecDepth 1000000 in
theorem w_1500 : mX9_findEvenest.cond ∈ zt := zt_at 1500 rfl rfl
set_option maxRecDepth 1000000 in
theorem w_1499 : Cond.instanceMethod yX9_findEvenest ∈ zt := zt_at 1499 rfl rfl
set_option maxRecDepth 1000000 in
theorem w_63 : Cond.selects RX9 yX9_findEvenest yX9_findEvenest ∈ zt := zt_at 63 rfl rfl
set_option maxRecDepth 1000000 in
theorem qX9_findEvenest : (mX9_findEvenest.y.cls ≠ "java/lang/invoke/MethodHandle" ∧ mX9_findEvenest.y.cls ≠ "java/lang/invoke/VarHandle") ∧ (parseMethodDescriptor mX9_findEvenest.y.desc).map (fun d => d.parameters.length) = some 1 := by decide +kernel
set_option maxRecDepth 1000000 in
theorem kX9_202 : zCalV RX9 202 mX9_findEvenest 1 := ⟨⟨w_1497, w_79, w_1500, qX9_findEvenest.1, qX9_findEvenest.2⟩, w_1499, w_63, rfl⟩
set_option maxRecDepth 1000000 in
theorem w_1493 : Cond.methodLink RX9 205 yX9_evens ∈ zt := zt_at 1493 rfl rfl
set_option maxRecDepth 1000000 in
theorem w_1496 : mX9_evens.cond ∈ zt := zt_at 1496 rfl rfl
set_option maxRecDepth 1000000 in
theorem w_1495 : Cond.instanceMethod yX9_evens ∈ zt := zt_at 1495 rfl rfl
set_option maxRecDepth 1000000 in
theorem w_62 : Cond.selects RX9 yX9_evens yX9_evens ∈ zt := zt_at 62 rfl rfl
set_option maxRecDepth 1000000 in
theorem qX9_evens : (mX9_evens.y.cls ≠ "java/lang/invoke/MethodHandle" ∧ mX9_evens.y.cls ≠ "java/lang/invoke/VarHandle") ∧ (parseMethodDescriptor mX9_evens.y.desc).map (fun d => d.parameters.length) = some 1 := by decide +kernel
set_option maxRecDepth 1000000 in
theorem kX9_205 : zCalV RX9 205 mX9_evens 1 := ⟨⟨w_1493, w_79, w_1496, qX9_evens.1, qX9_evens.2⟩, w_1495, w_62, rfl⟩
set_option maxRecDepth 1000000 in
theorem w_1505 : Cond.methodLink RX9 208 yX9_evenCost ∈ zt := zt_at 1505 rfl rfl
set_option maxRecDepth 1000000 in
theorem kX9_208 : zCalV RX9 208 mX9_evenCost 1 := ⟨⟨w_1505, w_79, w_1492, qX9_evenCost.1, qX9_evenCost.2⟩, w_1490, w_1491, rfl⟩
set_option maxRecDepth 1000000 in
theorem w_1518 : Cond.methodLink RX9 211 yX9_hasFeature ∈ zt := zt_at 1518 rfl rfl
set_option maxRecDepth 1000000 in
theorem w_1521 : mX9_hasFeature.cond ∈ zt := zt_at 1521 rfl rfl
set_option maxRecDepth 1000000 in
theorem w_1520 : Cond.instanceMethod yX9_hasFeature ∈ zt := zt_at 1520 rfl rfl
set_option maxRecDepth 1000000 in
theorem w_65 : Cond.selects RX9 yX9_hasFeature yX9_hasFeature ∈ zt := zt_at 65 rfl rfl
set_option maxRecDepth 1000000 in
theorem qX9_hasFeature : (mX9_hasFeature.y.cls ≠ "java/lang/invoke/MethodHandle" ∧ mX9_hasFeature.y.cls ≠ "java/lang/invoke/VarHandle") ∧ (parseMethodDescriptor mX9_hasFeature.y.desc).map (fun d => d.parameters.length) = some 3 := by decide +kernel
set_option maxRecDepth 1000000 in
theorem kX9_211 : zCalV RX9 211 mX9_hasFeature 3 := ⟨⟨w_1518, w_79, w_1521, qX9_hasFeature.1, qX9_hasFeature.2⟩, w_1520, w_65, rfl⟩
set_option maxRecDepth 1000000 in
theorem w_1514 : Cond.methodLink RX9 214 yX9_findGuides ∈ zt := zt_at 1514 rfl rfl
set_option maxRecDepth 1000000 in
theorem w_1517 : mX9_findGuides.cond ∈ zt := zt_at 1517 rfl rfl
set_option maxRecDepth 1000000 in
theorem w_1516 : Cond.instanceMethod yX9_findGuides ∈ zt := zt_at 1516 rfl rfl
set_option maxRecDepth 1000000 in
theorem w_64 : Cond.selects RX9 yX9_findGuides yX9_findGuides ∈ zt := zt_at 64 rfl rfl
set_option maxRecDepth 1000000 in
theorem qX9_findGuides : (mX9_findGuides.y.cls ≠ "java/lang/invoke/MethodHandle" ∧ mX9_findGuides.y.cls ≠ "java/lang/invoke/VarHandle") ∧ (parseMethodDescriptor mX9_findGuides.y.desc).map (fun d => d.parameters.length) = some 1 := by decide +kernel
set_option maxRecDepth 1000000 in
theorem kX9_214 : zCalV RX9 214 mX9_findGuides 1 := ⟨⟨w_1514, w_79, w_1517, qX9_findGuides.1, qX9_findGuides.2⟩, w_1516, w_64, rfl⟩
set_option maxRecDepth 1000000 in
theorem w_1538 : Cond.methodLink RX9 217 yX9_most ∈ zt := zt_at 1538 rfl rfl
set_option maxRecDepth 1000000 in
theorem w_1540 : mX9_most.cond ∈ zt := zt_at 1540 rfl rfl
set_option maxRecDepth 1000000 in
theorem w_1539 : Cond.static yX9_most ∈ zt := zt_at 1539 rfl rfl
set_option maxRecDepth 1000000 in
theorem qX9_most : (mX9_most.y.cls ≠ "java/lang/invoke/MethodHandle" ∧ mX9_most.y.cls ≠ "java/lang/invoke/VarHandle") ∧ (parseMethodDescriptor mX9_most.y.desc).map (fun d => d.parameters.length) = some 2 := by decide +kernel
set_option maxRecDepth 1000000 in
theorem kX9_217 : zCalS RX9 217 mX9_most 2 := ⟨⟨w_1538, w_79, w_1540, qX9_most.1, qX9_most.2⟩, w_1539, rfl⟩
set_option maxRecDepth 1000000 in
theorem w_1534 : Cond.methodLink RX9 220 yX9_gapOf ∈ zt := zt_at 1534 rfl rfl
set_option maxRecDepth 1000000 in
theorem w_1537 : mX9_gapOf.cond ∈ zt := zt_at 1537 rfl rfl
set_option maxRecDepth 1000000 in
theorem w_1536 : Cond.instanceMethod yX9_gapOf ∈ zt := zt_at 1536 rfl rfl
set_option maxRecDepth 1000000 in
theorem w_67 : Cond.selects RX9 yX9_gapOf yX9_gapOf ∈ zt := zt_at 67 rfl rfl
set_option maxRecDepth 1000000 in
theorem qX9_gapOf : (mX9_gapOf.y.cls ≠ "java/lang/invoke/MethodHandle" ∧ mX9_gapOf.y.cls ≠ "java/lang/invoke/VarHandle") ∧ (parseMethodDescriptor mX9_gapOf.y.desc).map (fun d => d.parameters.length) = some 3 := by decide +kernel
set_option maxRecDepth 1000000 in
theorem kX9_220 : zCalV RX9 220 mX9_gapOf 3 := ⟨⟨w_1534, w_79, w_1537, qX9_gapOf.1, qX9_gapOf.2⟩, w_1536, w_67, rfl⟩
set_option maxRecDepth 1000000 in
theorem w_1530 : Cond.methodLink RX9 223 yX9_distanceOf ∈ zt := zt_at 1530 rfl rfl
set_option maxRecDepth 1000000 in
theorem w_1533 : mX9_distanceOf.cond ∈ zt := zt_at 1533 rfl rfl
set_option maxRecDepth 1000000 in
theorem w_1532 : Cond.instanceMethod yX9_distanceOf ∈ zt := zt_at 1532 rfl rfl
set_option maxRecDepth 1000000 in
theorem w_66 : Cond.selects RX9 yX9_distanceOf yX9_distanceOf ∈ zt := zt_at 66 rfl rfl
set_option maxRecDepth 1000000 in
theorem qX9_distanceOf : (mX9_distanceOf.y.cls ≠ "java/lang/invoke/MethodHandle" ∧ mX9_distanceOf.y.cls ≠ "java/lang/invoke/VarHandle") ∧ (parseMethodDescriptor mX9_distanceOf.y.desc).map (fun d => d.parameters.length) = some 2 := by decide +kernel
set_option maxRecDepth 1000000 in
theorem kX9_223 : zCalV RX9 223 mX9_distanceOf 2 := ⟨⟨w_1530, w_79, w_1533, qX9_distanceOf.1, qX9_distanceOf.2⟩, w_1532, w_66, rfl⟩
set_option maxRecDepth 1000000 in
theorem w_1545 : Cond.methodLink RX9 226 yX9_lowest ∈ zt := zt_at 1545 rfl rfl
set_option maxRecDepth 1000000 in
theorem w_1548 : mX9_lowest.cond ∈ zt := zt_at 1548 rfl rfl
set_option maxRecDepth 1000000 in
theorem w_1547 : Cond.instanceMethod yX9_lowest ∈ zt := zt_at 1547 rfl rfl
set_option maxRecDepth 1000000 in
theorem w_68 : Cond.selects RX9 yX9_lowest yX9_lowest ∈ zt := zt_at 68 rfl rfl
set_option maxRecDepth 1000000 in
theorem qX9_lowest : (mX9_lowest.y.cls ≠ "java/lang/invoke/MethodHandle" ∧ mX9_lowest.y.cls ≠ "java/lang/invoke/VarHandle") ∧ (parseMethodDescriptor mX9_lowest.y.desc).map (fun d => d.parameters.length) = some 2 := by decide +kernel
set_option maxRecDepth 1000000 in
theorem kX9_226 : zCalV RX9 226 mX9_lowest 2 := ⟨⟨w_1545, w_79, w_1548, qX9_lowest.1, qX9_lowest.2⟩, w_1547, w_68, rfl⟩
set_option maxRecDepth 1000000 in
theorem w_1553 : Cond.methodLink RX9 229 yX9_groups ∈ zt := zt_at 1553 rfl rfl
set_option maxRecDepth 1000000 in
theorem kX9_229 : zCalV RX9 229 mX9_groups 1 := ⟨⟨w_1553, w_79, w_1544, qX9_groups.1, qX9_groups.2⟩, w_1542, w_1543, rfl⟩
set_option maxRecDepth 1000000 in
theorem kX0_3 : Cond.methodLink RX0 3 Lib.objectInit ∈ zt := zt_at 105 rfl rfl
set_option maxRecDepth 1000000 in
theorem kX0_42 : Cond.methodLink RX0 42 Lib.Math.max.name ∈ zt := zt_at 713 rfl rfl
set_option maxRecDepth 1000000 in
theorem kX1_3 : Cond.methodLink RX1 3 Lib.objectInit ∈ zt := zt_at 167 rfl rfl
set_option maxRecDepth 1000000 in
theorem kX2_3 : Cond.methodLink RX2 3 Lib.objectInit ∈ zt := zt_at 242 rfl rfl
set_option maxRecDepth 1000000 in
theorem kX2_105 : Cond.methodLink RX2 105 Lib.Math.abs.name ∈ zt := zt_at 679 rfl rfl
set_option maxRecDepth 1000000 in
theorem kX2_113 : Cond.methodLink RX2 113 Lib.Math.min.name ∈ zt := zt_at 665 rfl rfl
set_option maxRecDepth 1000000 in
theorem kX2_116 : Cond.methodLink RX2 116 Lib.Math.max.name ∈ zt := zt_at 666 rfl rfl
set_option maxRecDepth 1000000 in
theorem kX3_3 : Cond.methodLink RX3 3 Lib.objectInit ∈ zt := zt_at 278 rfl rfl
set_option maxRecDepth 1000000 in
theorem kX3_29 : Cond.methodLink RX3 29 Lib.Math.max.name ∈ zt := zt_at 714 rfl rfl
set_option maxRecDepth 1000000 in
theorem kX3_66 : Cond.methodLink RX3 66 Lib.Math.min.name ∈ zt := zt_at 723 rfl rfl
set_option maxRecDepth 1000000 in
theorem kX4_1 : Cond.methodLink RX4 1 Lib.objectInit ∈ zt := zt_at 111 rfl rfl
set_option maxRecDepth 1000000 in
theorem kX5_3 : Cond.methodLink RX5 3 Lib.objectInit ∈ zt := zt_at 185 rfl rfl
set_option maxRecDepth 1000000 in
theorem kX5_80 : Cond.methodLink RX5 80 Lib.Math.min.name ∈ zt := zt_at 545 rfl rfl
set_option maxRecDepth 1000000 in
theorem kX5_86 : Cond.methodLink RX5 86 Lib.Math.max.name ∈ zt := zt_at 548 rfl rfl
set_option maxRecDepth 1000000 in
theorem kX6_3 : Cond.methodLink RX6 3 Lib.objectInit ∈ zt := zt_at 161 rfl rfl
set_option maxRecDepth 1000000 in
theorem kX6_120 : Cond.methodLink RX6 120 Lib.Math.abs.name ∈ zt := zt_at 604 rfl rfl
set_option maxRecDepth 1000000 in
theorem kX6_128 : Cond.methodLink RX6 128 Lib.Math.max.name ∈ zt := zt_at 619 rfl rfl
set_option maxRecDepth 1000000 in
theorem kX7_3 : Cond.methodLink RX7 3 Lib.objectInit ∈ zt := zt_at 137 rfl rfl
set_option maxRecDepth 1000000 in
theorem kX8_3 : Cond.methodLink RX8 3 Lib.objectInit ∈ zt := zt_at 97 rfl rfl
set_option maxRecDepth 1000000 in
theorem kX8_137 : Cond.methodLink RX8 137 Lib.Math.abs.name ∈ zt := zt_at 856 rfl rfl
set_option maxRecDepth 1000000 in
theorem kX9_1 : Cond.methodLink RX9 1 Lib.objectInit ∈ zt := zt_at 1203 rfl rfl
set_option maxRecDepth 1000000 in
theorem kfX8_287 : Cond.constantFloat RX8 287 1186693120 ∈ zt := zt_at 350 rfl rfl
set_option maxRecDepth 1000000 in
theorem kfX9_232 : Cond.constantFloat RX9 232 1186693120 ∈ zt := zt_at 1566 rfl rfl
set_option maxRecDepth 1000000 in
theorem kObj : Cond.instanceMethod Lib.objectInit ∈ zt ∧ Cond.code Lib.objectInit ⟨#[0xb1]⟩ 1 none ∈ zt := ⟨zt_at 98 rfl rfl, zt_at 99 rfl rfl⟩
