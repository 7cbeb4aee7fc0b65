/-! Z: one judgement over an abstract world. A world is a list of cells that speak of each other by their places; 'ad' says where each lies. Z .. pc ls st w P: from the frame at pc with locals ls and stack st over the world w, the method comes to an end with P. -/
abbrev zcl : List vw_C := [(RX0, TX0, 3), (RX1, TX1, 3), (RX2, TX2, 9), (RX3, TX3, 2), (RX4, TX4, 2), (RX5, TX5, 7), (RX6, TX6, 8), (RX7, TX7, 5), (RX8, TX8, 11)]
def zt : List Cond := lw_tbl.filter goodWord
theorem zt_good : GoodIn zt zt := fun w h => ⟨h, good_of_word (List.mem_filter.mp h).2⟩
abbrev zCell : Type := (Nat × vp_A) ⊕ (Nat × List Value)
abbrev zWorld : Type := List zCell
/-- launch, c. numbers and slots, where the world begins, the array classes, the script: its length, its ints, its place -/
abbrev zG : Type := Launch × va_G × Nat × (Nat → ClassId) × Nat × (Nat → Int32) × Nat
abbrev zG.l (G : zG) : Launch := G.1
abbrev zG.D (G : zG) : va_G := G.2.1
abbrev zG.base (G : zG) : Nat := G.2.2.1
abbrev zG.tI (G : zG) : Nat → ClassId := G.2.2.2.1
abbrev zG.L (G : zG) : Nat := G.2.2.2.2.1
abbrev zG.xs (G : zG) : Nat → Int32 := G.2.2.2.2.2.1
abbrev zG.b (G : zG) : Nat := G.2.2.2.2.2.2
abbrev zA (G : zG) : Nat → Prop := fun q => G.base ≤ q
/-- the script's place among the abstract ones -/
def zSI : Nat := 1000000
abbrev ztys (G : zG) : List (ClassId × FieldType) := [(G.tI 0, .int)]
def zc (ad : Nat → Nat) (v : Value) : Value := match v with
  | .ref i => .ref (ad i)
  | v => v
theorem zc_cat (ad : Nat → Nat) (v : Value) : (zc ad v).category = v.category := by cases v <;> rfl
def zcC (G : zG) (ad : Nat → Nat) (c : zCell) : va_E := match c with
  | .inl (k, x) => .inl (G.tI k, x)
  | .inr (ci, fs) => .inr (ci, fs.map (zc ad))
def zW (G : zG) (ad : Nat → Nat) (w : zWorld) : va_W := w.mapIdx fun i c => (ad i, zcC G ad c)
def zok (n : Nat) (v : Value) : Prop := match v with
  | .ref i => i < n ∨ i = zSI
  | _ => True
def zokC (n : Nat) (c : zCell) : Prop := match c with
  | .inl _ => True
  | .inr (_, fs) => ∀ v ∈ fs, zok n v
def zokW (w : zWorld) : Prop := w.length ≤ zSI ∧ ∀ c ∈ w, zokC w.length c
theorem zok.mono {n k : Nat} (h : n ≤ k) {v : Value} (hv : zok n v) : zok k v := by
  cases v with
  | ref i => exact hv.elim (fun h1 => Or.inl (Nat.lt_of_lt_of_le h1 h)) Or.inr
  | _ => trivial
theorem zokC.mono {n k : Nat} (h : n ≤ k) {c : zCell} (hv : zokC n c) : zokC k c := by
  cases c with
  | inl x => trivial
  | inr x => exact fun v hv2 => (hv v hv2).mono h
theorem zW_get (G : zG) (ad : Nat → Nat) (w : zWorld) (i : Nat) {c : zCell} (h : w[i]? = some c) : (zW G ad w)[i]? = some (ad i, zcC G ad c) := by
  unfold zW
  rw [List.getElem?_mapIdx, h]; rfl
theorem zW_set (G : zG) (ad : Nat → Nat) (w : zWorld) (i : Nat) (c : zCell) : zW G ad (w.set i c) = (zW G ad w).set i (ad i, zcC G ad c) := by
  apply List.ext_getElem?
  intro j
  unfold zW
  rw [List.getElem?_mapIdx, List.getElem?_set, List.getElem?_set, List.getElem?_mapIdx, List.length_mapIdx]
  by_cases e : i = j
  · subst e
    by_cases h : i < w.length
    · simp [h]
    · simp [h]
  · simp [e]
theorem zW_push (G : zG) (ad : Nat → Nat) (w : zWorld) (c : zCell) : zW G ad (w ++ [c]) = zW G ad w ++ [(ad w.length, zcC G ad c)] := by
  unfold zW
  rw [List.mapIdx_append]; simp
/-- two ways to lie that agree on the world's places -/
def zExt (n : Nat) (ad ad' : Nat → Nat) : Prop := (∀ i, i < n → ad' i = ad i) ∧ ad' zSI = ad zSI
theorem zExt.rf (n : Nat) (ad : Nat → Nat) : zExt n ad ad := ⟨fun _ _ => rfl, rfl⟩
theorem zExt.trans {n k : Nat} {a b c : Nat → Nat} (hnk : n ≤ k) (h1 : zExt n a b) (h2 : zExt k b c) : zExt n a c := ⟨fun i hi => (h2.1 i (Nat.lt_of_lt_of_le hi hnk)).trans (h1.1 i hi), h2.2.trans h1.2⟩
theorem zc_ext {n : Nat} {ad ad' : Nat → Nat} (h : zExt n ad ad') {v : Value} (hv : zok n v) : zc ad' v = zc ad v := by
  cases v with
  | ref i => exact congrArg Value.ref (hv.elim (fun h1 => h.1 i h1) (fun h1 => by rw [h1]; exact h.2))
  | _ => rfl
theorem zcs_ext {n : Nat} {ad ad' : Nat → Nat} (h : zExt n ad ad') {vs : List Value} (hv : ∀ v ∈ vs, zok n v) : vs.map (zc ad') = vs.map (zc ad) := List.map_congr_left fun v hm => zc_ext h (hv v hm)
theorem zcC_ext (G : zG) {n : Nat} {ad ad' : Nat → Nat} (h : zExt n ad ad') {c : zCell} (hc : zokC n c) : zcC G ad' c = zcC G ad c := by
  cases c with
  | inl x => rfl
  | inr x => exact congrArg Sum.inr (Prod.ext rfl (zcs_ext h hc))
theorem zW_ext (G : zG) {ad ad' : Nat → Nat} {w : zWorld} (h : zExt w.length ad ad') (hw : zokW w) : zW G ad' w = zW G ad w := by
  apply List.ext_getElem?
  intro i
  unfold zW
  rw [List.getElem?_mapIdx, List.getElem?_mapIdx]
  cases e : w[i]? with
  | none => rfl
  | some c =>
    have hi : i < w.length := (List.getElem?_eq_some_iff.mp e).1
    show some (ad' i, zcC G ad' c) = some (ad i, zcC G ad c)
    rw [h.1 i hi, zcC_ext G h (hw.2 c (List.mem_of_getElem? e))]
theorem zokW.set {w : zWorld} (h : zokW w) {i : Nat} {c : zCell} (hc : zokC w.length c) : zokW (w.set i c) := by
  refine ⟨by rw [List.length_set]; exact h.1, fun x hx => ?_⟩
  rw [List.length_set]
  rcases List.mem_or_eq_of_mem_set hx with h1 | h1
  · exact h.2 x h1
  · rw [h1]; exact hc
theorem zokW.push {w : zWorld} (h : zokW w) (hl : w.length < zSI) {c : zCell} (hc : zokC (w.length + 1) c) : zokW (w ++ [c]) := by
  have e : (w ++ [c]).length = w.length + 1 := by simp
  refine ⟨by rw [e]; exact hl, fun x hx => ?_⟩
  rw [e]
  rcases List.mem_append.mp hx with h1 | h1
  · exact (h.2 x h1).mono (Nat.le_succ _)
  · rw [List.mem_singleton.mp h1]; exact hc
-- locals
def zlv (ad : Nat → Nat) (zl : List (Option Value)) : List (Nat × Value) := (zl.mapIdx fun i o => o.map fun v => (i, zc ad v)).filterMap id
theorem zlv_mem {ad : Nat → Nat} {zl : List (Option Value)} {q : Nat × Value} : q ∈ zlv ad zl ↔ ∃ v, zl[q.1]? = some (some v) ∧ q.2 = zc ad v := by
  unfold zlv
  rw [List.mem_filterMap]
  constructor
  · rintro ⟨o, ho, e⟩
    obtain ⟨i, hi, e2⟩ := List.mem_mapIdx.mp ho
    subst e2
    cases hz : zl[i] with
    | none => rw [hz] at e; cases e
    | some v =>
      rw [hz] at e
      cases e
      exact ⟨v, by rw [List.getElem?_eq_getElem hi, hz], rfl⟩
  · rintro ⟨v, hv, e⟩
    obtain ⟨hi, e2⟩ := List.getElem?_eq_some_iff.mp hv
    refine ⟨some (q.1, zc ad v), List.mem_mapIdx.mpr ⟨q.1, hi, by rw [e2]; rfl⟩, ?_⟩
    rw [← e]; rfl
def zLoc (cls : Array Slot) (nL : Nat) (ad : Nat → Nat) (zl : List (Option Value)) : Prop := lv_has cls nL (zlv ad zl)
theorem zLoc.at {cls : Array Slot} {nL : Nat} {ad : Nat → Nat} {zl : List (Option Value)} (h : zLoc cls nL ad zl) {i : Nat} {v : Value} (hi : zl[i]? = some (some v)) : cls[i]? = some (.val (zc ad v)) :=
  h.2.2 (i, zc ad v) (zlv_mem.mpr ⟨v, hi, rfl⟩)
theorem zLoc.ext {cls : Array Slot} {nL n : Nat} {ad ad' : Nat → Nat} {zl : List (Option Value)} (h : zLoc cls nL ad zl) (he : zExt n ad ad') (hok : ∀ v, some v ∈ zl → zok n v) : zLoc cls nL ad' zl := by
  refine ⟨h.1, h.2.1, fun q hq => ?_⟩
  obtain ⟨v, hv, e⟩ := zlv_mem.mp hq
  rw [zc_ext he (hok v (List.mem_of_getElem? hv))] at e
  exact h.2.2 q (zlv_mem.mpr ⟨v, hv, e⟩)
/-- nothing of two places ends at i -/
def zpre (zl : List (Option Value)) (i : Nat) : Bool := match i with
  | 0 => true
  | j + 1 => match zl[j]? with
    | some (some (.long _)) => false
    | some (some (.double _)) => false
    | _ => true
theorem zpre_cat {zl : List (Option Value)} {i j : Nat} (h : zpre zl i = true) (e : j + 1 = i) {v : Value} (hv : zl[j]? = some (some v)) : v.category ≠ 2 := by
  subst e
  simp only [zpre, hv] at h
  cases v <;> first | (intro hc; cases hc; done) | (cases h; done)
theorem zLoc.set1 {cls' : Array Slot} {nL : Nat} {ad : Nat → Nat} {zl : List (Option Value)} {i : Nat} {x : Value} (hp : zpre zl i = true) (h : lv_has cls' nL ((i, zc ad x) :: (zlv ad zl).filter (fun q => !(q.1 == i) && !(q.1 + 1 == i && q.2.category == 2)))) : zLoc cls' nL ad (zl.set i (some x)) := by
  refine ⟨h.1, h.2.1, fun q hq => h.2.2 q ?_⟩
  obtain ⟨v, hv, e⟩ := zlv_mem.mp hq
  rw [List.getElem?_set] at hv
  by_cases hi : i = q.1
  · rw [if_pos hi] at hv
    by_cases hl : i < zl.length
    · rw [if_pos hl] at hv
      cases hv
      exact List.mem_cons.mpr (Or.inl (Prod.ext hi.symm e))
    · rw [if_neg hl] at hv; cases hv
  · rw [if_neg hi] at hv
    refine List.mem_cons.mpr (Or.inr (List.mem_filter.mpr ⟨zlv_mem.mpr ⟨v, hv, e⟩, ?_⟩))
    simp only [Bool.and_eq_true, Bool.not_eq_true', beq_eq_false_iff_ne, ne_eq, Bool.and_eq_false_iff]
    refine ⟨fun h => hi h.symm, ?_⟩
    by_cases h1 : q.1 + 1 = i
    · right
      rw [e, zc_cat]
      exact zpre_cat hp h1 hv
    · left; exact h1
theorem zLoc.set2 {cls' : Array Slot} {nL : Nat} {ad : Nat → Nat} {zl : List (Option Value)} {i : Nat} {x : Value} (hp : zpre zl i = true) (h : lv_has cls' nL ((i, zc ad x) :: (zlv ad zl).filter (fun q => !(q.1 == i) && (!(q.1 == i + 1) && !(q.1 + 1 == i && q.2.category == 2))))) : zLoc cls' nL ad ((zl.set i (some x)).set (i + 1) none) := by
  refine ⟨h.1, h.2.1, fun q hq => h.2.2 q ?_⟩
  obtain ⟨v, hv, e⟩ := zlv_mem.mp hq
  rw [List.getElem?_set] at hv
  by_cases hj : i + 1 = q.1
  · rw [if_pos hj] at hv
    split at hv <;> cases hv
  · rw [if_neg hj, List.getElem?_set] at hv
    by_cases hi : i = q.1
    · rw [if_pos hi] at hv
      by_cases hl : i < zl.length
      · rw [if_pos hl] at hv
        cases hv
        exact List.mem_cons.mpr (Or.inl (Prod.ext hi.symm e))
      · rw [if_neg hl] at hv; cases hv
    · rw [if_neg hi] at hv
      refine List.mem_cons.mpr (Or.inr (List.mem_filter.mpr ⟨zlv_mem.mpr ⟨v, hv, e⟩, ?_⟩))
      simp only [Bool.and_eq_true, Bool.not_eq_true', beq_eq_false_iff_ne, ne_eq, Bool.and_eq_false_iff]
      refine ⟨fun h => hi h.symm, fun h => hj h.symm, ?_⟩
      by_cases h1 : q.1 + 1 = i
      · right
        rw [e, zc_cat]
        exact zpre_cat hp h1 hv
      · left; exact h1
