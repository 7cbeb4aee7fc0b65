section
variable {G : zG} {X : zX} {Y : zY} {O : zO}
/- only the stays differ -/
set_option maxRecDepth 100000 in
set_option maxHeartbeats 4000000 in
def k29 (X X2 : zX) : Prop := (∀ r, r ≠ 29 → X2.1 r = X.1 r ∧ X2.2.1 r = X.2.1 r) ∧ X2.2.2 = X.2.2
set_option maxRecDepth 100000 in
set_option maxHeartbeats 4000000 in
theorem k29_row {X X2 : zX} (h : k29 X X2) (f : Nat → Int32) (l : Int32) : k29 X (xrow X2 29 f l) := ⟨fun r hr => ⟨(xrow_ln X2 hr f l).trans (h.1 r hr).1, (xrow_fn X2 hr f l).trans (h.1 r hr).2⟩, h.2⟩
set_option maxRecDepth 100000 in
set_option maxHeartbeats 4000000 in
theorem k3_29 {X X2 : zX} (h : k29 X X2) : k3 X X2 := ⟨h.1, congrFun (congrArg Prod.fst h.2) 2, congrArg Prod.snd h.2⟩
set_option maxRecDepth 100000 in
set_option maxHeartbeats 4000000 in
theorem evB_29 {X X2 : zX} (h : k29 X X2) {b : eb} (hb : evB X b) : evB X2 b := by
  rcases b with _ | ⟨c, g, s⟩
  · show X2.2.2.1 3 = -1
    rw [h.2]; exact hb
  · show X2.2.2.1 3 = nI c ∧ X2.2.2.1 4 = nI g ∧ X2.2.2.1 5 = nI s ∧ _
    rw [h.2]; exact hb
/- the stays' values -/
set_option maxRecDepth 100000 in
set_option maxHeartbeats 4000000 in
abbrev wI32 (st sb : Nat → Nat) (g p : Nat) : Int32 := nI (st p) - nI (pN sb g 0 p)
set_option maxRecDepth 100000 in
set_option maxHeartbeats 4000000 in
theorem stay_eq {n : Nat} {st sb : Nat → Nat} {lk : Nat → Int32} {F : Int32} (hE : evN X n st sb lk F) {g p : Nat} (hp : p < n) : X.2.1 26 p - (0 + X.2.1 27 p + nI g * nI p) = wI32 st sb g p := by
  have h := hE.2.2.1 p hp
  rw [h.1, h.2.2.1, nI_mul, show (0 : Int32) = nI 0 from rfl, nI_add, nI_add]
set_option maxRecDepth 100000 in
set_option maxHeartbeats 4000000 in
theorem wZ_toInt {n : Nat} {st sb : Nat → Nat} {lk : Nat → Int32} {F : Int32} (hE : evN X n st sb lk F) {g p : Nat} (hg : g ≤ 200) (hp : p < n) : (wI32 st sb g p).toInt = wZ st sb g p := by
  have h := hE.2.2.1 p hp
  have h2 := pN_le hE (s := 0) hp hg (by decide)
  unfold wI32 wZ
  rw [toInt_sub2 (by omega) (by omega)]
set_option maxRecDepth 100000 in
set_option maxHeartbeats 4000000 in
theorem wZ_ofInt {n : Nat} {st sb : Nat → Nat} {lk : Nat → Int32} {F : Int32} (hE : evN X n st sb lk F) {g p : Nat} (hg : g ≤ 200) (hp : p < n) : Int32.ofInt (wZ st sb g p) = wI32 st sb g p := by
  rw [← wZ_toInt hE hg hp, Int32.ofInt_toInt]
set_option maxRecDepth 100000 in
set_option maxHeartbeats 4000000 in
theorem clamp_eq {v : Int32} {L : Nat} (hL : L ≤ 200) : (if (0 : Int32) < (if nI L < v then nI L else v) then (if nI L < v then nI L else v) else 0) = nI (clampN v.toInt L) := by
  have h0 : (0 : Int32).toInt = 0 := rfl
  have hLt : (nI L).toInt = (L : Int) := nI_toInt (by omega)
  unfold clampN
  rcases Decidable.em (nI L < v) with h | h
  · have h1 := Int32.lt_iff_toInt_lt.mp h
    rw [hLt] at h1
    rw [if_pos h, if_neg (show ¬ v.toInt < 0 by omega), if_pos h1]
    rcases Nat.eq_zero_or_pos L with h2 | h2
    · rw [h2]; decide
    · rw [if_pos (Int32.lt_iff_toInt_lt.mpr (by rw [h0, hLt]; omega))]
  · have h1 : ¬ (L : Int) < v.toInt := fun h1 => h (Int32.lt_iff_toInt_lt.mpr (by rw [hLt]; exact h1))
    rw [if_neg h, if_neg h1]
    rcases Decidable.em ((0 : Int32) < v) with h2 | h2
    · have h3 := Int32.lt_iff_toInt_lt.mp h2
      rw [h0] at h3
      rw [if_pos h2, if_neg (show ¬ v.toInt < 0 by omega)]
      exact Int32.toInt_inj.mp (by rw [nI_toInt (by omega)]; omega)
    · have h3 : ¬ 0 < v.toInt := fun h3 => h2 (Int32.lt_iff_toInt_lt.mpr (by rw [h0]; exact h3))
      rw [if_neg h2]
      split
      · rfl
      · rw [show v.toInt.toNat = 0 by omega]; rfl
/- the best start so far: the median, or where the last locked one stays -/
set_option maxRecDepth 100000 in
set_option maxHeartbeats 4000000 in
def bI (st sb : Nat → Nat) (lk : Nat → Int32) (g : Nat) (med : Int32) (i : Nat) (v : Int32) : Prop := (v = med ∧ ∀ p, p < i → lk p = 0) ∨ ∃ p, p < i ∧ ¬ lk p = 0 ∧ v = wI32 st sb g p
/- the answer: none, or the best start of the gap -/
set_option maxRecDepth 100000 in
set_option maxHeartbeats 4000000 in
def bsR (n : Nat) (st sb : Nat → Nat) (lk : Nat → Int32) (F : Int32) (g : Nat) (v : Int32) : Prop := (v = -1 ∧ ∀ s, ¬ cand n st sb lk F g s) ∨ ∃ s, v = nI s ∧ s ≤ 200 ∧ cand n st sb lk F g s ∧ ∀ s2, cand n st sb lk F g s2 → cN st sb g s 0 n < cN st sb g s2 0 n ∨ cN st sb g s 0 n = cN st sb g s2 0 n ∧ s ≤ s2
set_option maxRecDepth 100000 in
set_option maxHeartbeats 4000000 in
theorem lock_at {n : Nat} {st sb : Nat → Nat} {lk : Nat → Int32} {g s p : Nat} (h : lkN n st sb lk g s) (hp : p < n) (hl : ¬ lk p = 0) : (s : Int) = wZ st sb g p := by
  have h1 := h p hp hl
  unfold wZ
  unfold pN at h1 ⊢
  omega
set_option maxRecDepth 100000 in
set_option maxHeartbeats 4000000 in
theorem bsR_ok {n : Nat} {st sb : Nat → Nat} {lk : Nat → Int32} {F : Int32} (hE : evN X n st sb lk F) {g Fn : Nat} {med v : Int32} (h2n : 2 ≤ n) (hFn : F = nI Fn) (hF2 : Fn ≤ 200) (hgF : g ≤ Fn) (hle : g * (n - 1) ≤ Fn) (hm : ∀ s : Nat, (med.toInt ≤ s → cN st sb g s 0 n ≤ cN st sb g (s + 1) 0 n) ∧ ((s : Int) < med.toInt → cN st sb g (s + 1) 0 n < cN st sb g s 0 n)) (hb : bI st sb lk g med n v) (ho : lkN n st sb lk g (clampN v.toInt (Fn - g * (n - 1)))) : bsR n st sb lk F g (nI (clampN v.toInt (Fn - g * (n - 1)))) := by
  have hL : ∀ b, clampN b (Fn - g * (n - 1)) ≤ Fn - g * (n - 1) := fun b => by unfold clampN; split <;> (try split) <;> omega
  have hL2 := hL v.toInt
  refine Or.inr ⟨_, rfl, by omega, ⟨h2n, Fn, hFn, hF2, hgF, by omega, ho⟩, fun s2 hc => ?_⟩
  obtain ⟨_, Fm, e1, e2, e3, e4, hk2⟩ := hc
  have e5 : Fm = Fn := (nI_eq (by omega) (by omega)).mp (e1.symm.trans hFn)
  rcases hb with ⟨hv, hz⟩ | ⟨p, hp, hl, hv⟩
  · have h3 := (clamp_best (c := fun s => cN st sb g s 0 n) hm (Fn - g * (n - 1))).2 s2 (by omega)
    rw [hv]
    rcases h3 with h3 | h3 | h3
    · exact Or.inl h3
    · exact Or.inr h3
    · exact Or.inl h3
  · have h3 := lock_at ho hp hl
    have h4 := lock_at hk2 hp hl
    have h5 : clampN v.toInt (Fn - g * (n - 1)) = s2 := by omega
    rw [h5]; exact Or.inr ⟨rfl, Nat.le_refl _⟩
set_option maxRecDepth 100000 in
set_option maxHeartbeats 4000000 in
theorem bsR_no {n : Nat} {st sb : Nat → Nat} {lk : Nat → Int32} {F : Int32} (hE : evN X n st sb lk F) {g Fn : Nat} {med v : Int32} (hFn : F = nI Fn) (hF2 : Fn ≤ 200) (hgF : g ≤ Fn) (hb : bI st sb lk g med n v) (ho : ¬ lkN n st sb lk g (clampN v.toInt (Fn - g * (n - 1)))) : bsR n st sb lk F g (-1) := by
  refine Or.inl ⟨rfl, fun s2 hc => ?_⟩
  obtain ⟨_, Fm, e1, e2, e3, e4, hk2⟩ := hc
  have e5 : Fm = Fn := (nI_eq (by omega) (by omega)).mp (e1.symm.trans hFn)
  rcases hb with ⟨hv, hz⟩ | ⟨p, hp, hl, hv⟩
  · exact ho (fun p hp hl => absurd (hz p hp) hl)
  · have h4 := lock_at hk2 hp hl
    have h6 := wZ_toInt hE (show g ≤ 200 by omega) hp
    have h5 : clampN v.toInt (Fn - g * (n - 1)) = s2 := by
      rw [hv, h6, ← h4]
      unfold clampN
      rw [if_neg (by omega), if_neg (by omega)]
      omega
    rw [h5] at ho
    exact ho hk2
/- the stays as inserted up to the place i -/
set_option maxRecDepth 100000 in
set_option maxHeartbeats 4000000 in
def stI (st sb : Nat → Nat) (g i : Nat) (X1 : zX) : Prop := X1.1 29 = nI i ∧ nd (X1.2.1 29) i ∧ ∀ P : Int32 → Bool, cnt (fun j => P (X1.2.1 29 j)) i = cnt (fun p => P (wI32 st sb g p)) i
set_option maxRecDepth 100000 in
set_option maxHeartbeats 4000000 in
theorem stI_add {st sb : Nat → Nat} {g i : Nat} {X1 : zX} (h : stI st sb g i X1) : stI st sb g (i + 1) (xrow X1 29 (rins (X1.2.1 29) (wI32 st sb g i) i) (nI (i + 1))) := by
  refine ⟨rfl, ?_, fun P => ?_⟩
  · rw [xrow_f]; exact nd_rins h.2.1
  · rw [xrow_f, cnt_rins, h.2.2 P]; rfl
set_option maxRecDepth 100000 in
set_option maxHeartbeats 4000000 in
theorem stI_med {n : Nat} {st sb : Nat → Nat} {lk : Nat → Int32} {F : Int32} (hE : evN X n st sb lk F) {g : Nat} {X1 : zX} (hg : g ≤ 200) (h2n : 2 ≤ n) (h : stI st sb g n X1) : ∀ s : Nat, ((X1.2.1 29 ((n - 1) / 2)).toInt ≤ s → cN st sb g s 0 n ≤ cN st sb g (s + 1) 0 n) ∧ ((s : Int) < (X1.2.1 29 ((n - 1) / 2)).toInt → cN st sb g (s + 1) 0 n < cN st sb g s 0 n) :=
  fun s => median (by omega) h.2.1 (fun P => (h.2.2 P).trans (cnt_congr n (fun i hi => by rw [wZ_ofInt hE hg hi]))) (fun p hp => by rw [wZ_ofInt hE hg hp, wZ_toInt hE hg hp]) rfl s
end
