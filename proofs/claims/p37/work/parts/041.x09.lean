section
variable {G : zG} {X : zX} {Y : zY} {O : zO}
/- links of at most four shapes, a bit a pair -/
set_option maxRecDepth 100000 in
set_option maxHeartbeats 4000000 in
def tbl (b i j : Nat) : Bool := b.testBit (if i < j then j * (j - 1) / 2 + i else i * (i - 1) / 2 + j)
set_option maxRecDepth 100000 in
set_option maxHeartbeats 4000000 in
def linked (X : zX) (n : Nat) (d : Int32) (b : Nat) : Prop := ∀ i j, i < n → j < n → i ≠ j → (zdist X i j ≤ d ↔ tbl b i j = true)
set_option maxRecDepth 100000 in
set_option maxHeartbeats 4000000 in
abbrev gst : Type := (Nat → Int32) × (Nat → Nat) × Nat
/- from s: what is not reached yet and linked to s is reached now, of root r -/
set_option maxRecDepth 100000 in
set_option maxHeartbeats 4000000 in
def gIn (b s : Nat) (r : Int32) : Nat → Nat → gst → gst
  | _, 0, a => a
  | i, m + 1, a => gIn b s r (i + 1) m (if a.1 i = -1 ∧ tbl b s i = true then (upd a.1 i r, va_up a.2.1 a.2.2 i, a.2.2 + 1) else a)
set_option maxRecDepth 100000 in
set_option maxHeartbeats 4000000 in
def gOut (b n : Nat) (r : Int32) : Nat → Nat → gst → gst
  | _, 0, a => a
  | i, m + 1, a => if i < a.2.2 then gOut b n r (i + 1) m (gIn b (a.2.1 i) r 0 n a) else a
set_option maxRecDepth 100000 in
set_option maxHeartbeats 4000000 in
def gFrom (b n k : Nat) (low : Nat → Int32) : gst := gOut b n (nI k) 0 4 (upd low k (nI k), fun _ => k, 1)
set_option maxRecDepth 100000 in
set_option maxHeartbeats 4000000 in
def gGo (b n : Nat) : Nat → Nat → (Nat → Int32) → Nat → (Nat → Int32) × Nat
  | _, 0, low, c => (low, c)
  | i, m + 1, low, c => if low i = -1 then gGo b n (i + 1) m (gFrom b n i low).1 (c + 1) else gGo b n (i + 1) m low c
/- reached numbers are numbers of shapes; no more are reached than are marked -/
set_option maxRecDepth 100000 in
set_option maxHeartbeats 4000000 in
def gok (n : Nat) (a : gst) : Prop := a.2.2 ≤ n ∧ (∀ i, i < a.2.2 → a.2.1 i < n ∧ a.1 (a.2.1 i) ≠ -1) ∧ ∀ i j, i < j → j < a.2.2 → a.2.1 i ≠ a.2.1 j
set_option maxRecDepth 100000 in
set_option maxHeartbeats 4000000 in
theorem nI_m1 {k : Nat} (h : k < 1000) : nI k ≠ -1 := fun h2 => absurd (congrArg (fun x : Int32 => decide (x < 0)) h2) (by
  simp only [decide_eq_false (nI_pos (show k < 2 ^ 31 by omega))]; decide)
set_option maxRecDepth 100000 in
set_option maxHeartbeats 4000000 in
theorem gok_lt {n : Nat} {a : gst} (h : gok n a) {i : Nat} (hi : i < n) (hm : a.1 i = -1) : a.2.2 < n := by
  rcases Nat.lt_or_ge a.2.2 n with h1 | h1
  · exact h1
  · exfalso
    have he : a.2.2 = n := Nat.le_antisymm h.1 h1
    have hne : ∀ j, j < n → a.2.1 j ≠ i := fun j hj e => (h.2.1 j (by omega)).2 (by rw [e]; exact hm)
    have hinj := h.2.2
    have hlt : ∀ j, j < n → a.2.1 j < n := fun j hj => (h.2.1 j (by omega)).1
    -- n different numbers below n, none of them i
    have key : ∀ (n : Nat) (f : Nat → Nat), (∀ j, j < n → f j < n) → (∀ j k, j < k → k < n → f j ≠ f k) → ∀ y, y < n → ∃ j, j < n ∧ f j = y := by
      intro n
      induction n with
      | zero => intro f _ _ y hy; omega
      | succ n ih =>
        intro f hf hi y hy
        rcases Decidable.em (f n = y) with h2 | h2
        · exact ⟨n, Nat.lt_succ_self n, h2⟩
        · -- swap n and f n out
          let g : Nat → Nat := fun x => if x = n then f n else x
          have hg1 : ∀ x, x < n + 1 → x ≠ f n → g x < n + 1 ∧ g x ≠ n ∨ f n = n := fun x hx hxf => by
            show (if x = n then f n else x) < n + 1 ∧ (if x = n then f n else x) ≠ n ∨ f n = n
            rcases Decidable.em (f n = n) with h3 | h3
            · exact Or.inr h3
            · refine Or.inl ?_
              split
              · exact ⟨hf n (Nat.lt_succ_self n), h3⟩
              · rename_i h4; exact ⟨hx, h4⟩
          have hfg : ∀ j, j < n → g (f j) < n := fun j hj => by
            have h4 := hf j (by omega)
            have h5 := hi j n hj (Nat.lt_succ_self n)
            show (if f j = n then f n else f j) < n
            split
            · rename_i h6
              have := hf n (Nat.lt_succ_self n)
              have h7 : f n ≠ n := fun h8 => h5 (h6.trans h8.symm)
              omega
            · rename_i h6; omega
          have hgi : ∀ j k, j < k → k < n → g (f j) ≠ g (f k) := fun j k hjk hk => by
            have a1 := hi j k hjk (by omega)
            have a2 := hi j n (by omega) (Nat.lt_succ_self n)
            have a3 := hi k n hk (Nat.lt_succ_self n)
            show (if f j = n then f n else f j) ≠ (if f k = n then f n else f k)
            split <;> split <;> omega
          have hy2 : g y < n := by
            show (if y = n then f n else y) < n
            have := hf n (Nat.lt_succ_self n)
            split <;> omega
          obtain ⟨j, hj, e⟩ := ih (fun j => g (f j)) hfg hgi (g y) hy2
          refine ⟨j, by omega, ?_⟩
          have a2 := hi j n hj (Nat.lt_succ_self n)
          have e2 : (if f j = n then f n else f j) = (if y = n then f n else y) := e
          split at e2 <;> split at e2 <;> omega
    obtain ⟨j, hj, e⟩ := key n a.2.1 hlt (fun j k h1 h2 => hinj j k h1 (by omega)) i hi
    exact hne j hj e
set_option maxRecDepth 100000 in
set_option maxHeartbeats 4000000 in
theorem gok_step {n : Nat} {a : gst} (h : gok n a) {i : Nat} {r : Int32} (hi : i < n) (hm : a.1 i = -1) (hr : r ≠ -1) : gok n (upd a.1 i r, va_up a.2.1 a.2.2 i, a.2.2 + 1) := by
  have hlt := gok_lt h hi hm
  refine ⟨hlt, fun j hj => ?_, fun j k hjk hk => ?_⟩
  · rcases Nat.lt_or_ge j a.2.2 with h1 | h1
    · have h2 : va_up a.2.1 a.2.2 i j = a.2.1 j := if_neg (by omega)
      show va_up a.2.1 a.2.2 i j < n ∧ upd a.1 i r (va_up a.2.1 a.2.2 i j) ≠ -1
      rw [h2]
      refine ⟨(h.2.1 j h1).1, ?_⟩
      show (if a.2.1 j = i then r else a.1 (a.2.1 j)) ≠ -1
      split
      · exact hr
      · exact (h.2.1 j h1).2
    · have hj2 : j = a.2.2 := by have : j < a.2.2 + 1 := hj; omega
      have h2 : va_up a.2.1 a.2.2 i j = i := if_pos hj2
      show va_up a.2.1 a.2.2 i j < n ∧ upd a.1 i r (va_up a.2.1 a.2.2 i j) ≠ -1
      rw [h2]
      exact ⟨hi, by show (if i = i then r else a.1 i) ≠ -1; rw [if_pos rfl]; exact hr⟩
  · have hj1 : j < a.2.2 := by have : k < a.2.2 + 1 := hk; omega
    have h2 : va_up a.2.1 a.2.2 i j = a.2.1 j := if_neg (by omega)
    show va_up a.2.1 a.2.2 i j ≠ va_up a.2.1 a.2.2 i k
    rw [h2]
    rcases Nat.lt_or_ge k a.2.2 with h1 | h1
    · have h3 : va_up a.2.1 a.2.2 i k = a.2.1 k := if_neg (by omega)
      rw [h3]; exact h.2.2 j k hjk h1
    · have h3 : va_up a.2.1 a.2.2 i k = i := if_pos (by have : k < a.2.2 + 1 := hk; omega)
      rw [h3]
      exact fun e => (h.2.1 j hj1).2 (by rw [e]; exact hm)
set_option maxRecDepth 100000 in
set_option maxHeartbeats 4000000 in
theorem gok_In {n b s : Nat} {r : Int32} (hr : r ≠ -1) : ∀ (m i : Nat) (a : gst), i + m ≤ n → gok n a → gok n (gIn b s r i m a)
  | 0, _, _, _, h => h
  | m + 1, i, a, hi, h => by
    unfold gIn
    refine gok_In hr m (i + 1) _ (by omega) ?_
    split
    · rename_i hc; exact gok_step h (by omega) hc.1 hr
    · exact h
end
