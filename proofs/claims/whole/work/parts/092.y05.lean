section
variable {G : zG} {X X1 : zX} {Y : zY} {O : zO}
/- an encoding that is no NaN -/
set_option maxRecDepth 100000 in
set_option maxHeartbeats 4000000 in
def gd (f : FP.Core.Fmt) (n : Nat) : Prop := n % (f.exps * f.tails) ≤ (f.exps - 1) * f.tails
/- what holds of both formats -/
set_option maxRecDepth 100000 in
set_option maxHeartbeats 4000000 in
def gf (f : FP.Core.Fmt) : Prop := 0 < f.tails ∧ 0 < f.exps ∧ 2 ^ f.p = 2 * f.tails ∧ (f.qmax - f.qmin).toNat + 2 < f.exps
set_option maxRecDepth 100000 in
set_option maxHeartbeats 4000000 in
theorem gf32 : gf FP.Core.b32 := by unfold gf; decide
set_option maxRecDepth 100000 in
set_option maxHeartbeats 4000000 in
theorem gf64 : gf FP.Core.b64 := by unfold gf; decide
set_option maxRecDepth 100000 in
set_option maxHeartbeats 4000000 in
theorem gd_asm {f : FP.Core.Fmt} {s : Bool} {e t : Nat} (h : (e + 1 < f.exps ∧ t < f.tails) ∨ (e + 1 = f.exps ∧ t = 0)) : gd f (FP.Core.assemble f s e t) := by
  unfold gd FP.Core.assemble
  have e1 : (s.toNat * f.exps + e) * f.tails + t = s.toNat * (f.exps * f.tails) + (e * f.tails + t) := by
    rw [Nat.add_mul, Nat.mul_assoc, Nat.add_assoc]
  have e2 : (s.toNat * (f.exps * f.tails) + (e * f.tails + t)) % (f.exps * f.tails) = (e * f.tails + t) % (f.exps * f.tails) := by
    rw [Nat.add_mod, Nat.mul_mod_left, Nat.zero_add, Nat.mod_mod]
  rw [e1, e2]
  refine Nat.le_trans (Nat.mod_le _ _) ?_
  rcases h with ⟨h1, h2⟩ | ⟨h1, h2⟩
  · have h3 : (e + 1) * f.tails ≤ (f.exps - 1) * f.tails := Nat.mul_le_mul_right _ (by omega)
    rw [Nat.add_mul, Nat.one_mul] at h3
    omega
  · rw [h2, Nat.add_zero, show f.exps - 1 = e by omega]
    exact Nat.le_refl _
set_option maxRecDepth 100000 in
set_option maxHeartbeats 4000000 in
theorem gd_inf {f : FP.Core.Fmt} (hf : gf f) (s : Bool) : gd f (FP.Core.encode f (.inf s)) := gd_asm (Or.inr ⟨by have := hf.2.1; omega, rfl⟩)
set_option maxRecDepth 100000 in
set_option maxHeartbeats 4000000 in
theorem gd_fin {f : FP.Core.Fmt} (hf : gf f) {s : Bool} {c : Nat} {q : Int} (hc : c < 2 * f.tails) (hq : q ≤ f.qmax) : gd f (FP.Core.encode f (.fin s c q)) := by
  obtain ⟨h1, h2, h3, h4⟩ := hf
  unfold FP.Core.encode
  dsimp only
  split
  · exact gd_asm (Or.inl ⟨by omega, by assumption⟩)
  · refine gd_asm (Or.inl ⟨?_, by omega⟩)
    have : (q - f.qmin).toNat ≤ (f.qmax - f.qmin).toNat := by omega
    omega
set_option maxRecDepth 100000 in
set_option maxHeartbeats 4000000 in
theorem gd_bound {f : FP.Core.Fmt} (hf : gf f) {s : Bool} {c : Nat} {q : Int} (hc : c < 2 * f.tails) : gd f (FP.Core.encode f (FP.Core.bound f s c q)) := by
  unfold FP.Core.bound
  split
  · exact gd_fin hf hc (by assumption)
  · exact gd_inf hf s
set_option maxRecDepth 100000 in
set_option maxHeartbeats 4000000 in
theorem gd_settle {f : FP.Core.Fmt} (hf : gf f) {s : Bool} {c : Nat} {q : Int} : gd f (FP.Core.encode f (FP.Core.settle f s c q)) := by
  unfold FP.Core.settle
  split
  · exact gd_bound hf (by rw [← hf.2.2.1]; assumption)
  · exact gd_bound hf (by have := hf.1; omega)
set_option maxRecDepth 100000 in
set_option maxHeartbeats 4000000 in
theorem gd_rr {f : FP.Core.Fmt} (hf : gf f) {s : Bool} {a b : Nat} {e : Int} : gd f (FP.Core.encode f (FP.Core.roundRatio f s a b e)) := by
  unfold FP.Core.roundRatio
  split
  · unfold FP.Core.encode
    dsimp only
    rw [if_pos hf.1]
    exact gd_asm (Or.inl ⟨by have := hf.2.2.2; omega, hf.1⟩)
  · exact gd_settle hf
set_option maxRecDepth 100000 in
set_option maxHeartbeats 4000000 in
theorem gd_round {f : FP.Core.Fmt} (hf : gf f) {d : FP.Core.Datum} (hd : d ≠ .nan) : gd f (FP.Core.encode f (FP.Core.round f d)) := by
  cases d with
  | nan => exact absurd rfl hd
  | inf s => exact gd_inf hf s
  | fin s c q => exact gd_rr hf
set_option maxRecDepth 100000 in
set_option maxHeartbeats 4000000 in
theorem gd_nn {f : FP.Core.Fmt} (hf : gf f) {n : Nat} (h : gd f n) : FP.Core.decode f n ≠ .nan := by
  unfold FP.Core.decode
  split
  · rename_i h1
    split
    · exact fun h9 => by cases h9
    · rename_i h2
      exfalso
      apply h2
      unfold FP.Core.fieldE at h1
      unfold FP.Core.fieldT
      unfold gd at h
      rw [Nat.mul_comm] at h
      rw [← Nat.mod_mul_right_div_self] at h1
      rw [← Nat.mod_mul_right_mod n f.tails f.exps]
      have h3 := Nat.div_add_mod (n % (f.tails * f.exps)) f.tails
      rw [h1] at h3
      have h4 : f.tails * (f.exps - 1) = (f.exps - 1) * f.tails := Nat.mul_comm _ _
      omega
  · split <;> exact fun h9 => by cases h9
set_option maxRecDepth 100000 in
set_option maxHeartbeats 4000000 in
theorem gd_div {f : FP.Core.Fmt} (hf : gf f) {x y : Nat} {s : Bool} {c : Nat} {q : Int} (hx : gd f x) (hy : FP.Core.decode f y = .fin s c q) (hc : c ≠ 0) : gd f (FP.Core.div f x y) := by
  unfold FP.Core.div
  rw [hy]
  have h1 := gd_nn hf hx
  cases e : FP.Core.decode f x with
  | nan => exact absurd e h1
  | inf s2 => exact gd_inf hf _
  | fin s2 c2 q2 =>
    unfold FP.Core.quotient
    dsimp only
    rw [if_neg hc]
    exact gd_rr hf
set_option maxRecDepth 100000 in
set_option maxHeartbeats 4000000 in
theorem n32_iff {n : Nat} : vf_n32 (UInt32.ofNat n) ↔ gd FP.Core.b32 n := by
  unfold vf_n32 gd
  rw [UInt32.le_iff_toNat_le, UInt32.toNat_and, UInt32.toNat_ofNat]
  show n % 2 ^ 32 &&& (2 ^ 31 - 1) ≤ (2 ^ 8 - 1) * 2 ^ 23 ↔ n % 2 ^ 31 ≤ (2 ^ 8 - 1) * 2 ^ 23
  rw [Nat.and_two_pow_sub_one_eq_mod, Nat.mod_mod_of_dvd _ (by decide)]
set_option maxRecDepth 100000 in
set_option maxHeartbeats 4000000 in
theorem n64_iff {n : Nat} : vf_n64 (UInt64.ofNat n) ↔ gd FP.Core.b64 n := by
  unfold vf_n64 gd
  rw [UInt64.le_iff_toNat_le, UInt64.toNat_and, UInt64.toNat_ofNat]
  show n % 2 ^ 64 &&& (2 ^ 63 - 1) ≤ (2 ^ 11 - 1) * 2 ^ 52 ↔ n % 2 ^ 63 ≤ (2 ^ 11 - 1) * 2 ^ 52
  rw [Nat.and_two_pow_sub_one_eq_mod, Nat.mod_mod_of_dvd _ (by decide)]
set_option maxRecDepth 100000 in
set_option maxHeartbeats 4000000 in
theorem n32_gd {r : UInt32} (h : vf_n32 r) : gd FP.Core.b32 r.toNat := n32_iff.mp (by rw [UInt32.ofNat_toNat]; exact h)
set_option maxRecDepth 100000 in
set_option maxHeartbeats 4000000 in
theorem n64_gd {r : UInt64} (h : vf_n64 r) : gd FP.Core.b64 r.toNat := n64_iff.mp (by rw [UInt64.ofNat_toNat]; exact h)
set_option maxRecDepth 100000 in
set_option maxHeartbeats 4000000 in
theorem n_i2f (a : Int32) : vf_n32 (FP.i2f a) := n32_iff.mpr (gd_round gf32 (fun h => by cases h))
set_option maxRecDepth 100000 in
set_option maxHeartbeats 4000000 in
theorem n_i2d (a : Int32) : vf_n64 (FP.i2d a) := n64_iff.mpr (gd_round gf64 (fun h => by cases h))
set_option maxRecDepth 100000 in
set_option maxHeartbeats 4000000 in
theorem n_f2d {x : UInt32} (h : vf_n32 x) : vf_n64 (FP.f2d x) := by
  have h1 := gd_nn gf32 (n32_gd h)
  unfold FP.f2d
  rw [if_neg (by unfold FP.Core.fIsNaN FP.Core.isNaN; simp [h1])]
  exact n64_iff.mpr (gd_round gf64 h1)
/- 24000 as a float -/
set_option maxRecDepth 100000 in
set_option maxHeartbeats 4000000 in
theorem n_cov (a : Int32) : vf_n32 (FP.fdiv (FP.i2f a) 1186693120) := n32_iff.mpr (gd_div (s := false) (c := 12288000) (q := -9) gf32 (n32_gd (n_i2f a)) (by decide) (by decide))
set_option maxRecDepth 100000 in
set_option maxHeartbeats 4000000 in
theorem n_mean (a b : Int32) (hb : b = 1 ∨ b = 3 ∨ b = 6) : vf_n64 (FP.ddiv (FP.i2d a) (FP.i2d b)) := by
  rcases hb with rfl | rfl | rfl
  · exact n64_iff.mpr (gd_div (s := false) (c := 4503599627370496) (q := -52) gf64 (n64_gd (n_i2d a)) (by decide +kernel) (by decide))
  · exact n64_iff.mpr (gd_div (s := false) (c := 6755399441055744) (q := -51) gf64 (n64_gd (n_i2d a)) (by decide +kernel) (by decide))
  · exact n64_iff.mpr (gd_div (s := false) (c := 6755399441055744) (q := -50) gf64 (n64_gd (n_i2d a)) (by decide +kernel) (by decide))
end
