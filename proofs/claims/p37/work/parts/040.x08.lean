section
variable {G : zG} {X : zX} {Y : zY} {O : zO}
set_option maxRecDepth 100000 in
set_option maxHeartbeats 4000000 in
def rs2 (g : Nat → Nat → Int32) : Nat → Nat → Int32 → Int32
  | _, 0, a => a
  | k, m + 1, a => rs2 g (k + 1) m (rsum (g k) (k + 1) m a)
set_option maxRecDepth 100000 in
set_option maxHeartbeats 4000000 in
def rc2 : Nat → Nat → Nat
  | 0, c => c
  | m + 1, c => rc2 m (c + m)
set_option maxRecDepth 100000 in
set_option maxHeartbeats 4000000 in
theorem rc2_le : ∀ n, n ≤ 4 → rc2 n 0 ≤ 6 := by decide
end
