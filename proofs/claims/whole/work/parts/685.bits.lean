theorem bit_a : ∀ p, p < 12 → ∀ a, a < 64 → ∀ b, b < 64 → bitI (nI (64 * a + b)) (nI p) = if (64 * a + b).testBit p then 1 else 0 := by decide +kernel
theorem bit12 {m p : Nat} (h : m < 4096) (hp : p < 12) : bitI (nI m) (nI p) = if m.testBit p then 1 else 0 := by
  have h1 := bit_a p hp (m / 64) (by omega) (m % 64) (by omega)
  rwa [show 64 * (m / 64) + m % 64 = m by omega] at h1
