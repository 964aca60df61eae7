/-! ===== the reference: the first row, the next ===== -/
def cd4 (a b c d : Nat) : Nat := a * 512 + b * 64 + c * 8 + d
/-- a row with another value of one field, as bits -/
def rst (x f lo : Nat) : Nat := (x ^^^ (x &&& (7 * 2 ^ (9 - 3 * f)))) ||| (lo * 2 ^ (9 - 3 * f))
theorem rst_0 : ∀ h, h < 64 → ∀ l, l < 64 → ∀ lo, lo < 8 → rst (64 * h + l) 0 lo = 64 * h + l - vl (64 * h + l) 0 * 512 + lo * 512 := by decide +kernel
theorem rst_1 : ∀ h, h < 64 → ∀ l, l < 64 → ∀ lo, lo < 8 → rst (64 * h + l) 1 lo = 64 * h + l - vl (64 * h + l) 1 * 64 + lo * 64 := by decide +kernel
theorem rst_2 : ∀ h, h < 64 → ∀ l, l < 64 → ∀ lo, lo < 8 → rst (64 * h + l) 2 lo = 64 * h + l - vl (64 * h + l) 2 * 8 + lo * 8 := by decide +kernel
theorem rst_3 : ∀ h, h < 64 → ∀ l, l < 64 → ∀ lo, lo < 8 → rst (64 * h + l) 3 lo = 64 * h + l - vl (64 * h + l) 3 + lo := by decide +kernel
theorem or4_ok : ∀ a, a < 8 → ∀ b, b < 8 → ∀ c, c < 8 → ∀ d, d < 8 → (((0 ||| a * 2 ^ 9) ||| b * 2 ^ 6) ||| c * 2 ^ 3) ||| d * 2 ^ 0 = cd4 a b c d := by decide +kernel
