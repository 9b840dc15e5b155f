theorem zb_shr : ∀ u, u < 128 → ∀ d, d < 7 → zI (u : Nat) >>> (zI (d : Nat) &&& 31) = zI ((u / 2 ^ d : Nat) : Int) := by decide +kernel
theorem zb_and : ∀ u, u < 128 → zI (u : Nat) &&& zI 1 = zI ((u % 2 : Nat) : Int) := by decide +kernel
theorem zb_shl : ∀ d, d < 7 → zI 1 <<< (zI (d : Nat) &&& 31) = zI ((2 ^ d : Nat) : Int) := by decide +kernel
theorem zb_or : ∀ u, u < 128 → ∀ d, d < 7 → u / 2 ^ d % 2 = 0 → zI (u : Nat) ||| zI ((2 ^ d : Nat) : Int) = zI ((u + 2 ^ d : Nat) : Int) := by decide +kernel
theorem zb_bit1 : ∀ u, u < 128 → ∀ d, d < 7 → u / 2 ^ d % 2 = 0 → u + 2 ^ d < 128 := by decide +kernel
theorem zb_bit2 {u d e : Nat} (hu : u < 128) (hd : d < 7) (he : e < 7) (h : u / 2 ^ d % 2 = 0) : (u + 2 ^ d) / 2 ^ e % 2 = 1 ↔ e = d ∨ u / 2 ^ e % 2 = 1 := by
  rcases (show d = 0 ∨ d = 1 ∨ d = 2 ∨ d = 3 ∨ d = 4 ∨ d = 5 ∨ d = 6 by omega) with rfl | rfl | rfl | rfl | rfl | rfl | rfl <;> rcases (show e = 0 ∨ e = 1 ∨ e = 2 ∨ e = 3 ∨ e = 4 ∨ e = 5 ∨ e = 6 by omega) with rfl | rfl | rfl | rfl | rfl | rfl | rfl <;> simp at h ⊢ <;> omega
