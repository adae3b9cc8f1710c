/-! Sets as numbers. -/
theorem sub_d : ∀ s, s < 256 → ∀ H, H < 256 → (nI s &&& (nI H ^^^ (-1)) = nI (Nat.land s (255 - H))) := by decide +kernel
