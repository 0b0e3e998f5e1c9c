/-! part 94: how many are in a set -/
theorem pc_or : ∀ s, s < 256 → ∀ k, k < 8 → s.testBit k = false → pc16 (s ||| 2 ^ k) = pc16 s + 1 := by decide +kernel
theorem pc_sub : ∀ s, s < 256 → ∀ t, t < 256 → s &&& t = s → pc16 s = pc16 t → s = t := by decide +kernel
theorem pc_8 : ∀ s, s < 256 → pc16 s ≤ 8 := by decide +kernel
