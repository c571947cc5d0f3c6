theorem zm_need0 : ∀ b, b < 256 → (z_len b ≠ 0 ∧ b ≠ 184) → s_Mo_need (nI b) (nI 0) = some (nI (z_nd (z_tk b) 0)) := by decide +kernel
theorem zm_need1 : ∀ b, b < 256 → (z_len b ≠ 0 ∧ b ≠ 184) → s_Mo_need (nI b) (nI 1) = some (nI (z_nd (z_tk b) 1)) := by decide +kernel
theorem zm_need2 : ∀ b, b < 256 → (z_len b ≠ 0 ∧ b ≠ 184) → s_Mo_need (nI b) (nI 2) = some (nI (z_nd (z_tk b) 2)) := by decide +kernel
theorem zm_need3 : ∀ b, b < 256 → (z_len b ≠ 0 ∧ b ≠ 184) → s_Mo_need (nI b) (nI 3) = some (nI (z_nd (z_tk b) 3)) := by decide +kernel
theorem zm_need {b k : Nat} (hb : b < 256) (h : z_len b ≠ 0 ∧ b ≠ 184) (hk : k < 4) : s_Mo_need (nI b) (nI k) = some (nI (z_nd (z_tk b) k)) := by
  have : k = 0 ∨ k = 1 ∨ k = 2 ∨ k = 3 := by omega
  rcases this with rfl | rfl | rfl | rfl
  · exact zm_need0 b hb h
  · exact zm_need1 b hb h
  · exact zm_need2 b hb h
  · exact zm_need3 b hb h
theorem zm_puts : ∀ b, b < 256 → (z_len b ≠ 0 ∧ b ≠ 25 ∧ b ≠ 89 ∧ b ≠ 95 ∧ b ≠ 184) → s_Mo_puts (nI b) = some (nI (if z_pt b = 1 then z_py b else 0)) := by decide +kernel
