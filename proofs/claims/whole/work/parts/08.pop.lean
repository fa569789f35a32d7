def bc1 (n : Nat) : Nat := n - (n / 2 ^ 1 &&& 1431655765)
def bc2 (n : Nat) : Nat := (bc1 n &&& 858993459) + (bc1 n / 2 ^ 2 &&& 858993459)
def bc3 (n : Nat) : Nat := bc2 n + bc2 n / 2 ^ 4 &&& 252645135
def bc4 (n : Nat) : Nat := bc3 n + bc3 n / 2 ^ 8
def bc5 (n : Nat) : Nat := bc4 n + bc4 n / 2 ^ 16
theorem bc_pop_0 : ∀ a, a < 16 → ∀ b, b < 256 → bc5 (256 * (a + 0) + b) &&& 63 = pop (256 * (a + 0) + b) := by decide +kernel
theorem bc_pop_1 : ∀ a, a < 16 → ∀ b, b < 256 → bc5 (256 * (a + 16) + b) &&& 63 = pop (256 * (a + 16) + b) := by decide +kernel
theorem bc_pop_2 : ∀ a, a < 16 → ∀ b, b < 256 → bc5 (256 * (a + 32) + b) &&& 63 = pop (256 * (a + 32) + b) := by decide +kernel
theorem bc_pop_3 : ∀ a, a < 16 → ∀ b, b < 256 → bc5 (256 * (a + 48) + b) &&& 63 = pop (256 * (a + 48) + b) := by decide +kernel
theorem bc_pop_4 : ∀ a, a < 16 → ∀ b, b < 256 → bc5 (256 * (a + 64) + b) &&& 63 = pop (256 * (a + 64) + b) := by decide +kernel
theorem bc_pop_5 : ∀ a, a < 16 → ∀ b, b < 256 → bc5 (256 * (a + 80) + b) &&& 63 = pop (256 * (a + 80) + b) := by decide +kernel
theorem bc_pop_6 : ∀ a, a < 16 → ∀ b, b < 256 → bc5 (256 * (a + 96) + b) &&& 63 = pop (256 * (a + 96) + b) := by decide +kernel
theorem bc_pop_7 : ∀ a, a < 16 → ∀ b, b < 256 → bc5 (256 * (a + 112) + b) &&& 63 = pop (256 * (a + 112) + b) := by decide +kernel
theorem bc_pop_8 : ∀ a, a < 16 → ∀ b, b < 256 → bc5 (256 * (a + 128) + b) &&& 63 = pop (256 * (a + 128) + b) := by decide +kernel
theorem bc_pop_9 : ∀ a, a < 16 → ∀ b, b < 256 → bc5 (256 * (a + 144) + b) &&& 63 = pop (256 * (a + 144) + b) := by decide +kernel
theorem bc_pop_10 : ∀ a, a < 16 → ∀ b, b < 256 → bc5 (256 * (a + 160) + b) &&& 63 = pop (256 * (a + 160) + b) := by decide +kernel
theorem bc_pop_11 : ∀ a, a < 16 → ∀ b, b < 256 → bc5 (256 * (a + 176) + b) &&& 63 = pop (256 * (a + 176) + b) := by decide +kernel
theorem bc_pop_12 : ∀ a, a < 16 → ∀ b, b < 256 → bc5 (256 * (a + 192) + b) &&& 63 = pop (256 * (a + 192) + b) := by decide +kernel
theorem bc_pop_13 : ∀ a, a < 16 → ∀ b, b < 256 → bc5 (256 * (a + 208) + b) &&& 63 = pop (256 * (a + 208) + b) := by decide +kernel
theorem bc_pop_14 : ∀ a, a < 16 → ∀ b, b < 256 → bc5 (256 * (a + 224) + b) &&& 63 = pop (256 * (a + 224) + b) := by decide +kernel
theorem bc_pop_15 : ∀ a, a < 16 → ∀ b, b < 256 → bc5 (256 * (a + 240) + b) &&& 63 = pop (256 * (a + 240) + b) := by decide +kernel
theorem bc_pop {n : Nat} (hn : n < 65536) : bc5 n &&& 63 = pop n := by
  obtain ⟨t, a, b, ht, ha, hb, rfl⟩ : ∃ t a b, t < 16 ∧ a < 16 ∧ b < 256 ∧ n = 256 * (a + 16 * t) + b := ⟨n / 4096, n / 256 % 16, n % 256, by omega, by omega, by omega, by omega⟩
  have hc : t = 0 ∨ t = 1 ∨ t = 2 ∨ t = 3 ∨ t = 4 ∨ t = 5 ∨ t = 6 ∨ t = 7 ∨ t = 8 ∨ t = 9 ∨ t = 10 ∨ t = 11 ∨ t = 12 ∨ t = 13 ∨ t = 14 ∨ t = 15 := by omega
  rcases hc with rfl | rfl | rfl | rfl | rfl | rfl | rfl | rfl | rfl | rfl | rfl | rfl | rfl | rfl | rfl | rfl
  · exact bc_pop_0 a ha b hb
  · exact bc_pop_1 a ha b hb
  · exact bc_pop_2 a ha b hb
  · exact bc_pop_3 a ha b hb
  · exact bc_pop_4 a ha b hb
  · exact bc_pop_5 a ha b hb
  · exact bc_pop_6 a ha b hb
  · exact bc_pop_7 a ha b hb
  · exact bc_pop_8 a ha b hb
  · exact bc_pop_9 a ha b hb
  · exact bc_pop_10 a ha b hb
  · exact bc_pop_11 a ha b hb
  · exact bc_pop_12 a ha b hb
  · exact bc_pop_13 a ha b hb
  · exact bc_pop_14 a ha b hb
  · exact bc_pop_15 a ha b hb
