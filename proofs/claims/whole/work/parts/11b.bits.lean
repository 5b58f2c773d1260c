/-- how many bits of n are on -/
def pop (r : Nat) : Nat → Nat
  | 0 => 0
  | n + 1 => pop r n + (if r.testBit n then 1 else 0)
def bc1 (r : Nat) : Nat := r - ((r / 2) &&& 1431655765)
def bc2 (r : Nat) : Nat := (r &&& 858993459) + ((r / 4) &&& 858993459)
def bc3 (r : Nat) : Nat := (r + r / 16) &&& 252645135
def bcN (r : Nat) : Nat := let s := bc3 (bc2 (bc1 r)); let u := s + s / 256; (u + u / 65536) &&& 63
theorem bc_all0 : ∀ a, a < 16 → ∀ c, c < 256 → (bcN (0 + 256 * a + c) = pop (0 + 256 * a + c) 16 ∧ (((0 + 256 * a + c) / 2) &&& 1431655765) ≤ 0 + 256 * a + c ∧ bc3 (bc2 (bc1 (0 + 256 * a + c))) < 65536) := by decide +kernel
theorem bc_all1 : ∀ a, a < 16 → ∀ c, c < 256 → (bcN (4096 + 256 * a + c) = pop (4096 + 256 * a + c) 16 ∧ (((4096 + 256 * a + c) / 2) &&& 1431655765) ≤ 4096 + 256 * a + c ∧ bc3 (bc2 (bc1 (4096 + 256 * a + c))) < 65536) := by decide +kernel
theorem bc_all2 : ∀ a, a < 16 → ∀ c, c < 256 → (bcN (8192 + 256 * a + c) = pop (8192 + 256 * a + c) 16 ∧ (((8192 + 256 * a + c) / 2) &&& 1431655765) ≤ 8192 + 256 * a + c ∧ bc3 (bc2 (bc1 (8192 + 256 * a + c))) < 65536) := by decide +kernel
theorem bc_all3 : ∀ a, a < 16 → ∀ c, c < 256 → (bcN (12288 + 256 * a + c) = pop (12288 + 256 * a + c) 16 ∧ (((12288 + 256 * a + c) / 2) &&& 1431655765) ≤ 12288 + 256 * a + c ∧ bc3 (bc2 (bc1 (12288 + 256 * a + c))) < 65536) := by decide +kernel
theorem bc_all4 : ∀ a, a < 16 → ∀ c, c < 256 → (bcN (16384 + 256 * a + c) = pop (16384 + 256 * a + c) 16 ∧ (((16384 + 256 * a + c) / 2) &&& 1431655765) ≤ 16384 + 256 * a + c ∧ bc3 (bc2 (bc1 (16384 + 256 * a + c))) < 65536) := by decide +kernel
theorem bc_all5 : ∀ a, a < 16 → ∀ c, c < 256 → (bcN (20480 + 256 * a + c) = pop (20480 + 256 * a + c) 16 ∧ (((20480 + 256 * a + c) / 2) &&& 1431655765) ≤ 20480 + 256 * a + c ∧ bc3 (bc2 (bc1 (20480 + 256 * a + c))) < 65536) := by decide +kernel
theorem bc_all6 : ∀ a, a < 16 → ∀ c, c < 256 → (bcN (24576 + 256 * a + c) = pop (24576 + 256 * a + c) 16 ∧ (((24576 + 256 * a + c) / 2) &&& 1431655765) ≤ 24576 + 256 * a + c ∧ bc3 (bc2 (bc1 (24576 + 256 * a + c))) < 65536) := by decide +kernel
theorem bc_all7 : ∀ a, a < 16 → ∀ c, c < 256 → (bcN (28672 + 256 * a + c) = pop (28672 + 256 * a + c) 16 ∧ (((28672 + 256 * a + c) / 2) &&& 1431655765) ≤ 28672 + 256 * a + c ∧ bc3 (bc2 (bc1 (28672 + 256 * a + c))) < 65536) := by decide +kernel
theorem bc_all8 : ∀ a, a < 16 → ∀ c, c < 256 → (bcN (32768 + 256 * a + c) = pop (32768 + 256 * a + c) 16 ∧ (((32768 + 256 * a + c) / 2) &&& 1431655765) ≤ 32768 + 256 * a + c ∧ bc3 (bc2 (bc1 (32768 + 256 * a + c))) < 65536) := by decide +kernel
theorem bc_all9 : ∀ a, a < 16 → ∀ c, c < 256 → (bcN (36864 + 256 * a + c) = pop (36864 + 256 * a + c) 16 ∧ (((36864 + 256 * a + c) / 2) &&& 1431655765) ≤ 36864 + 256 * a + c ∧ bc3 (bc2 (bc1 (36864 + 256 * a + c))) < 65536) := by decide +kernel
theorem bc_all10 : ∀ a, a < 16 → ∀ c, c < 256 → (bcN (40960 + 256 * a + c) = pop (40960 + 256 * a + c) 16 ∧ (((40960 + 256 * a + c) / 2) &&& 1431655765) ≤ 40960 + 256 * a + c ∧ bc3 (bc2 (bc1 (40960 + 256 * a + c))) < 65536) := by decide +kernel
theorem bc_all11 : ∀ a, a < 16 → ∀ c, c < 256 → (bcN (45056 + 256 * a + c) = pop (45056 + 256 * a + c) 16 ∧ (((45056 + 256 * a + c) / 2) &&& 1431655765) ≤ 45056 + 256 * a + c ∧ bc3 (bc2 (bc1 (45056 + 256 * a + c))) < 65536) := by decide +kernel
theorem bc_all12 : ∀ a, a < 16 → ∀ c, c < 256 → (bcN (49152 + 256 * a + c) = pop (49152 + 256 * a + c) 16 ∧ (((49152 + 256 * a + c) / 2) &&& 1431655765) ≤ 49152 + 256 * a + c ∧ bc3 (bc2 (bc1 (49152 + 256 * a + c))) < 65536) := by decide +kernel
theorem bc_all13 : ∀ a, a < 16 → ∀ c, c < 256 → (bcN (53248 + 256 * a + c) = pop (53248 + 256 * a + c) 16 ∧ (((53248 + 256 * a + c) / 2) &&& 1431655765) ≤ 53248 + 256 * a + c ∧ bc3 (bc2 (bc1 (53248 + 256 * a + c))) < 65536) := by decide +kernel
theorem bc_all14 : ∀ a, a < 16 → ∀ c, c < 256 → (bcN (57344 + 256 * a + c) = pop (57344 + 256 * a + c) 16 ∧ (((57344 + 256 * a + c) / 2) &&& 1431655765) ≤ 57344 + 256 * a + c ∧ bc3 (bc2 (bc1 (57344 + 256 * a + c))) < 65536) := by decide +kernel
theorem bc_all15 : ∀ a, a < 16 → ∀ c, c < 256 → (bcN (61440 + 256 * a + c) = pop (61440 + 256 * a + c) 16 ∧ (((61440 + 256 * a + c) / 2) &&& 1431655765) ≤ 61440 + 256 * a + c ∧ bc3 (bc2 (bc1 (61440 + 256 * a + c))) < 65536) := by decide +kernel
theorem bc_ok {r : Nat} (h : r < 65536) : bcN r = pop r 16 ∧ ((r / 2) &&& 1431655765) ≤ r ∧ bc3 (bc2 (bc1 r)) < 65536 := by
  have h1 : r / 256 % 16 < 16 := Nat.mod_lt _ (by decide)
  have h2 : r % 256 < 256 := Nat.mod_lt _ (by decide)
  have h3 : r = 4096 * (r / 4096) + 256 * (r / 256 % 16) + r % 256 := by omega
  have h4 : r / 4096 < 16 := by omega
  generalize r / 4096 = k at h3 h4
  rw [h3]
  rcases (show k = 0 ∨ k = 1 ∨ k = 2 ∨ k = 3 ∨ k = 4 ∨ k = 5 ∨ k = 6 ∨ k = 7 ∨ k = 8 ∨ k = 9 ∨ k = 10 ∨ k = 11 ∨ k = 12 ∨ k = 13 ∨ k = 14 ∨ k = 15 by omega) with rfl | rfl | rfl | rfl | rfl | rfl | rfl | rfl | rfl | rfl | rfl | rfl | rfl | rfl | rfl | rfl
  · exact bc_all0 _ h1 _ h2
  · exact bc_all1 _ h1 _ h2
  · exact bc_all2 _ h1 _ h2
  · exact bc_all3 _ h1 _ h2
  · exact bc_all4 _ h1 _ h2
  · exact bc_all5 _ h1 _ h2
  · exact bc_all6 _ h1 _ h2
  · exact bc_all7 _ h1 _ h2
  · exact bc_all8 _ h1 _ h2
  · exact bc_all9 _ h1 _ h2
  · exact bc_all10 _ h1 _ h2
  · exact bc_all11 _ h1 _ h2
  · exact bc_all12 _ h1 _ h2
  · exact bc_all13 _ h1 _ h2
  · exact bc_all14 _ h1 _ h2
  · exact bc_all15 _ h1 _ h2
