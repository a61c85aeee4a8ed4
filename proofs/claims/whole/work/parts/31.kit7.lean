theorem all_sq {x : Int32} {N : Nat} (h : x = nI N) (hN : N ≤ 8) : (1 : Int32) <<< (x &&& 31) - 1 = nI (2 ^ N - 1) := by
  subst h
  have h9 : ∀ k, k < 9 → (1 : Int32) <<< (nI k &&& 31) - 1 = nI (2 ^ k - 1) := by decide +kernel
  exact h9 N (by omega)
theorem pow_256 {N : Nat} (hN : N ≤ 8) : 2 ^ N - 1 < 256 := by
  have h9 : ∀ k, k < 9 → 2 ^ k - 1 < 256 := by decide +kernel
  exact h9 N (by omega)
theorem inR_row {r : Nat} (h : r < 8) : inR (nI r) 0 7 = true := by
  have h9 : ∀ k, k < 8 → inR (nI k) 0 7 = true := by decide +kernel
  exact h9 r h
theorem keenD_s (D : Nat → Int32) (F : Nat → Nat → Int32) (N M : Nat) : ∀ k, (keenD D F N M k).1 = -1000000 ∨ ∃ j : Nat, j < k ∧ (keenD D F N M k).1 = nI j ∧ (keenD D F N M k).2 = diffD D F j N M
  | 0 => Or.inl rfl
  | k + 1 => by
    unfold keenD
    cases (cntD F k && decide (diffD D F k N M < (keenD D F N M k).2))
    · rcases keenD_s D F N M k with h | ⟨j, h1, h2, h3⟩
      · exact Or.inl h
      · exact Or.inr ⟨j, by omega, h2, h3⟩
    · exact Or.inr ⟨k, by omega, rfl, rfl⟩
/-- what lookAt leaves, and answers -/
def lookF (len i n : Int32) : Int32 := if len = -1000000 then 1 else bif hasB len i n then 0 else 2
def lookV (len i n : Int32) : Int32 := if len = -1000000 then -1000011 else bif hasB len i n then 0 else -1000012
