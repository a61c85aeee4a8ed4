/-! the reference's pairs, told downward -/
def alkM (f : Nat → Int32) (v w : Nat) (set : Int32) (N : Nat) : Bool := decide ((bitsI (clkR f v) N ^^^ bitsI (clkR f w) N) &&& set = 0)
def tlsJ (f : Nat → Int32) (set : Int32) (N M : Nat) (z : Int32 × Int32) (a : Nat) : Nat → Int32 × Int32
  | 0 => z
  | d + 1 => bif alkM f a (M - 1 - d) set N then ((tlsJ f set N M z a d).1, nI (10 * a + (M - 1 - d))) else ((tlsJ f set N M z a d).1 + 1, (tlsJ f set N M z a d).2)
def tlsK (f : Nat → Int32) (set : Int32) (N M : Nat) : Nat → Int32 × Int32
  | 0 => (0, -1000000)
  | k + 1 => tlsJ f set N M (tlsK f set N M k) (M - 1 - k) k
theorem dn_lt {M k : Nat} (hk : k ≤ M) (h : ¬ nI (M - k) - 1 < 0) : k < M := by
  rcases Nat.lt_or_ge k M with q | q
  · exact q
  · have e : M - k = 0 := by omega
    rw [e] at h
    exact absurd (by decide) h
theorem dn_ge {M k : Nat} (hM : M < 1000) (h : nI (M - k) - 1 < 0) : M ≤ k := by
  rcases Nat.lt_or_ge k M with q | q
  · have e : M - k = (M - k - 1) + 1 := by omega
    rw [e, nI_pred] at h
    exact absurd h (nI_pos (by omega))
  · exact q
theorem dn_at {M k : Nat} (h : k < M) : nI (M - k) - 1 = nI (M - 1 - k) := by
  have e : M - k = (M - 1 - k) + 1 := by omega
  rw [e, nI_pred]
theorem dn_dec {b : Nat} (h : 1 ≤ b) : nI b + -1 = nI (b - 1) := by
  have e : b = (b - 1) + 1 := by omega
  rw [e, ← Int32.sub_eq_add_neg, nI_pred]
  rfl
theorem dn5 {M k : Nat} (h : k < M) : nI (M - 1 - k) + -1 = nI (M - (k + 1)) - 1 := by
  rw [show M - 1 - k = M - (k + 1) from by omega, Int32.sub_eq_add_neg]
theorem dn6 {M k d : Nat} (hd : d < k) (hk : k < M) : nI (M - 1 - d) + -1 = nI (M - 1 - (d + 1)) := by
  rw [dn_dec (by omega)]
  congr 1
