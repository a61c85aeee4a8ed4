/-! the reference's copy -/
def cpyB (la lb i j n : Int32) : Bool := !decide (i < 0) && !decide (j < 0) && !decide (n < 0) && !decide (la.toInt64 < i.toInt64 + n.toInt64) && decide (j.toInt64 + n.toInt64 ≤ lb.toInt64)
def cpyU (g : Nat → Int32) (src dst : Nat) : Nat → Nat → Int32
  | 0 => g
  | k + 1 => upd (cpyU g src dst k) (dst + k) (cpyU g src dst k (src + k))
def cpyD (g : Nat → Int32) (src dst n : Nat) : Nat → Nat → Int32
  | 0 => g
  | k + 1 => upd (cpyD g src dst n k) (dst + (n - 1 - k)) (cpyD g src dst n k (src + (n - 1 - k)))
theorem cp_at {n k : Nat} (h : k < n) : nI n - 1 - nI k = nI (n - 1 - k) := by
  have e : n = (n - 1) + 1 := by omega
  rw [show nI n - 1 = nI (n - 1) from by rw [e, nI_pred]; rfl]
  exact pk_sub (by omega)
