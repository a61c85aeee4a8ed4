/-! the law's cases -/
theorem jw_free {A : Nat → Prop} {ws : va_W} (hD : va_D A ws) : ∀ q, lzA ws q → A q := fun q ⟨k, x, h⟩ => hD.2 k (q, x) h
theorem xw_fst {G : lzG} {ad : Nat → Nat → Nat → Nat} (u u2 : lzSx) : (XWs G ad u).map Prod.fst = (XWs G ad u2).map Prod.fst := by
  unfold XWs XW xwL mapI
  simp only [List.flatten_cons, List.flatten_nil, List.append_nil, List.map_append, List.map_flatMap]
  rw [ring_fst u.2.2.2.2.1 u2.2.2.2.2.1 u.2.2.2.2.2.1 (RF' := u2.2.2.2.2.2.1)]
  rfl
theorem mw_fst {G : lzG} {ad : Nat → Nat → Nat → Nat} (v v2 : lzSm) : (MWs G ad v).map Prod.fst = (MWs G ad v2).map Prod.fst := rfl
theorem jw_D {G : lzG} {ad : Nat → Nat → Nat → Nat} {A : Nat → Prop} {w : lzSx × lzSm} (w2 : lzSx × lzSm) (hD : va_D A (JW G ad w)) : va_D A (JW G ad w2) := by
  refine va_D_fst ?_ hD
  unfold JW
  rw [List.map_append, List.map_append, xw_fst w.1 w2.1, mw_fst w.2 w2.2]
theorem law_if {i L : Nat} (hi : i < 1000) (hL : L ≤ 384) : (nI L - 6 < nI i) ↔ L < i + 6 := by
  rcases Nat.lt_or_ge L 6 with q | q
  · have h9 : ∀ L, L < 6 → (nI L - 6).toInt < 0 := by decide +kernel
    have h8 := h9 L q
    rw [fa_lt, nI_toInt (by omega)]
    constructor
    · intro; omega
    · intro; omega
  · rw [show (6 : Int32) = nI 6 from rfl, pk_sub q, nI_ltI (by omega) (by omega)]
    omega
