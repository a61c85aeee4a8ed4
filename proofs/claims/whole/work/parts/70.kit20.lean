/-! slips: in how many cases one is wrong so often; days by draws -/
def odd (P : Nat) (b : Bool) : Nat := bif b then 10 - P else P
def wyN (o : Nat) (w : Nat → Nat) : Nat → Nat := fun k => if k = 0 then w 0 * (10 - o) else w k * (10 - o) + w (k - 1) * o
def csN (P : Nat) (cnt wr : Nat → Bool) : Nat → Nat → Nat
  | 0 => fun k => if k = 0 then 1 else 0
  | s + 1 => bif cnt s then wyN (odd P (wr s)) (csN P cnt wr s) else csN P cnt wr s
def arrW (g : Nat → Int64) (w : Nat → Nat) : Nat → Int64 := fun k => if k < 9 then lN (w k) else g k
/-- half way: the places above t are done -/
def midW (g : Nat → Int64) (o : Nat) (w : Nat → Nat) (t : Nat) : Nat → Int64 := arrW g (fun k => if t < k then wyN o w k else w k)
theorem midW_8 (g : Nat → Int64) (o : Nat) (w : Nat → Nat) : midW g o w 8 = arrW g w := by
  funext k
  unfold midW arrW
  split
  · next h => exact congrArg lN (if_neg (by omega))
  · rfl
theorem midW_s {g : Nat → Int64} {o : Nat} {w : Nat → Nat} {t : Nat} {x : Int64} (h1 : 1 ≤ t) (h8 : t ≤ 8) (hx : x = lN (wyN o w t)) : vp_updL (midW g o w t) t x = midW g o w (t - 1) := by
  subst hx
  funext k
  unfold vp_updL midW arrW
  by_cases e : k = t
  · subst e
    rw [if_pos rfl, if_pos (by omega)]
    exact congrArg lN (if_pos (by omega)).symm
  · rw [if_neg e]
    split
    · have q : (t < k) ↔ (t - 1 < k) := by omega
      simp only [q]
    · rfl
theorem midW_0 {g : Nat → Int64} {o : Nat} {w : Nat → Nat} {x : Int64} (hx : x = lN (wyN o w 0)) : vp_updL (midW g o w 0) 0 x = arrW g (wyN o w) := by
  subst hx
  funext k
  unfold vp_updL midW arrW
  by_cases e : k = 0
  · subst e
    rw [if_pos rfl, if_pos (by omega)]
  · rw [if_neg e]
    split
    · exact congrArg lN (if_pos (by omega))
    · rfl
theorem midW_at {g : Nat → Int64} {o : Nat} {w : Nat → Nat} {t k : Nat} (h : k < 9) (hk : k ≤ t) : midW g o w t k = lN (w k) := by
  unfold midW arrW
  rw [if_pos h]
  exact congrArg lN (if_neg (by omega))
theorem fillL_succ (f g : Nat → Int64) (i : Nat) : vp_updL (fa_fill f g i) i (f i) = fa_fill f g (i + 1) := by
  funext k
  unfold vp_updL fa_fill
  by_cases e : k = i
  · subst e
    rw [if_pos rfl, if_pos (by omega)]
  · rw [if_neg e]
    have q : k < i ↔ k < i + 1 := by omega
    simp only [q]
theorem arrW_0 (g : Nat → Int64) (P : Nat) (cnt wr : Nat → Bool) : vp_updL (fa_fill (fun _ => 0) g 9) 0 1 = arrW g (csN P cnt wr 0) := by
  funext k
  unfold vp_updL fa_fill arrW csN
  by_cases e : k = 0
  · subst e
    rfl
  · rw [if_neg e, if_neg e]
    rfl
def sumN (w : Nat → Nat) : Nat → Nat
  | 0 => 0
  | k + 1 => sumN w k + w k
theorem odd_le {P : Nat} (h : P ≤ 10) (b : Bool) : odd P b ≤ 10 := by
  unfold odd
  cases b
  · exact h
  · exact Nat.sub_le _ _
theorem ten_sub {o : Nat} (h : o ≤ 10) : (10 - nI o).toInt64 = lN (10 - o) := by
  rw [show (10 : Int32) = nI 10 from rfl, pk_sub h, nI_l (by omega)]
theorem odd_l {o : Nat} (h : o ≤ 10) : (nI o).toInt64 = lN o := nI_l (by omega)
theorem wy_at {o : Nat} {w : Nat → Nat} {t : Nat} (h : o ≤ 10) (h1 : 1 ≤ t) : lN (w t) * (10 - nI o).toInt64 + lN (w (t - 1)) * (nI o).toInt64 = lN (wyN o w t) := by
  rw [ten_sub h, odd_l h, lN_mul, lN_mul, lN_add]
  unfold wyN
  rw [if_neg (by omega)]
theorem wy_0 {o : Nat} {w : Nat → Nat} (h : o ≤ 10) : lN (w 0) * (10 - nI o).toInt64 = lN (wyN o w 0) := by
  rw [ten_sub h, lN_mul]
  rfl
theorem cs_t {P : Nat} {cnt wr : Nat → Bool} {s : Nat} (h : cnt s = true) : wyN (odd P (wr s)) (csN P cnt wr s) = csN P cnt wr (s + 1) := by
  show _ = bif cnt s then _ else _
  rw [h]
  rfl
theorem cs_f {P : Nat} {cnt wr : Nat → Bool} {s : Nat} (h : cnt s = false) : csN P cnt wr s = csN P cnt wr (s + 1) := by
  show _ = bif cnt s then _ else _
  rw [h]
  rfl
/-- the draws -/
def lcgN (sd : Nat) : Nat → Nat
  | 0 => sd
  | k + 1 => lcgN sd k * 16807 % 2147483647
theorem lcgN_lt {sd : Nat} (h : sd < 2147483647) : ∀ k, lcgN sd k < 2147483647
  | 0 => h
  | k + 1 => Nat.mod_lt _ (by decide)
def drwV (sd M k : Nat) : Nat := lcgN sd (k + 1) % M
def drwQ (sd N k : Nat) : Int32 := nI (lcgN sd (k + 1) % 256) &&& nI (2 ^ N - 1)
def drwF (S : Nat → Int32) (F : Nat → Nat → Int32) (sd N M : Nat) : Nat → Nat → Nat → Int32
  | 0 => F
  | k + 1 => putF S (drwF S F sd N M k) (drwV sd M k) (drwQ sd N k) N
def drwB (S : Nat → Int32) (F : Nat → Nat → Int32) (sd N M k : Nat) : Bool := putB S (drwF S F sd N M k) (drwV sd M k) (drwQ sd N k) N
theorem lcg_s {sd k : Nat} (h : sd < 2147483647) : lN (lcgN sd k) * 16807 - lN (lcgN sd k) * 16807 / 2147483647 * 2147483647 = lN (lcgN sd (k + 1)) := by
  have h1 := lcgN_lt h k
  rw [show (16807 : Int64) = lN 16807 from rfl, show (2147483647 : Int64) = lN 2147483647 from rfl, lN_mul]
  exact pk_lRem (by omega) (by decide) (by decide)
theorem lcg_v {sd k M : Nat} {x : Int32} (h : sd < 2147483647) (hM0 : 0 < M) (hM5 : M ≤ 5) (hx : x = nI M) : (lN (lcgN sd (k + 1)) - lN (lcgN sd (k + 1)) / x.toInt64 * x.toInt64).toInt32 = nI (drwV sd M k) := by
  have h1 := lcgN_lt h (k + 1)
  rw [hx, nI_l (by omega), pk_lRem (by omega) hM0 (by omega), lN_i]
  rfl
theorem lcg_q {sd k : Nat} (h : sd < 2147483647) : (lN (lcgN sd (k + 1)) - lN (lcgN sd (k + 1)) / 256 * 256).toInt32 = nI (lcgN sd (k + 1) % 256) := by
  have h1 := lcgN_lt h (k + 1)
  rw [show (256 : Int64) = lN 256 from rfl, pk_lRem (by omega) (by decide) (by decide), lN_i]
