/-! the reference: the harshest, the keenest, what is kept -/
def maxM (p : Nat → Bool) (f : Nat → Int32) : Nat → Int32
  | 0 => 0
  | n + 1 => if maxM p f n < (bif p n then f n else 0) then (bif p n then f n else 0) else maxM p f n
def aprM (f : Nat → Int32) (s : Nat) (M : Nat) : Int32 := sumI (fun v => bif wrgM f v s then 1 else -1) M
def absM (x : Int32) : Int32 := if x < 0 then -x else x
def keenM (f : Nat → Int32) (M : Nat) : Nat → Int32 × Int32
  | 0 => (-1000000, -1000000)
  | k + 1 => bif cntM f k && (decide ((keenM f M k).1 = -1000000) || decide (absM (aprM f k M) < (keenM f M k).2)) then (nI k, absM (aprM f k M)) else keenM f M k
def shW (g : Nat → Int32) (k : Nat) : Nat → Int32 := fun j => if j < k then g (j + 64) else g j
theorem shW_0 (g : Nat → Int32) : shW g 0 = g := by
  funext j
  simp [shW]
theorem shW_s (g : Nat → Int32) (k : Nat) : upd (shW g k) k (shW g k (k + 64)) = shW g (k + 1) := by
  funext j
  by_cases q : j = k
  · subst q
    have e2 : ¬ j + 64 < j := by omega
    simp [upd, shW, e2]
  · have e : j < k + 1 ↔ j < k := by omega
    simp [upd, shW, q, e]
def putW (g f : Nat → Int32) (K k : Nat) : Nat → Int32 := fun j => if 64 * K ≤ j ∧ j < 64 * K + k then f (j - 64 * K) else g j
theorem putW_0 (g f : Nat → Int32) (K : Nat) : putW g f K 0 = g := by
  funext j
  have : ¬ (64 * K ≤ j ∧ j < 64 * K + 0) := by omega
  simp only [putW, if_neg this]
theorem putW_s (g f : Nat → Int32) (K k : Nat) : upd (putW g f K k) (64 * K + k) (f k) = putW g f K (k + 1) := by
  funext j
  by_cases q : j = 64 * K + k
  · subst q
    simp [upd, putW]
  · have e : (64 * K ≤ j ∧ j < 64 * K + (k + 1)) ↔ (64 * K ≤ j ∧ j < 64 * K + k) := by omega
    simp [upd, putW, q, e]
def undF (g f : Nat → Int32) (K k : Nat) : Nat → Int32 := fun j => if j < k then g (64 * K + j) else f j
theorem undF_0 (g f : Nat → Int32) (K : Nat) : undF g f K 0 = f := by
  funext j
  simp [undF]
theorem undF_s (g f : Nat → Int32) (K k : Nat) : upd (undF g f K k) k (g (64 * K + k)) = undF g f K (k + 1) := by
  funext j
  by_cases q : j = k
  · subst q
    simp [upd, undF]
  · have e : j < k + 1 ↔ j < k := by omega
    simp [upd, undF, q, e]
def kpK (K : Nat) : Nat := if K = 24 then 23 else K
def kpB (g : Nat → Int32) (K : Nat) : Nat → Int32 := if K = 24 then shW g 1472 else g
/-- what keep leaves of what was kept -/
def kpW (g f : Nat → Int32) (K : Nat) : Nat → Int32 := putW (kpB g K) f (kpK K) 64
theorem kpK_lt {K : Nat} (h : K ≤ 24) : kpK K < 24 := by
  unfold kpK
  split <;> omega
/-- the votes of one let in, square by square -/
def capM (x : Int32) : Int32 := if 99 ≤ x then x else x + 1
def votR (f : Nat → Int32) (v : Nat) (set : Int32) : Nat → Nat → Int32
  | 0 => f
  | k + 1 => bif hasI set k && !cntM (votR f v set k) k then upd (votR f v set k) (4 + 5 * k + (bif clkR (votR f v set k) v k then 2 else 3)) (capM (votR f v set k (4 + 5 * k + (bif clkR (votR f v set k) v k then 2 else 3)))) else votR f v set k
theorem votR_lo (f : Nat → Int32) (v : Nat) (set : Int32) {j : Nat} (hj : j < 4) : ∀ k, votR f v set k j = f j
  | 0 => rfl
  | k + 1 => by
    unfold votR
    cases (hasI set k && !cntM (votR f v set k) k)
    · exact votR_lo f v set hj k
    · have h1 : ¬ j = 4 + 5 * k + (bif clkR (votR f v set k) v k then 2 else 3) := by omega
      exact (if_neg h1).trans (votR_lo f v set hj k)
/-- one more time asked, and let in b more times -/
def letF (g : Nat → Int32) (v : Nat) (b : Int32) : Nat → Int32 := upd (upd g (44 + 4 * v + 2) (g (44 + 4 * v + 2) + 1)) (44 + 4 * v + 3) (upd g (44 + 4 * v + 2) (g (44 + 4 * v + 2) + 1) (44 + 4 * v + 3) + b)
