/-! what the methods answer -/
def inR (n lo hi : Int32) : Bool := decide (lo ≤ n) && decide (n ≤ hi)
def inL (n lo hi : Int64) : Bool := decide (lo ≤ n) && decide (n ≤ hi)
/-- what one sees: by kind, share, care, ear -/
def seenI (kind share care ear : Int32) : Int32 := if kind = 2 then (if share = 0 then 0 else share - 1) else if kind = 3 then (if care < 5 then 9 - share else share) else if kind = 5 then (if 5 ≤ ear then share else 0) else share
def clkI (kind share care ear : Int32) : Bool := decide (9 - care < seenI kind share care ear)
/-- the reference's own: the same but for an edged share below 0 -/
def seenM (kind share care ear : Int32) : Int32 := if kind = 2 then (if 0 < share then share - 1 else 0) else if kind = 3 then (if care < 5 then 9 - share else share) else if kind = 5 then (if 5 ≤ ear then share else 0) else share
def clkM (kind share care ear : Int32) : Bool := decide (9 - care < seenM kind share care ear)
def ofK (kind wanted : Int32) : Bool := decide (wanted = 0) || decide (wanted = kind) || (decide (wanted = 1) && (decide (kind = 2) || decide (kind = 3))) || (decide (wanted = 4) && decide (kind = 5))
def hasI (set : Int32) (k : Nat) : Bool := decide ((set >>> (nI k &&& 31)) &&& 1 = 1)
/-- how many of the first n hold -/
def cntI (f : Nat → Bool) : Nat → Int32
  | 0 => 0
  | n + 1 => cntI f n + b2 (f n)
/-- the first n as bits -/
def bitsI (f : Nat → Bool) : Nat → Int32
  | 0 => 0
  | n + 1 => bitsI f n ||| (bif f n then 1 <<< (nI n &&& 31) else 0)
/-- sums of the first n -/
def sumI (f : Nat → Int32) : Nat → Int32
  | 0 => 0
  | n + 1 => sumI f n + f n
theorem lz_lt {k N : Nat} {x : Int32} (hx : x = nI N) (c : ¬ x ≤ nI k) (hk : k < 2 ^ 31) (hN : N < 2 ^ 31) : k < N := by
  rcases Nat.lt_or_ge k N with h | h
  · exact h
  · exact absurd (by rw [hx]; exact nI_le h hk) c
theorem lz_ge {k N : Nat} {x : Int32} (hx : x = nI N) (c : x ≤ nI k) (hk : k < 2 ^ 31) (hN : N < 2 ^ 31) : N ≤ k := by
  rw [hx] at c
  exact (nI_leI hN hk).mp c
theorem lg_lt (x y : Int64) : lg_cmp x y < 0 ↔ x < y := by
  unfold lg_cmp
  by_cases h1 : y < x
  · have h2 : ¬ x < y := by rw [fa_lt64] at *; omega
    simp [h1, h2]
  · by_cases h2 : x = y
    · subst h2
      simp [h1]
    · have h3 : x < y := by
        rw [fa_lt64] at *
        have := mt (fa_eq64 x y).mpr h2
        omega
      simp [h1, h2, h3]
theorem lg_gt (x y : Int64) : 0 < lg_cmp x y ↔ y < x := by
  unfold lg_cmp
  by_cases h1 : y < x
  · simp [h1]
  · by_cases h2 : x = y
    · subst h2
      simp [h1]
    · simp [h1, h2]
theorem inR_f1 {n lo hi : Int32} (h : n < lo) : inR n lo hi = false := by
  have : ¬ lo ≤ n := by rw [fa_lt] at h; rw [fa_le]; omega
  simp [inR, this]
theorem inR_f2 {n lo hi : Int32} (h : hi < n) : inR n lo hi = false := by
  have : ¬ n ≤ hi := by rw [fa_lt] at h; rw [fa_le]; omega
  simp [inR, this]
theorem inR_t {n lo hi : Int32} (h : ¬ n < lo) (h2 : ¬ hi < n) : inR n lo hi = true := by
  have h3 : lo ≤ n := by rw [fa_lt] at h; rw [fa_le]; omega
  have h4 : n ≤ hi := by rw [fa_lt] at h2; rw [fa_le]; omega
  simp [inR, h3, h4]
theorem inL_f1 {n lo hi : Int64} (h : n < lo) : inL n lo hi = false := by
  have : ¬ lo ≤ n := by rw [fa_lt64] at h; rw [fa_le64]; omega
  simp [inL, this]
theorem inL_f2 {n lo hi : Int64} (h : hi < n) : inL n lo hi = false := by
  have : ¬ n ≤ hi := by rw [fa_lt64] at h; rw [fa_le64]; omega
  simp [inL, this]
theorem inL_t {n lo hi : Int64} (h : ¬ n < lo) (h2 : ¬ hi < n) : inL n lo hi = true := by
  have h3 : lo ≤ n := by rw [fa_lt64] at h; rw [fa_le64]; omega
  have h4 : n ≤ hi := by rw [fa_lt64] at h2; rw [fa_le64]; omega
  simp [inL, h3, h4]
theorem inL_of (n lo hi : Int32) : inL n.toInt64 lo.toInt64 hi.toInt64 = inR n lo hi := by
  unfold inL inR
  simp only [fa_wide_le]
theorem b2_e {r q : Int32} {a b : Bool} (h : r = b2 a) (k : q = b2 b) : r = q ↔ a = b := by
  rw [h, k]
  cases a <;> cases b <;> decide
/-! the reference's row of a door, f -/
def cntM (f : Nat → Int32) (s : Nat) : Bool := decide (f (4 + 5 * s) < 4) || decide (0 < f (4 + 5 * s + 4))
def lampM (f : Nat → Int32) (s : Nat) : Bool := if f (4 + 5 * s + 4) = 0 then decide (f 0 ≤ f (4 + 5 * s + 1)) else decide (f (4 + 5 * s + 4) = 2)
def clkR (f : Nat → Int32) (v s : Nat) : Bool := clkM (f (4 + 5 * s)) (f (4 + 5 * s + 1)) (f (44 + 4 * v)) (f (44 + 4 * v + 1))
def wrgM (f : Nat → Int32) (v s : Nat) : Bool := cntM f s && (clkR f v s != lampM f s)
def wrgN (f : Nat → Int32) (v : Nat) (set : Int32) (N : Nat) : Int32 := cntI (fun s => hasI set s && wrgM f v s) N
/-! a door of the class: S its numbers, F its rows -/
def lzF (F : Nat → Nat → Int32) (k : Nat) (g : Nat → Int32) : Nat → Nat → Int32 := fun j => if j = k then g else F j
def lzDoor (G : lzG) (h : Nat) (q : Nat → Nat) (S : Nat → Int32) (F : Nat → Nat → Int32) : va_W := [(h, .inr (1, [.int (S 0), .int (S 1), .int (S 2), .int (S 3), .ref (q 4), .ref (q 5), .ref (q 6), .ref (q 7), .ref (q 8), .ref (q 9), .ref (q 10), .ref (q 11), .ref (q 12), .ref (q 13)])), (q 4, .inl (G.2 0, 8, .inl (F 4))), (q 5, .inl (G.2 0, 8, .inl (F 5))), (q 6, .inl (G.2 0, 8, .inl (F 6))), (q 7, .inl (G.2 0, 8, .inl (F 7))), (q 8, .inl (G.2 0, 8, .inl (F 8))), (q 9, .inl (G.2 0, 5, .inl (F 9))), (q 10, .inl (G.2 0, 5, .inl (F 10))), (q 11, .inl (G.2 0, 5, .inl (F 11))), (q 12, .inl (G.2 0, 5, .inl (F 12))), (q 13, .inl (G.2 0, 5, .inl (F 13)))]
def lzI (G : lzG) (a n : Nat) (f : Nat → Int32) : va_W := [(a, .inl (G.2 0, n, .inl f))]
def lzL (G : lzG) (a n : Nat) (f : Nat → Int64) : va_W := [(a, .inl (G.2 1, n, .inr (.inl f)))]
def lzZ (G : lzG) (a n : Nat) (f : Nat → Int32) : va_W := [(a, .inl (G.2 2, n, .inl f))]
def lzQ (G : lzG) (c a n : Nat) (f : Nat → Option Nat) : va_W := [(a, .inl (G.2 c, n, .inr (.inr (.inr (.inr f)))))]
def lzAc (h : Nat) (q : Nat → Nat) (S : Nat → Int32) : va_W := [(h, .inr (0, [.ref (q 0), .int (S 1), .int (S 2)]))]
def lzTp (h : Nat) (q : Nat → Nat) (S : Nat → Int32) : va_W := [(h, .inr (2, [.ref (q 0), .int (S 1), .int (S 2), .int (S 3)]))]
def lzX (h : Nat) (q : Nat → Nat) (S : Nat → Int32) : va_W := [(h, .inr (3, [.ref (q 0), .ref (q 1), .ref (q 2), .int (S 3), .ref (q 4), .int (S 5), .ref (q 6), .ref (q 7), .ref (q 8), .ref (q 9), .ref (q 10), .int (S 11), .ref (q 12)]))]
def lzM (h : Nat) (q : Nat → Nat) (S : Nat → Int32) : va_W := [(h, .inr (4, [.int (S 0), .int (S 1), .ref (q 2), .ref (q 3), .ref (q 4), .ref (q 5), .ref (q 6), .ref (q 7), .ref (q 8), .int (S 9), .ref (q 10), .int (S 11), .int (S 12), .int (S 13), .int (S 14), .int (S 15), .int (S 16), .int (S 17), .int (S 18), .ref (q 19), .ref (q 20), .ref (q 21), .ref (q 22), .int (S 23)]))]
def cntD (F : Nat → Nat → Int32) (s : Nat) : Bool := ofK (F 4 s) 1 || !decide (F 8 s = -1000000)
def lampD (S : Nat → Int32) (F : Nat → Nat → Int32) (s : Nat) : Bool := if F 8 s = -1000000 then decide (S 0 ≤ F 5 s) else decide (F 8 s = 1)
def clkD (F : Nat → Nat → Int32) (v s : Nat) : Bool := clkI (F 4 s) (F 5 s) (F 9 v) (F 10 v)
def wrbD (S : Nat → Int32) (F : Nat → Nat → Int32) (v N : Nat) : Int32 := (bitsI (clkD F v) N ^^^ bitsI (lampD S F) N) &&& bitsI (cntD F) N
/-- the JDK's own count of bits, as it is written there -/
def bcI (x : Int32) : Int32 :=
  let a := x - ((x.toUInt32 >>> ((1 : Int32).toUInt32 &&& Int32.toUInt32 31)).toInt32 &&& 1431655765)
  let b := (a &&& 858993459) + ((a.toUInt32 >>> ((2 : Int32).toUInt32 &&& Int32.toUInt32 31)).toInt32 &&& 858993459)
  let c := (b + (b.toUInt32 >>> ((4 : Int32).toUInt32 &&& Int32.toUInt32 31)).toInt32) &&& 252645135
  let d := c + (c.toUInt32 >>> ((8 : Int32).toUInt32 &&& Int32.toUInt32 31)).toInt32
  let e := d + (d.toUInt32 >>> ((16 : Int32).toUInt32 &&& Int32.toUInt32 31)).toInt32
  e &&& 63
def sizeB (set what : Int32) : Int32 := if what = 0 then (if set = -1000000 then set else bcI set) else set
/-- the greatest of those that count, 0 at least -/
def maxI (p : Nat → Bool) (f : Nat → Int32) : Nat → Int32
  | 0 => 0
  | n + 1 => bif p n then (if maxI p f n < f n then f n else maxI p f n) else maxI p f n
def absI (x : Int32) : Int32 := if 0 ≤ x then x else 0 - x
def diffD (S : Nat → Int32) (F : Nat → Nat → Int32) (s N M : Nat) : Int32 := absI (sumI (fun v => wrbD S F v N >>> (nI s &&& 31) &&& 1) M - (S 3 - sumI (fun v => wrbD S F v N >>> (nI s &&& 31) &&& 1) M))
def keenD (S : Nat → Int32) (F : Nat → Nat → Int32) (N M : Nat) : Nat → Int32 × Int32
  | 0 => (-1000000, 6)
  | k + 1 => bif cntD F k && decide (diffD S F k N M < (keenD S F N M k).2) then (nI k, diffD S F k N M) else keenD S F N M k
def alikeD (F : Nat → Nat → Int32) (v w : Nat) (set : Int32) (N : Nat) : Bool := decide (((bitsI (clkD F v) N ^^^ bitsI (clkD F w) N) &&& set) = 0)
def rowJ (p : Nat → Nat → Bool) (k d : Nat) : Int32 := cntI (fun z => p k (k + 1 + z)) d
def rowI (p : Nat → Nat → Bool) (M k : Nat) : Int32 := rowJ p k (M - (k + 1))
/-- r tells the first pair of the relation below M, or none -/
def firstR (p : Nat → Nat → Bool) (M : Nat) (r : Int32) : Prop :=
  (∃ a b : Nat, a < b ∧ b < M ∧ p a b = true ∧ r = nI (10 * a + b) ∧ (∀ x y : Nat, x < a → x < y → y < M → p x y = false) ∧ ∀ y : Nat, a < y → y < b → p a y = false) ∨ (r = -1000000 ∧ ∀ x y : Nat, x < M → x < y → y < M → p x y = false)
def allI (p : Nat → Bool) : Nat → Bool
  | 0 => true
  | n + 1 => allI p n && p n
theorem allI_f {p : Nat → Bool} {k : Nat} (hp : p k = false) : ∀ {n : Nat}, k < n → allI p n = false
  | 0, h => absurd h (Nat.not_lt_zero k)
  | n + 1, h => by
    rcases Nat.lt_or_ge k n with q | q
    · simp [allI, allI_f hp q]
    · obtain rfl : k = n := by omega
      simp [allI, hp]
theorem lg_e (x y : Int64) : lg_cmp x y = 0 ↔ x = y := by
  unfold lg_cmp
  by_cases h1 : y < x
  · have h2 : ¬ x = y := fun h => by subst h; rw [fa_lt64] at h1; omega
    simp [h1, h2]
  · by_cases h2 : x = y
    · simp [h1, h2]
    · simp [h1, h2]
def gstM (f : Nat → Int32) (set : Int32) (N M : Nat) : Int32 := bitsI (fun v => decide (wrgN f v set N ≤ f 1)) M
def bitM (set : Int32) : Int32 := sumI (fun z => set >>> (nI z &&& 31) &&& 1) 8
def subB (part whole : Int32) : Bool := decide (part &&& (whole ^^^ (-1)) = 0)
/-- the reference's search: the best of the first k sets -/
def fewM (f : Nat → Int32) (within want : Int32) (N M : Nat) : Nat → Int32
  | 0 => -1000000
  | k + 1 => bif subB (nI k) within && (decide (fewM f within want N M k = -1000000) || decide (bitM (nI k) < bitM (fewM f within want N M k))) && decide (gstM f (nI k) N M = want) then nI k else fewM f within want N M k
def kindB (x : Int32) : Int32 := if x = 107 then 1 else if x = 101 then 2 else if x = 99 then 3 else if x = 117 then 4 else if x = 104 then 5 else -1000000
def isOfM (kind of : Int32) : Bool := decide (of = 0) || decide (kind = of) || (decide (of = 1) && decide (kind < 4)) || (decide (of = 4) && decide (kind = 5))
def lowB (v lane : Int32) : Int32 := if lane = 0 then v.toInt8.toInt32 else if lane = 1 then v.toInt16.toInt32 else v
def powL : Nat → Int64
  | 0 => 1
  | n + 1 => powL n * 10
def low2 (u : Int64 × Int64) : Int64 × Int64 := if u.1 - u.1 / 2 * 2 = 0 then (if u.2 - u.2 / 2 * 2 = 0 then (u.1 / 2, u.2 / 2) else u) else u
def low5 (u : Int64 × Int64) : Int64 × Int64 := if u.1 - u.1 / 5 * 5 = 0 then (if u.2 - u.2 / 5 * 5 = 0 then (u.1 / 5, u.2 / 5) else u) else u
def lowL (top bot : Int64) : Nat → Int64 × Int64
  | 0 => (top, bot)
  | n + 1 => low5 (low2 (lowL top bot n))
/-- n items from i on are there, in a row of so many -/
def hasB (len i n : Int32) : Bool := !decide (i < 0) && !decide (n < 0) && decide (i.toInt64 + n.toInt64 ≤ len.toInt64)
