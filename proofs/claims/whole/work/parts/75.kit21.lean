/-! slips and draws of the reference -/
def ivX (k : Nat) : Int64 := if k = 0 then 1 else 0
def ivW (g : Nat → Int64) (k : Nat) : Nat → Int64 := fun j => if j < k then ivX j else g j
theorem ivW_0 (g : Nat → Int64) : ivW g 0 = g := by
  funext j
  exact if_neg (Nat.not_lt_zero _)
theorem ivW_s (g : Nat → Int64) (k : Nat) : vp_updL (ivW g k) k (ivX k) = ivW g (k + 1) := by
  funext j
  unfold vp_updL ivW
  by_cases e : j = k
  · subst e
    rw [if_pos rfl, if_pos (by omega)]
  · rw [if_neg e]
    have q : j < k ↔ j < k + 1 := by omega
    simp only [q]
theorem ivW_9 (g : Nat → Int64) (P : Nat) (cnt wr : Nat → Bool) : ivW g 9 = arrW g (csN P cnt wr 0) := by
  funext j
  unfold ivW arrW csN ivX
  split
  · by_cases e : j = 0
    · subst e; rfl
    · rw [if_neg e, if_neg e]; rfl
  · rfl
def pwN (cnt : Nat → Bool) : Nat → Nat
  | 0 => 1
  | s + 1 => bif cnt s then pwN cnt s * 10 else pwN cnt s
theorem pw_t {cnt : Nat → Bool} {s : Nat} (h : cnt s = true) : lN (pwN cnt s) * 10 = lN (pwN cnt (s + 1)) := by
  rw [show (10 : Int64) = lN 10 from rfl, lN_mul]
  show _ = lN (bif cnt s then _ else _)
  rw [h]
  rfl
theorem pw_f {cnt : Nat → Bool} {s : Nat} (h : cnt s = false) : pwN cnt s = pwN cnt (s + 1) := by
  show _ = bif cnt s then _ else _
  rw [h]
  rfl
theorem pw_le (cnt : Nat → Bool) : ∀ s : Nat, 0 < pwN cnt s ∧ pwN cnt s ≤ 10 ^ s
  | 0 => ⟨Nat.one_pos, Nat.le_refl _⟩
  | s + 1 => by
    have h := pw_le cnt s
    have e : 10 ^ (s + 1) = 10 ^ s * 10 := Nat.pow_succ ..
    unfold pwN
    cases cnt s <;> simp only [cond_true, cond_false] <;> omega
theorem wy_le {o : Nat} (ho : o ≤ 10) {w : Nat → Nat} {B : Nat} (h : ∀ k, w k ≤ B) (k : Nat) : wyN o w k ≤ B * 10 := by
  have key : ∀ a b : Nat, a ≤ B → b ≤ B → a * (10 - o) + b * o ≤ B * 10 := fun a b ha hb => by
    have h1 : a * (10 - o) ≤ B * (10 - o) := Nat.mul_le_mul_right _ ha
    have h2 : b * o ≤ B * o := Nat.mul_le_mul_right _ hb
    have h3 : B * (10 - o) + B * o = B * 10 := by rw [← Nat.mul_add]; congr 1; omega
    omega
  unfold wyN
  split
  · have := key (w 0) 0 (h 0) (Nat.zero_le _)
    omega
  · exact key _ _ (h k) (h (k - 1))
theorem cs_le {P : Nat} (hP : P ≤ 10) (cnt wr : Nat → Bool) : ∀ (s k : Nat), csN P cnt wr s k ≤ 10 ^ s
  | 0, k => by
    unfold csN
    split <;> decide
  | s + 1, k => by
    have h := cs_le hP cnt wr s
    have e : 10 ^ (s + 1) = 10 ^ s * 10 := Nat.pow_succ ..
    have e2 : csN P cnt wr (s + 1) = bif cnt s then wyN (odd P (wr s)) (csN P cnt wr s) else csN P cnt wr s := rfl
    rw [e2]
    cases cnt s
    · exact Nat.le_trans (h k) (by rw [e]; omega)
    · rw [e]
      exact wy_le (odd_le hP _) h k
theorem sum_le {w : Nat → Nat} {B : Nat} (h : ∀ k, w k ≤ B) : ∀ n : Nat, sumN w n ≤ n * B
  | 0 => by simp [sumN]
  | n + 1 => by
    have h1 := sum_le h n
    have h2 := h n
    rw [sumN, Nat.add_mul]
    omega
/-- the places from d on are done -/
def midM (g : Nat → Int64) (o : Nat) (w : Nat → Nat) (d : Nat) : Nat → Int64 := arrW g (fun k => if d ≤ k then wyN o w k else w k)
theorem midM_9 (g : Nat → Int64) (o : Nat) (w : Nat → Nat) : arrW g w = midM g o w 9 := by
  funext k
  unfold midM arrW
  split
  · next h => exact congrArg lN (if_neg (by omega)).symm
  · rfl
theorem midM_0 (g : Nat → Int64) (o : Nat) (w : Nat → Nat) : midM g o w 0 = arrW g (wyN o w) := by
  funext k
  unfold midM arrW
  split
  · next h => exact congrArg lN (if_pos (Nat.zero_le _))
  · rfl
theorem midM_at {g : Nat → Int64} {o : Nat} {w : Nat → Nat} {d k : Nat} (h : k < 9) (hk : k < d) : midM g o w d k = lN (w k) := by
  unfold midM arrW
  rw [if_pos h]
  exact congrArg lN (if_neg (by omega))
theorem midM_s {g : Nat → Int64} {o : Nat} {w : Nat → Nat} {d : Nat} {x : Int64} (h1 : 1 ≤ d) (h9 : d ≤ 9) (hx : x = lN (wyN o w (d - 1))) : vp_updL (midM g o w d) (d - 1) x = midM g o w (d - 1) := by
  subst hx
  funext k
  unfold vp_updL midM arrW
  by_cases e : k = d - 1
  · subst e
    rw [if_pos rfl, if_pos (by omega)]
    exact congrArg lN (if_pos (by omega)).symm
  · rw [if_neg e]
    split
    · have q : (d ≤ k) ↔ (d - 1 ≤ k) := by omega
      simp only [q]
    · rfl
theorem dn_one {d : Nat} (h : 1 ≤ d) : (nI d - 1 : Int32) = nI (d - 1) := pk_sub (b := 1) h
theorem dn_neg {d : Nat} (h9 : d ≤ 9) (h : nI d - 1 < 0) : d = 0 := by
  rcases Nat.eq_zero_or_pos d with q | q
  · exact q
  · rw [dn_one q] at h
    exact absurd h (nI_pos (by omega))
theorem dn_pos {d : Nat} (h : ¬ nI d - 1 < 0) : 1 ≤ d := by
  rcases Nat.eq_zero_or_pos d with q | q
  · subst q
    exact absurd (by decide) h
  · exact q
theorem sub_neg1 (x : Int32) : x + -1 = x - 1 := (Int32.sub_eq_add_neg x 1).symm
/-- one is asked, in the reference's row -/
def posB (f : Nat → Int32) (v : Nat) (set : Int32) (N : Nat) : Bool := decide (wrgN f v set N ≤ f 1)
def posR (f : Nat → Int32) (v : Nat) (set : Int32) (N : Nat) : Nat → Int32 := bif posB f v set N then letF (votR f v set N) v 1 else letF f v 0
def drmF (f : Nat → Int32) (sd N M : Nat) : Nat → Nat → Int32
  | 0 => f
  | k + 1 => posR (drmF f sd N M k) (drwV sd M k) (drwQ sd N k) N
def drmB (f : Nat → Int32) (sd N M k : Nat) : Bool := posB (drmF f sd N M k) (drwV sd M k) (drwQ sd N k) N
theorem letF_lo {g : Nat → Int32} {v j : Nat} {b : Int32} (hj : j < 4) : letF g v b j = g j := by
  unfold letF
  rw [upd_ne (by omega), upd_ne (by omega)]
theorem posR_lo {f : Nat → Int32} {v N j : Nat} {set : Int32} (hj : j < 4) : posR f v set N j = f j := by
  unfold posR
  cases posB f v set N
  · exact letF_lo hj
  · exact (letF_lo hj).trans (votR_lo f v set hj N)
theorem drmF_lo {f : Nat → Int32} {sd N M j : Nat} (hj : j < 4) : ∀ k, drmF f sd N M k j = f j
  | 0 => rfl
  | k + 1 => (posR_lo hj).trans (drmF_lo hj k)
theorem met_i {l : Launch} {y : MethodName} {wl : List Cond} {rm : Room} {Pc : Array Value → State → Prop} {G : lzG} {W1 W2 : va_W} {A : Nat → Prop} {mc ms : Nat} {fr : Addr → Prop} {p1 p2 : Int32 → Unit → Prop} (h : Met l y wl rm Pc (va_Qi (S := Unit) p1 (rwB G (fun _ => W1)) A) mc ms fr) (hw : W1 = W2) (hp : ∀ r u, p1 r u → p2 r u) : Met l y wl rm Pc (va_Qi (S := Unit) p2 (rwB G (fun _ => W2)) A) mc ms fr := by
  subst hw
  refine MetFree.mono h (fun _ _ q => q) (fun _ _ _ _ _ q => q) (fun a st o t _ q => ⟨?_, q.2⟩)
  obtain ⟨⟨r, u, e1, e2, e3⟩, hF⟩ := q.1
  exact ⟨⟨r, u, e1, hp r u e2, e3⟩, hF⟩
theorem slip_A {P N T : Nat} (hP : P ≤ 10) (hN : N ≤ 8) (hT : T ≤ 8) (cnt wr : Nat → Bool) : sumN (csN P cnt wr N) (T + 1) < 2 ^ 63 := by
  have h1 := sum_le (cs_le hP cnt wr N) (T + 1)
  have h2 : 10 ^ N ≤ 10 ^ 8 := Nat.pow_le_pow_right (by decide) hN
  have h3 : (T + 1) * 10 ^ N ≤ 9 * 10 ^ 8 := Nat.mul_le_mul (by omega) h2
  omega
theorem slip_B {N : Nat} (hN : N ≤ 8) (cnt : Nat → Bool) : pwN cnt N < 2 ^ 63 := by
  have h1 := (pw_le cnt N).2
  have h2 : 10 ^ N ≤ 10 ^ 8 := Nat.pow_le_pow_right (by decide) hN
  omega
