/-! slips: both sides' fractions in lowest terms -/
theorem csN_cong {P : Nat} {c c2 w w2 : Nat → Bool} : ∀ {n : Nat}, (∀ s, s < n → c s = c2 s ∧ (c s = true → w s = w2 s)) → csN P c w n = csN P c2 w2 n
  | 0, _ => rfl
  | n + 1, h => by
    have ih := csN_cong (P := P) (n := n) (fun s hs => h s (by omega))
    obtain ⟨h1, h2⟩ := h n (by omega)
    show (bif c n then wyN (odd P (w n)) (csN P c w n) else csN P c w n) = (bif c2 n then wyN (odd P (w2 n)) (csN P c2 w2 n) else csN P c2 w2 n)
    rw [← h1, ih]
    cases hc : c n
    · rfl
    · rw [h2 hc]
theorem csN_cut {P N : Nat} {c w : Nat → Bool} : ∀ {n : Nat}, N ≤ n → (∀ s, N ≤ s → s < n → c s = false) → csN P c w n = csN P c w N
  | 0, h, _ => by
    have e : N = 0 := by omega
    rw [e]
  | n + 1, h, hf => by
    by_cases e : N = n + 1
    · rw [e]
    · show (bif c n then wyN (odd P (w n)) (csN P c w n) else csN P c w n) = _
      rw [hf n (by omega) (by omega)]
      exact csN_cut (n := n) (by omega) (fun s h1 h2 => hf s h1 (by omega))
theorem pw_ten (c : Nat → Bool) : ∀ n, pwN c n = 10 ^ cntN c n
  | 0 => rfl
  | n + 1 => by
    unfold pwN cntN
    rw [pw_ten c n]
    cases c n
    · rfl
    · simp only [cond_true]
      rw [Nat.pow_succ]
theorem powL_ten : ∀ {e : Nat}, powL e = lN (10 ^ e)
  | 0 => rfl
  | e + 1 => by
    unfold powL
    rw [powL_ten, show (10 : Int64) = lN 10 from rfl, lN_mul, Nat.pow_succ]
/-- one step down, in numbers -/
def lw2 (u : Nat × Nat) : Nat × Nat := if u.1 % 2 = 0 ∧ u.2 % 2 = 0 then (u.1 / 2, u.2 / 2) else u
def lw5 (u : Nat × Nat) : Nat × Nat := if u.1 % 5 = 0 ∧ u.2 % 5 = 0 then (u.1 / 5, u.2 / 5) else u
def lwN (a b : Nat) : Nat → Nat × Nat
  | 0 => (a, b)
  | n + 1 => lw5 (lw2 (lwN a b n))
theorem lw2_le (u : Nat × Nat) : (lw2 u).1 ≤ u.1 ∧ (lw2 u).2 ≤ u.2 := by
  unfold lw2
  split
  · exact ⟨Nat.div_le_self _ _, Nat.div_le_self _ _⟩
  · exact ⟨Nat.le_refl _, Nat.le_refl _⟩
theorem lw5_le (u : Nat × Nat) : (lw5 u).1 ≤ u.1 ∧ (lw5 u).2 ≤ u.2 := by
  unfold lw5
  split
  · exact ⟨Nat.div_le_self _ _, Nat.div_le_self _ _⟩
  · exact ⟨Nat.le_refl _, Nat.le_refl _⟩
theorem lwN_le (a b : Nat) : ∀ n, (lwN a b n).1 ≤ a ∧ (lwN a b n).2 ≤ b
  | 0 => ⟨Nat.le_refl _, Nat.le_refl _⟩
  | n + 1 => by
    have h := lwN_le a b n
    have h2 := lw2_le (lwN a b n)
    have h5 := lw5_le (lw2 (lwN a b n))
    unfold lwN
    omega
theorem rem_l {a k : Nat} (ha : a < 2 ^ 63) (hk : 0 < k) (hk2 : k < 100) : lN a - lN a / lN k * lN k = 0 ↔ a % k = 0 := by
  rw [pk_lRem ha hk (by omega), show (0 : Int64) = lN 0 from rfl]
  exact pk_lEQ (by have := Nat.mod_lt a hk; omega) (by decide)
theorem low2_n {a b : Nat} (ha : a < 2 ^ 63) (hb : b < 2 ^ 63) : low2 (lN a, lN b) = (lN (lw2 (a, b)).1, lN (lw2 (a, b)).2) := by
  have e1 : (lN a - lN a / 2 * 2 = 0) = (a % 2 = 0) := propext (rem_l ha (by decide) (by decide))
  have e2 : (lN b - lN b / 2 * 2 = 0) = (b % 2 = 0) := propext (rem_l hb (by decide) (by decide))
  have d1 : lN a / 2 = lN (a / 2) := pk_lDiv ha (by decide) (by decide)
  have d2 : lN b / 2 = lN (b / 2) := pk_lDiv hb (by decide) (by decide)
  rw [d1] at e1
  rw [d2] at e2
  unfold low2 lw2
  simp only [d1, d2, e1, e2]
  by_cases h1 : a % 2 = 0 <;> by_cases h2 : b % 2 = 0 <;> simp [h1, h2]
theorem low5_n {a b : Nat} (ha : a < 2 ^ 63) (hb : b < 2 ^ 63) : low5 (lN a, lN b) = (lN (lw5 (a, b)).1, lN (lw5 (a, b)).2) := by
  have e1 : (lN a - lN a / 5 * 5 = 0) = (a % 5 = 0) := propext (rem_l ha (by decide) (by decide))
  have e2 : (lN b - lN b / 5 * 5 = 0) = (b % 5 = 0) := propext (rem_l hb (by decide) (by decide))
  have d1 : lN a / 5 = lN (a / 5) := pk_lDiv ha (by decide) (by decide)
  have d2 : lN b / 5 = lN (b / 5) := pk_lDiv hb (by decide) (by decide)
  rw [d1] at e1
  rw [d2] at e2
  unfold low5 lw5
  simp only [d1, d2, e1, e2]
  by_cases h1 : a % 5 = 0 <;> by_cases h2 : b % 5 = 0 <;> simp [h1, h2]
theorem lowL_n {a b : Nat} (ha : a < 2 ^ 63) (hb : b < 2 ^ 63) : ∀ n, lowL (lN a) (lN b) n = (lN (lwN a b n).1, lN (lwN a b n).2)
  | 0 => rfl
  | n + 1 => by
    obtain ⟨h1, h2⟩ := lwN_le a b n
    obtain ⟨h3, h4⟩ := lw2_le (lwN a b n)
    unfold lowL lwN
    have g1 : (lwN a b n).1 < 2 ^ 63 := Nat.lt_of_le_of_lt h1 ha
    have g2 : (lwN a b n).2 < 2 ^ 63 := Nat.lt_of_le_of_lt h2 hb
    rw [lowL_n ha hb n, low2_n g1 g2]
    exact low5_n (Nat.lt_of_le_of_lt h3 g1) (Nat.lt_of_le_of_lt h4 g2)
theorem cop_2 {a : Nat} (h : ¬ a % 2 = 0) : Nat.gcd a 2 = 1 := by
  rw [Nat.gcd_comm, Nat.gcd_rec, show a % 2 = 1 by omega]
  exact Nat.gcd_one_left 2
theorem cop_5 {a : Nat} (h : ¬ a % 5 = 0) : Nat.gcd a 5 = 1 := by
  have h9 : ∀ r, r < 5 → ¬ r = 0 → Nat.gcd r 5 = 1 := by decide
  rw [Nat.gcd_comm, Nat.gcd_rec]
  exact h9 (a % 5) (Nat.mod_lt _ (by decide)) h
theorem cop_pow {a p : Nat} (h : Nat.gcd a p = 1) : ∀ (i m : Nat), Nat.gcd a (p ^ i * m) = Nat.gcd a m
  | 0, m => by rw [Nat.pow_zero, Nat.one_mul]
  | i + 1, m => by
    rw [Nat.pow_succ, Nat.mul_assoc, cop_pow h i (p * m)]
    exact Nat.Coprime.gcd_mul_left_cancel_right m (show Nat.Coprime p a from (Nat.gcd_comm p a).trans h)
/-- what n steps down leave -/
theorem lwN_inv {a i j : Nat} : ∀ n : Nat, ∃ c i2 j2 : Nat, 0 < c ∧ a = (lwN a (2 ^ i * 5 ^ j) n).1 * c ∧ 2 ^ i * 5 ^ j = (lwN a (2 ^ i * 5 ^ j) n).2 * c ∧ (lwN a (2 ^ i * 5 ^ j) n).2 = 2 ^ i2 * 5 ^ j2 ∧ (i2 + n ≤ i ∨ i2 = 0 ∨ ¬ (lwN a (2 ^ i * 5 ^ j) n).1 % 2 = 0) ∧ (j2 + n ≤ j ∨ j2 = 0 ∨ ¬ (lwN a (2 ^ i * 5 ^ j) n).1 % 5 = 0)
  | 0 => ⟨1, i, j, by decide, (Nat.mul_one _).symm, (Nat.mul_one _).symm, rfl, Or.inl (Nat.le_refl _), Or.inl (Nat.le_refl _)⟩
  | n + 1 => by
    obtain ⟨c, i2, j2, hc, h1, h2, h3, h4, h5⟩ := lwN_inv (a := a) (i := i) (j := j) n
    rw [show lwN a (2 ^ i * 5 ^ j) (n + 1) = lw5 (lw2 (lwN a (2 ^ i * 5 ^ j) n)) from rfl]
    generalize lwN a (2 ^ i * 5 ^ j) n = u at h1 h2 h3 h4 h5 ⊢
    have step2 : ∃ c' i3 : Nat, 0 < c' ∧ a = (lw2 u).1 * c' ∧ 2 ^ i * 5 ^ j = (lw2 u).2 * c' ∧ (lw2 u).2 = 2 ^ i3 * 5 ^ j2 ∧ (i3 + (n + 1) ≤ i ∨ i3 = 0 ∨ ¬ (lw2 u).1 % 2 = 0) ∧ (j2 + n ≤ j ∨ j2 = 0 ∨ ¬ (lw2 u).1 % 5 = 0) := by
      unfold lw2
      split
      · next hq =>
        obtain ⟨q1, q2⟩ := hq
        have e1 : u.1 = u.1 / 2 * 2 := by omega
        have e2 : u.2 = u.2 / 2 * 2 := by omega
        have hi : i2 ≠ 0 := by
          intro h0
          rw [h0, Nat.pow_zero, Nat.one_mul] at h3
          have : ∀ j, 5 ^ j % 2 = 1 := fun j => by
            induction j with
            | zero => rfl
            | succ j ih => rw [Nat.pow_succ]; omega
          have := this j2
          omega
        refine ⟨c * 2, i2 - 1, by omega, ?_, ?_, ?_, ?_, ?_⟩
        · show a = u.1 / 2 * (c * 2)
          rw [Nat.mul_comm c 2, ← Nat.mul_assoc, ← e1]
          exact h1
        · show 2 ^ i * 5 ^ j = u.2 / 2 * (c * 2)
          rw [Nat.mul_comm c 2, ← Nat.mul_assoc, ← e2]
          exact h2
        · show u.2 / 2 = 2 ^ (i2 - 1) * 5 ^ j2
          rw [h3, show (2 : Nat) ^ i2 = 2 ^ (i2 - 1) * 2 from by rw [← Nat.pow_succ]; congr 1; omega, Nat.mul_right_comm, Nat.mul_div_cancel _ (by decide)]
        · rcases h4 with h | h | h
          · exact Or.inl (by omega)
          · exact absurd h hi
          · exact absurd q1 h
        · rcases h5 with h | h | h
          · exact Or.inl h
          · exact Or.inr (Or.inl h)
          · refine Or.inr (Or.inr ?_)
            show ¬ u.1 / 2 % 5 = 0
            omega
      · next hq =>
        refine ⟨c, i2, hc, h1, h2, h3, ?_, h5⟩
        by_cases q1 : u.1 % 2 = 0
        · have q2 : ¬ u.2 % 2 = 0 := fun q => hq ⟨q1, q⟩
          refine Or.inr (Or.inl ?_)
          rcases Nat.eq_zero_or_pos i2 with h0 | h0
          · exact h0
          · refine absurd ?_ q2
            rw [h3, show i2 = (i2 - 1) + 1 by omega, Nat.pow_succ, Nat.mul_right_comm]
            exact Nat.mul_mod_left _ _
        · exact Or.inr (Or.inr q1)
    obtain ⟨c1, i3, k0, k1, k2, k3, k4, k5⟩ := step2
    show ∃ c i2 j2 : Nat, 0 < c ∧ a = (lw5 (lw2 u)).1 * c ∧ 2 ^ i * 5 ^ j = (lw5 (lw2 u)).2 * c ∧ (lw5 (lw2 u)).2 = 2 ^ i2 * 5 ^ j2 ∧ (i2 + (n + 1) ≤ i ∨ i2 = 0 ∨ ¬ (lw5 (lw2 u)).1 % 2 = 0) ∧ (j2 + (n + 1) ≤ j ∨ j2 = 0 ∨ ¬ (lw5 (lw2 u)).1 % 5 = 0)
    generalize lw2 u = v at k1 k2 k3 k4 k5 ⊢
    unfold lw5
    split
    · next hq =>
      obtain ⟨q1, q2⟩ := hq
      have e1 : v.1 = v.1 / 5 * 5 := by omega
      have e2 : v.2 = v.2 / 5 * 5 := by omega
      have hj : j2 ≠ 0 := by
        intro h0
        rw [h0, Nat.pow_zero, Nat.mul_one] at k3
        have : ∀ i, ¬ 2 ^ i % 5 = 0 := fun i => by
          induction i with
          | zero => decide
          | succ i ih => rw [Nat.pow_succ]; omega
        exact this i3 (by omega)
      refine ⟨c1 * 5, i3, j2 - 1, by omega, ?_, ?_, ?_, ?_, ?_⟩
      · show a = v.1 / 5 * (c1 * 5)
        rw [Nat.mul_comm c1 5, ← Nat.mul_assoc, ← e1]
        exact k1
      · show 2 ^ i * 5 ^ j = v.2 / 5 * (c1 * 5)
        rw [Nat.mul_comm c1 5, ← Nat.mul_assoc, ← e2]
        exact k2
      · show v.2 / 5 = 2 ^ i3 * 5 ^ (j2 - 1)
        rw [k3, show (5 : Nat) ^ j2 = 5 ^ (j2 - 1) * 5 from by rw [← Nat.pow_succ]; congr 1; omega, ← Nat.mul_assoc, Nat.mul_div_cancel _ (by decide)]
      · rcases k4 with h | h | h
        · exact Or.inl h
        · exact Or.inr (Or.inl h)
        · refine Or.inr (Or.inr ?_)
          show ¬ v.1 / 5 % 2 = 0
          omega
      · rcases k5 with h | h | h
        · exact Or.inl (by omega)
        · exact absurd h hj
        · exact absurd q1 h
    · next hq =>
      refine ⟨c1, i3, j2, k0, k1, k2, k3, k4, ?_⟩
      by_cases q1 : v.1 % 5 = 0
      · have q2 : ¬ v.2 % 5 = 0 := fun q => hq ⟨q1, q⟩
        refine Or.inr (Or.inl ?_)
        rcases Nat.eq_zero_or_pos j2 with h0 | h0
        · exact h0
        · refine absurd ?_ q2
          rw [k3, show j2 = (j2 - 1) + 1 by omega, Nat.pow_succ, ← Nat.mul_assoc]
          exact Nat.mul_mod_left _ _
      · exact Or.inr (Or.inr q1)
/-- lowest terms, for a power of ten that small -/
theorem low_ten {a e : Nat} (ha : a < 2 ^ 63) (he : e ≤ 8) : lowL (lN a) (powL e) 8 = (lN (a / Nat.gcd a (10 ^ e)), lN (10 ^ e / Nat.gcd a (10 ^ e))) := by
  have hb : 10 ^ e < 2 ^ 63 := Nat.lt_of_le_of_lt (Nat.pow_le_pow_right (by decide) he) (by decide)
  have e10 : (10 : Nat) ^ e = 2 ^ e * 5 ^ e := by rw [← Nat.mul_pow]
  rw [powL_ten, lowL_n ha hb]
  rw [e10]
  obtain ⟨c, i2, j2, hc, h1, h2, h3, h4, h5⟩ := lwN_inv (a := a) (i := e) (j := e) 8
  generalize lwN a (2 ^ e * 5 ^ e) 8 = u at h1 h2 h3 h4 h5
  have g2 : ∀ m, Nat.gcd u.1 (2 ^ i2 * m) = Nat.gcd u.1 m := fun m => by
    by_cases q : i2 = 0
    · rw [q, Nat.pow_zero, Nat.one_mul]
    · have q2 : ¬ u.1 % 2 = 0 := by
        rcases h4 with h | h | h
        · omega
        · exact absurd h q
        · exact h
      exact cop_pow (cop_2 q2) i2 m
  have g5 : Nat.gcd u.1 (5 ^ j2) = 1 := by
    by_cases q : j2 = 0
    · rw [q, Nat.pow_zero, Nat.gcd_one_right]
    · have q2 : ¬ u.1 % 5 = 0 := by
        rcases h5 with h | h | h
        · omega
        · exact absurd h q
        · exact h
      have := cop_pow (cop_5 q2) j2 1
      rw [Nat.mul_one, Nat.gcd_one_right] at this
      exact this
  have g1 : Nat.gcd u.1 u.2 = 1 := by rw [h3, g2, g5]
  have gg : Nat.gcd a (2 ^ e * 5 ^ e) = c := by
    rw [h2]
    conv => lhs; arg 1; rw [h1]
    rw [Nat.gcd_mul_right, g1, Nat.one_mul]
  rw [gg]
  refine Prod.ext ?_ ?_
  · show lN u.1 = lN (a / c)
    conv => rhs; rw [h1]
    rw [Nat.mul_div_cancel _ hc]
  · show lN u.2 = lN (2 ^ e * 5 ^ e / c)
    rw [h2, Nat.mul_div_cancel _ hc]
