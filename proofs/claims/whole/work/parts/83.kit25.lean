/-! the keenest, the pairs: the same on both sides -/
def cntN (p : Nat → Bool) : Nat → Nat
  | 0 => 0
  | n + 1 => cntN p n + (bif p n then 1 else 0)
theorem cntN_le (p : Nat → Bool) : ∀ n, cntN p n ≤ n
  | 0 => Nat.le_refl 0
  | n + 1 => by
    have := cntN_le p n
    unfold cntN
    cases p n <;> simp only [cond_true, cond_false] <;> omega
theorem sum_cnt (p : Nat → Bool) : ∀ n, sumI (fun v => b2 (p v)) n = nI (cntN p n)
  | 0 => rfl
  | n + 1 => by
    unfold sumI cntN
    rw [sum_cnt p n]
    cases p n
    · exact Int32.add_zero _
    · exact nI_1 _
theorem sum_apart (p : Nat → Bool) : ∀ n, sumI (fun v => bif p v then 1 else -1) n = nI (cntN p n) - (nI n - nI (cntN p n))
  | 0 => by
    show (0 : Int32) = nI 0 - (nI 0 - nI 0)
    decide
  | n + 1 => by
    unfold sumI cntN
    rw [sum_apart p n]
    cases p n
    · simp only [cond_false, Nat.add_zero]
      rw [nI_succ n]
      grind
    · simp only [cond_true]
      rw [nI_succ n, nI_succ (cntN p n)]
      grind
theorem abs_eq (x : Int32) : absI x = absM x := by
  unfold absI absM
  by_cases h : 0 ≤ x
  · rw [if_pos h, if_neg (Int32.not_lt.mpr h)]
  · rw [if_neg h, if_pos (Int32.not_le.mp h), Int32.zero_sub]
section RK
variable {N M : Nat} {D : Nat → Int32} {F : Nat → Nat → Int32} {f : Nat → Int32}
theorem rd_diff (h : relD N M D F f) {s : Nat} (hs : s < N) : diffD D F s N M = absM (aprM f s M) ∧ absM (aprM f s M) < 6 ∧ ¬ absM (aprM f s M) = -1000000 := by
  have hN := (rd_hN h).2.2
  obtain ⟨hM, -, hM5⟩ := rd_hM h
  have e1 : sumI (fun v => wrbD D F v N >>> (nI s &&& 31) &&& 1) M = nI (cntN (fun v => wrgM f v s) M) := by
    rw [← sum_cnt]
    refine sumI_cong (fun v hv => ?_)
    rw [rd_wrb h hv, bits_nI _ hN, bit1_nat (bN_256 _ hN) (by omega), bN_bit, decide_eq_true hs, Bool.true_and]
  have e2 : aprM f s M = nI (cntN (fun v => wrgM f v s) M) - (nI M - nI (cntN (fun v => wrgM f v s) M)) := sum_apart _ _
  have h9 : ∀ M, M < 6 → ∀ c, c < 6 → c ≤ M → absM (nI c - (nI M - nI c)) < 6 ∧ ¬ absM (nI c - (nI M - nI c)) = -1000000 := by decide +kernel
  have h8 := h9 M (by omega) (cntN (fun v => wrgM f v s) M) (by have := cntN_le (fun v => wrgM f v s) M; omega) (cntN_le _ _)
  unfold diffD
  rw [e1, e2, abs_eq, hM]
  exact ⟨rfl, h8⟩
theorem rd_keen (h : relD N M D F f) : ∀ {k : Nat}, k ≤ N → (keenD D F N M k).1 = (keenM f M k).1 ∧ (((keenM f M k).1 = -1000000 ∧ (keenD D F N M k).2 = 6 ∧ (keenM f M k).2 = -1000000) ∨ (¬ (keenM f M k).1 = -1000000 ∧ (keenD D F N M k).2 = (keenM f M k).2))
  | 0, _ => ⟨rfl, Or.inl ⟨rfl, rfl, rfl⟩⟩
  | k + 1, hk => by
    obtain ⟨i1, i2⟩ := rd_keen h (k := k) (by omega)
    obtain ⟨d1, d2, -⟩ := rd_diff h (s := k) (by omega)
    have hN := (rd_hN h).2.2
    have e : (cntD F k && decide (diffD D F k N M < (keenD D F N M k).2)) = (cntM f k && (decide ((keenM f M k).1 = -1000000) || decide (absM (aprM f k M) < (keenM f M k).2))) := by
      rw [d1, rd_cnt h (by omega)]
      rcases i2 with ⟨j1, j2, j3⟩ | ⟨j1, j2⟩
      · rw [j1, j2, decide_eq_true d2]
        rfl
      · rw [j2, decide_eq_false j1, Bool.false_or]
    unfold keenD keenM
    rw [e]
    cases (cntM f k && (decide ((keenM f M k).1 = -1000000) || decide (absM (aprM f k M) < (keenM f M k).2)))
    · exact ⟨i1, i2⟩
    · refine ⟨rfl, Or.inr ⟨nI_none (by omega), d1⟩⟩
end RK
theorem cnt_head (g : Nat → Bool) : ∀ n, cntI g (n + 1) = b2 (g 0) + cntI (fun k => g (k + 1)) n
  | 0 => by
    show (0 : Int32) + b2 (g 0) = b2 (g 0) + 0
    rw [Int32.zero_add, Int32.add_zero]
  | n + 1 => by
    rw [cntI, cnt_head g n, Int32.add_assoc]
    rfl
theorem sum_head (g : Nat → Int32) : ∀ n, sumI g (n + 1) = g 0 + sumI (fun k => g (k + 1)) n
  | 0 => by
    show (0 : Int32) + g 0 = g 0 + 0
    rw [Int32.zero_add, Int32.add_zero]
  | n + 1 => by
    rw [sumI, sum_head g n, Int32.add_assoc]
    rfl
theorem cnt_rev (g : Nat → Bool) : ∀ n, cntI (fun d => g (n - 1 - d)) n = cntI g n
  | 0 => rfl
  | n + 1 => by
    rw [cnt_head]
    show b2 (g (n + 1 - 1 - 0)) + cntI (fun k => g (n + 1 - 1 - (k + 1))) n = cntI g n + b2 (g n)
    rw [show n + 1 - 1 - 0 = n by omega, show (fun k => g (n + 1 - 1 - (k + 1))) = (fun k => g (n - 1 - k)) from funext (fun k => by congr 1; omega), cnt_rev g n, Int32.add_comm]
theorem sum_rev (g : Nat → Int32) : ∀ n, sumI (fun d => g (n - 1 - d)) n = sumI g n
  | 0 => rfl
  | n + 1 => by
    rw [sum_head]
    show g (n + 1 - 1 - 0) + sumI (fun k => g (n + 1 - 1 - (k + 1))) n = sumI g n + g n
    rw [show n + 1 - 1 - 0 = n by omega, show (fun k => g (n + 1 - 1 - (k + 1))) = (fun k => g (n - 1 - k)) from funext (fun k => by congr 1; omega), sum_rev g n, Int32.add_comm]
/-- how many pairs the reference tells apart -/
theorem tls_1 (f : Nat → Int32) (set : Int32) (N M : Nat) (z : Int32 × Int32) (a : Nat) : ∀ d, (tlsJ f set N M z a d).1 = z.1 + cntI (fun d => !alkM f a (M - 1 - d) set N) d
  | 0 => (Int32.add_zero _).symm
  | d + 1 => by
    unfold tlsJ cntI
    have ih := tls_1 f set N M z a d
    cases alkM f a (M - 1 - d) set N
    · simp only [cond_false, Bool.not_false]
      rw [ih, Int32.add_assoc]
      rfl
    · simp only [cond_true, Bool.not_true]
      rw [ih]
      show _ = z.1 + (_ + 0)
      rw [Int32.add_zero]
theorem tls_2 (f : Nat → Int32) (set : Int32) (N M : Nat) : ∀ k, (tlsK f set N M k).1 = sumI (fun k => cntI (fun d => !alkM f (M - 1 - k) (M - 1 - d) set N) k) k
  | 0 => rfl
  | k + 1 => by
    unfold tlsK sumI
    rw [tls_1, tls_2 f set N M k]
theorem tls_sum (f : Nat → Int32) (set : Int32) (N M : Nat) : (tlsK f set N M M).1 = sumI (rowI (fun v w => !alkM f v w set N) M) M := by
  rw [tls_2, ← sum_rev (rowI (fun v w => !alkM f v w set N) M)]
  refine sumI_cong (fun k hk => ?_)
  show cntI (fun d => !alkM f (M - 1 - k) (M - 1 - d) set N) k = cntI (fun z => !alkM f (M - 1 - k) (M - 1 - k + 1 + z) set N) (M - (M - 1 - k + 1))
  rw [show M - (M - 1 - k + 1) = k by omega, ← cnt_rev (fun z => !alkM f (M - 1 - k) (M - 1 - k + 1 + z) set N) k]
  refine cntI_cong (fun d hd => ?_)
  show _ = !alkM f (M - 1 - k) (M - 1 - k + 1 + (k - 1 - d)) set N
  rw [show M - 1 - k + 1 + (k - 1 - d) = M - 1 - d by omega]
/-- the first pair among those whose lesser is at least A, B (of the row A itself: whose greater is at least B) -/
def fstP (p : Nat → Nat → Bool) (M A B : Nat) (r : Int32) : Prop := (r = -1000000 ∧ ∀ x y : Nat, x < y → y < M → (A < x ∨ (x = A ∧ B ≤ y)) → p x y = false) ∨ ∃ a b : Nat, a < b ∧ b < M ∧ (A < a ∨ (a = A ∧ B ≤ b)) ∧ p a b = true ∧ r = nI (10 * a + b) ∧ ∀ x y : Nat, x < y → y < M → (A < x ∨ (x = A ∧ B ≤ y)) → (x < a ∨ (x = a ∧ y < b)) → p x y = false
theorem tls_J (f : Nat → Int32) (set : Int32) (N M : Nat) (z : Int32 × Int32) (a k : Nat) (hk : k = M - 1 - a) (ha : a < M) (h0 : fstP (fun v w => alkM f v w set N) M a M z.2) : ∀ d, d ≤ k → fstP (fun v w => alkM f v w set N) M a (M - d) (tlsJ f set N M z a d).2
  | 0, _ => by
    rw [Nat.sub_zero]
    exact h0
  | d + 1, hd => by
    have ih := tls_J f set N M z a k hk ha h0 d (by omega)
    have e : M - (d + 1) = M - 1 - d := by omega
    rw [e]
    unfold tlsJ
    cases hq : alkM f a (M - 1 - d) set N
    · simp only [cond_false]
      rcases ih with ⟨i1, i2⟩ | ⟨a1, b1, j1, j2, j3, j4, j5, j6⟩
      · refine Or.inl ⟨i1, fun x y hx hy hc => ?_⟩
        by_cases g : x = a ∧ y = M - 1 - d
        · rw [g.1, g.2]; exact hq
        · exact i2 x y hx hy (by omega)
      · refine Or.inr ⟨a1, b1, j1, j2, by omega, j4, j5, fun x y hx hy hc hl => ?_⟩
        by_cases g : x = a ∧ y = M - 1 - d
        · rw [g.1, g.2]; exact hq
        · exact j6 x y hx hy (by omega) hl
    · simp only [cond_true]
      exact Or.inr ⟨a, M - 1 - d, by omega, by omega, Or.inr ⟨rfl, Nat.le_refl _⟩, hq, rfl, fun x y hx hy hc hl => by omega⟩
theorem tls_K (f : Nat → Int32) (set : Int32) (N M : Nat) : ∀ k, k ≤ M → (k = 0 → (tlsK f set N M k).2 = -1000000) ∧ (0 < k → fstP (fun v w => alkM f v w set N) M (M - k) (M - k + 1) (tlsK f set N M k).2)
  | 0, _ => ⟨fun _ => rfl, fun h => absurd h (Nat.lt_irrefl 0)⟩
  | k + 1, hk => by
    refine ⟨fun h => absurd h (Nat.succ_ne_zero k), fun _ => ?_⟩
    obtain ⟨i1, i2⟩ := tls_K f set N M k (by omega)
    have e : M - (k + 1) = M - 1 - k := by omega
    have h0 : fstP (fun v w => alkM f v w set N) M (M - 1 - k) M (tlsK f set N M k).2 := by
      rcases Nat.eq_zero_or_pos k with q | q
      · exact Or.inl ⟨i1 q, fun x y hx hy hc => by omega⟩
      · rcases i2 q with ⟨j1, j2⟩ | ⟨a1, b1, j1, j2, j3, j4, j5, j6⟩
        · exact Or.inl ⟨j1, fun x y hx hy hc => j2 x y hx hy (by omega)⟩
        · exact Or.inr ⟨a1, b1, j1, j2, by omega, j4, j5, fun x y hx hy hc hl => j6 x y hx hy (by omega) hl⟩
    have h1 := tls_J f set N M (tlsK f set N M k) (M - 1 - k) k (by omega) (by omega) h0 k (Nat.le_refl k)
    rw [e, show M - 1 - k + 1 = M - k by omega]
    exact h1
theorem tls_first {f : Nat → Int32} {set : Int32} {N M : Nat} {r : Int32} (h : firstR (fun v w => alkM f v w set N) M r) : r = (tlsK f set N M M).2 := by
  obtain ⟨i1, i2⟩ := tls_K f set N M M (Nat.le_refl M)
  rcases Nat.eq_zero_or_pos M with q | q
  · rw [i1 q]
    rcases h with ⟨a, b, h1, h2, -⟩ | ⟨h1, -⟩
    · omega
    · exact h1
  · have i3 := i2 q
    rw [Nat.sub_self] at i3
    rcases h with ⟨a, b, h1, h2, h3, h4, h5, h6⟩ | ⟨h1, h2⟩
    · rcases i3 with ⟨j1, j2⟩ | ⟨a1, b1, j1, j2, j3, j4, j5, j6⟩
      · exact Bool.noConfusion (h3.symm.trans (j2 a b h1 h2 (by omega)))
      · rw [h4, j5]
        have g1 : ¬ (a < a1 ∨ (a = a1 ∧ b < b1)) := fun g => Bool.noConfusion (h3.symm.trans (j6 a b h1 h2 (by omega) g))
        have g2 : ¬ a1 < a := fun g => Bool.noConfusion (j4.symm.trans (h5 a1 b1 g j1 j2))
        have e : a1 = a := by omega
        subst e
        have g3 : ¬ b1 < b := fun g => Bool.noConfusion (j4.symm.trans (h6 b1 j1 g))
        have e2 : b1 = b := by omega
        rw [e2]
    · rcases i3 with ⟨j1, j2⟩ | ⟨a1, b1, j1, j2, j3, j4, j5, j6⟩
      · rw [h1, j1]
      · exact Bool.noConfusion (j4.symm.trans (h2 a1 b1 (by omega) j1 j2))
