/-! small sets as numbers below 256 -/
def bN (p : Nat → Bool) : Nat → Nat
  | 0 => 0
  | n + 1 => bN p n ||| (bif p n then 2 ^ n else 0)
theorem bN_lt (p : Nat → Bool) : ∀ n, bN p n < 2 ^ n
  | 0 => Nat.zero_lt_one
  | n + 1 => by
    have h := bN_lt p n
    have e : 2 ^ n < 2 ^ (n + 1) := Nat.pow_lt_pow_right (by decide) (by omega)
    unfold bN
    refine Nat.or_lt_two_pow (by omega) ?_
    cases p n
    · exact Nat.two_pow_pos _
    · exact e
theorem bN_bit (p : Nat → Bool) : ∀ (n s : Nat), (bN p n).testBit s = (decide (s < n) && p s)
  | 0, s => by simp [bN]
  | n + 1, s => by
    have h := bN_bit p n s
    unfold bN
    rw [Nat.testBit_or, h]
    by_cases e : s = n
    · subst e
      cases hp : p s <;> simp [Nat.testBit_two_pow]
    · have q : s < n + 1 ↔ s < n := by omega
      have e2 : ¬ n = s := fun q => e q.symm
      cases hp : p n <;> simp [Nat.testBit_two_pow, q, e2]
theorem bits_nI (p : Nat → Bool) : ∀ {n : Nat}, n ≤ 8 → bitsI p n = nI (bN p n)
  | 0, _ => rfl
  | n + 1, h => by
    have ih := bits_nI p (n := n) (by omega)
    have e1 : ∀ k, k < 8 → (1 : Int32) <<< (nI k &&& 31) = nI (2 ^ k) := by decide +kernel
    unfold bitsI bN
    rw [ih]
    cases p n
    · exact fa_or _ 0
    · simp only [cond_true]
      rw [e1 n (by omega), fa_or]
theorem fa_xor (a b : Nat) : nI a ^^^ nI b = nI (a ^^^ b) := by
  apply Int32.toBitVec_inj.1
  show BitVec.ofNat 32 a ^^^ BitVec.ofNat 32 b = BitVec.ofNat 32 (a ^^^ b)
  apply BitVec.eq_of_getLsbD_eq
  intro i hi
  simp [hi]
theorem has_nat {k s : Nat} (hk : k < 256) (hs : s < 8) : hasI (nI k) s = k.testBit s := by
  have h9 : ∀ k, k < 256 → ∀ s, s < 8 → hasI (nI k) s = k.testBit s := by decide +kernel
  exact h9 k hk s hs
theorem bit1_nat {k s : Nat} (hk : k < 256) (hs : s < 8) : nI k >>> (nI s &&& 31) &&& 1 = b2 (k.testBit s) := by
  have h9 : ∀ k, k < 256 → ∀ s, s < 8 → nI k >>> (nI s &&& 31) &&& 1 = b2 (k.testBit s) := by decide +kernel
  exact h9 k hk s hs
theorem bc_nat {k : Nat} (hk : k < 256) : bcI (nI k) = cntI (fun s => k.testBit s) 8 := by
  have h9 : ∀ k, k < 256 → bcI (nI k) = cntI (fun s => k.testBit s) 8 := by decide +kernel
  exact h9 k hk
theorem bM_nat {k : Nat} (hk : k < 256) : bitM (nI k) = cntI (fun s => k.testBit s) 8 := by
  have h9 : ∀ k, k < 256 → bitM (nI k) = cntI (fun s => k.testBit s) 8 := by decide +kernel
  exact h9 k hk
theorem bc_lt {k : Nat} (hk : k < 256) : bcI (nI k) < 9 := by
  have h9 : ∀ k, k < 256 → bcI (nI k) < 9 := by decide +kernel
  exact h9 k hk
theorem cntI_cong {f g : Nat → Bool} : ∀ {n : Nat}, (∀ k, k < n → f k = g k) → cntI f n = cntI g n
  | 0, _ => rfl
  | n + 1, h => by rw [cntI, cntI, cntI_cong (fun k hk => h k (by omega)), h n (by omega)]
theorem sumI_cong {f g : Nat → Int32} : ∀ {n : Nat}, (∀ k, k < n → f k = g k) → sumI f n = sumI g n
  | 0, _ => rfl
  | n + 1, h => by rw [sumI, sumI, sumI_cong (fun k hk => h k (by omega)), h n (by omega)]
/-- beyond N none counts -/
theorem cntI_cut {f : Nat → Bool} {N : Nat} : ∀ {n : Nat}, N ≤ n → (∀ k, N ≤ k → k < n → f k = false) → cntI f n = cntI f N
  | 0, h, _ => by
    have e : N = 0 := by omega
    rw [e]
  | n + 1, h, hf => by
    by_cases e : N = n + 1
    · rw [e]
    · rw [cntI, cntI_cut (n := n) (by omega) (fun k h1 h2 => hf k h1 (by omega)), hf n (by omega) (by omega)]
      exact Int32.add_zero _
theorem two_256 {N : Nat} (h : N ≤ 8) : 2 ^ N ≤ 256 := Nat.pow_le_pow_right (by decide) h
theorem bN_256 (p : Nat → Bool) {N : Nat} (h : N ≤ 8) : bN p N < 256 := Nat.lt_of_lt_of_le (bN_lt p N) (two_256 h)
/-- how many of a set's members, told by the bits -/
theorem bc_bits {p : Nat → Bool} {N k : Nat} (hN : N ≤ 8) (hk : k < 256) : bcI (bitsI p N &&& nI k) = cntI (fun s => k.testBit s && p s) N := by
  rw [bits_nI p hN, fa_and, bc_nat (Nat.lt_of_le_of_lt Nat.and_le_right hk)]
  rw [cntI_cut (N := N) hN (fun s h1 h2 => by rw [Nat.testBit_and, bN_bit, decide_eq_false (by omega)]; rfl)]
  refine cntI_cong (fun s hs => ?_)
  rw [Nat.testBit_and, bN_bit, decide_eq_true hs, Bool.true_and, Bool.and_comm]
theorem bits_xor (p q : Nat → Bool) : ∀ {N : Nat}, N ≤ 8 → bitsI p N ^^^ bitsI q N = bitsI (fun s => p s != q s) N := by
  intro N hN
  rw [bits_nI p hN, bits_nI q hN, bits_nI _ hN, fa_xor]
  congr 1
  apply Nat.eq_of_testBit_eq
  intro i
  rw [Nat.testBit_xor, bN_bit, bN_bit, bN_bit]
  cases decide (i < N) <;> cases p i <;> cases q i <;> rfl
theorem bits_and (p q : Nat → Bool) : ∀ {N : Nat}, N ≤ 8 → bitsI p N &&& bitsI q N = bitsI (fun s => p s && q s) N := by
  intro N hN
  rw [bits_nI p hN, bits_nI q hN, bits_nI _ hN, fa_and]
  congr 1
  apply Nat.eq_of_testBit_eq
  intro i
  rw [Nat.testBit_and, bN_bit, bN_bit, bN_bit]
  cases decide (i < N) <;> cases p i <;> cases q i <;> rfl
/-- a set of told bits is a number -/
theorem set_nat {x set : Int32} {N : Nat} (hx : x = nI N) (hN : N ≤ 8) (h : inR set 0 ((1 <<< (x &&& 31)) - 1) = true) : ∃ k : Nat, k < 2 ^ N ∧ k < 256 ∧ set = nI k := by
  rw [all_sq hx hN] at h
  have h2 := two_256 hN
  have h3 := Nat.two_pow_pos N
  unfold inR at h
  simp only [Bool.and_eq_true, decide_eq_true_eq, fa_le] at h
  have h0 : (0 : Int32).toInt = 0 := by decide
  rw [h0, nI_toInt (by omega)] at h
  refine ⟨set.toInt.toNat, by omega, by omega, ?_⟩
  apply Int32.toInt_inj.mp
  rw [nI_toInt (by omega)]
  omega
/-- an index in range is a number -/
theorem idx_nat {x a : Int32} {N : Nat} (hx : x = nI N) (hN : N < 1000) (h : inR a 0 (x - 1) = true) : ∃ k : Nat, k < N ∧ a = nI k := by
  rw [hx] at h
  unfold inR at h
  simp only [Bool.and_eq_true, decide_eq_true_eq] at h
  obtain ⟨h1, h2⟩ := h
  have hn : ¬ a < 0 := Int32.not_lt.mpr h1
  obtain ⟨k, hk, rfl⟩ := nI_of hn
  refine ⟨k, ?_, rfl⟩
  have := inR_pos (p := k) (L := N) hk (by omega)
  unfold inR at this
  rw [decide_eq_true h1, decide_eq_true h2] at this
  exact of_decide_eq_true this.symm
