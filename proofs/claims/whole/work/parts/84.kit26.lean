/-! one is asked: the same on both sides -/
theorem and_not {k m : Nat} (hk : k < 256) : nI k &&& (nI m ^^^ (-1)) = nI (k &&& (m ^^^ 255)) := by
  have e1 : (-1 : Int32).toBitVec = BitVec.allOnes 32 := by decide
  apply Int32.toBitVec_inj.1
  rw [Int32.toBitVec_and, Int32.toBitVec_xor, e1]
  show BitVec.ofNat 32 k &&& (BitVec.ofNat 32 m ^^^ BitVec.allOnes 32) = BitVec.ofNat 32 (k &&& (m ^^^ 255))
  apply BitVec.eq_of_getLsbD_eq
  intro i hi
  rw [BitVec.getLsbD_and, BitVec.getLsbD_xor, BitVec.getLsbD_ofNat, BitVec.getLsbD_ofNat, BitVec.getLsbD_ofNat, BitVec.getLsbD_allOnes, Nat.testBit_and, Nat.testBit_xor]
  have e2 : (255 : Nat).testBit i = decide (i < 8) := Nat.testBit_two_pow_sub_one 8 i
  rw [e2]
  by_cases h8 : i < 8
  · simp [hi, h8]
  · have e3 : k.testBit i = false := Nat.testBit_lt_two_pow (Nat.lt_of_lt_of_le hk (show 2 ^ 8 ≤ 2 ^ i from Nat.pow_le_pow_right (by decide) (by omega)))
    simp [hi, e3]
theorem cap_eq {x : Int32} (h : inR x 0 99 = true) : capI x = capM x ∧ inR (capM x) 0 99 = true := by
  have e : ∃ n : Nat, n < 100 ∧ x = nI n := by
    unfold inR at h
    simp only [Bool.and_eq_true, decide_eq_true_eq, fa_le] at h
    have h0 : (0 : Int32).toInt = 0 := by decide
    have h2 : (99 : Int32).toInt = 99 := by decide
    rw [h0, h2] at h
    refine ⟨x.toInt.toNat, by omega, ?_⟩
    apply Int32.toInt_inj.mp
    rw [nI_toInt (by omega)]
    omega
  obtain ⟨n, hn, rfl⟩ := e
  have h9 : ∀ n, n < 100 → capI (nI n) = capM (nI n) ∧ inR (capM (nI n)) 0 99 = true := by decide +kernel
  exact h9 n hn
section VR
variable (f : Nat → Int32) (v : Nat) (set : Int32)
theorem votR_out : ∀ (k j : Nat), (∀ s : Nat, s < k → j ≠ 4 + 5 * s + 2 ∧ j ≠ 4 + 5 * s + 3) → votR f v set k j = f j
  | 0, _, _ => rfl
  | k + 1, j, h => by
    have ih := votR_out k j (fun s hs => h s (by omega))
    have hj := h k (by omega)
    unfold votR
    cases (hasI set k && !cntM (votR f v set k) k)
    · exact ih
    · simp only [cond_true]
      rw [upd_ne (by cases clkR (votR f v set k) v k <;> simp only [cond_true, cond_false] <;> omega)]
      exact ih
theorem votR_cnt {k : Nat} : cntM (votR f v set k) k = cntM f k := by
  unfold cntM
  rw [votR_out f v set k (4 + 5 * k) (fun s hs => by omega), votR_out f v set k (4 + 5 * k + 4) (fun s hs => by omega)]
theorem votR_clk {k : Nat} (hk : k < 8) : clkR (votR f v set k) v k = clkR f v k := by
  unfold clkR
  rw [votR_out f v set k (4 + 5 * k) (fun s hs => by omega), votR_out f v set k (4 + 5 * k + 1) (fun s hs => by omega), votR_out f v set k (44 + 4 * v) (fun s hs => by omega), votR_out f v set k (44 + 4 * v + 1) (fun s hs => by omega)]
theorem votR_in : ∀ (k : Nat), k ≤ 8 → ∀ s : Nat, s < k → (votR f v set k (4 + 5 * s + 2) = if hasI set s && !cntM f s && clkR f v s then capM (f (4 + 5 * s + 2)) else f (4 + 5 * s + 2)) ∧ (votR f v set k (4 + 5 * s + 3) = if hasI set s && !cntM f s && !clkR f v s then capM (f (4 + 5 * s + 3)) else f (4 + 5 * s + 3))
  | 0, _, s, hs => absurd hs (Nat.not_lt_zero s)
  | k + 1, hk, s, hs => by
    have ec := votR_cnt f v set (k := k)
    have ek := votR_clk f v set (k := k) (by omega)
    have e2 : votR f v set k (4 + 5 * k + 2) = f (4 + 5 * k + 2) := votR_out f v set k _ (fun s hs => by omega)
    have e3 : votR f v set k (4 + 5 * k + 3) = f (4 + 5 * k + 3) := votR_out f v set k _ (fun s hs => by omega)
    unfold votR
    rw [ec, ek]
    by_cases q : s = k
    · subst q
      cases hasI set s <;> cases cntM f s <;> cases clkR f v s <;> simp [upd, e2, e3]
    · have ih := votR_in k (by omega) s (by omega)
      cases (hasI set k && !cntM f k)
      · exact ih
      · simp only [cond_true]
        rw [upd_ne (by cases clkR f v k <;> simp only [cond_true, cond_false] <;> omega), upd_ne (by cases clkR f v k <;> simp only [cond_true, cond_false] <;> omega)]
        exact ih
end VR
theorem votS_at {g : Nat → Int32} {p : Nat → Bool} {N s : Nat} {b : Bool} (hs : s < N) (hp : p s = b) : votS g p N s = if b = true then capI (g s) else g s := by
  subst hp
  unfold votS
  simp [hs]
section RP
variable {N M : Nat} {D : Nat → Int32} {F : Nat → Nat → Int32} {f : Nat → Int32}
theorem rd_putB (h : relD N M D F f) {v k : Nat} (hv : v < M) (hk : k < 256) : putB D F v (nI k) N = posB f v (nI k) N := by
  unfold putB posB
  rw [rd_wrong h hv hk, h.1.2.1]
theorem let_2 {g : Nat → Int32} {v : Nat} {b : Int32} {j : Nat} (h1 : j ≠ 44 + 4 * v + 2) (h2 : j ≠ 44 + 4 * v + 3) : letF g v b j = g j := by
  unfold letF
  rw [upd_ne h2, upd_ne h1]
theorem let_at {g : Nat → Int32} {v : Nat} {b : Int32} : letF g v b (44 + 4 * v + 2) = g (44 + 4 * v + 2) + 1 ∧ letF g v b (44 + 4 * v + 3) = g (44 + 4 * v + 3) + b := by
  unfold letF
  constructor
  · rw [upd_ne (by omega), upd_eq]
  · rw [upd_eq, upd_ne (by omega)]
theorem rd_put (h : relD N M D F f) {v k : Nat} (hv : v < M) (hk : k < 256) : relD N M D (putF D F v (nI k) N) (posR f v (nI k) N) := by
  have hB := rd_putB h hv hk
  obtain ⟨a, b, c, d, e, g⟩ := h
  have h : relD N M D F f := ⟨a, b, c, d, e, g⟩
  have hN8 := b.2.2
  have hM5 := c.2.2
  have lo : ∀ j : Nat, j < 4 → posR f v (nI k) N j = f j := fun j hj => posR_lo hj
  refine ⟨⟨by rw [lo 0 (by decide)]; exact a.1, by rw [lo 1 (by decide)]; exact a.2.1, a.2.2⟩, ⟨b.1, by rw [lo 2 (by decide)]; exact b.2.1, hN8⟩, ⟨c.1, by rw [lo 3 (by decide)]; exact c.2.1, hM5⟩, fun s hs => ?_, fun w hw => ?_, by rw [lo 0 (by decide)]; exact g⟩
  · obtain ⟨s1, s2, s3, s4, s5, s6, s7, s8, s9⟩ := d s hs
    unfold putF posR
    rw [hB]
    cases posB f v (nI k) N
    · simp only [cond_false]
      have e0 : ∀ j, j < 44 → letF f v 0 j = f j := fun j hj => let_2 (by omega) (by omega)
      refine ⟨?_, ?_, ?_, ?_, ?_, s6, s7, s8, s9⟩
      · rw [e0 _ (by omega)]; exact s1
      · rw [e0 _ (by omega)]; exact s2
      · rw [e0 _ (by omega)]; exact s3
      · rw [e0 _ (by omega)]; exact s4
      · rw [e0 _ (by omega)]; exact s5
    · simp only [cond_true]
      have e0 : ∀ j, j < 44 → letF (votR f v (nI k) N) v 1 j = votR f v (nI k) N j := fun j hj => let_2 (by omega) (by omega)
      have eo : ∀ j, (∀ s : Nat, s < N → j ≠ 4 + 5 * s + 2 ∧ j ≠ 4 + 5 * s + 3) → votR f v (nI k) N j = f j := fun j hj => votR_out f v (nI k) N j hj
      obtain ⟨v2, v3⟩ := votR_in f v (nI k) N hN8 s hs
      have hc := rd_cnt h hs
      have hck := rd_clk h hs hv
      have hset : hasI (nI k &&& (bitsI (cntD F) N ^^^ (-1))) s = (hasI (nI k) s && !cntM f s) := by
        rw [bits_nI _ hN8, and_not hk, has_nat (Nat.lt_of_le_of_lt Nat.and_le_left hk) (by omega), has_nat hk (by omega), Nat.testBit_and, Nat.testBit_xor, bN_bit, decide_eq_true hs, Bool.true_and, hc, show (255 : Nat).testBit s = decide (s < 8) from Nat.testBit_two_pow_sub_one 8 s, decide_eq_true (show s < 8 by omega), Bool.xor_true]
      have hclk : hasI (bitsI (clkD F v) N) s = clkR f v s := by
        rw [bits_nI _ hN8, has_nat (bN_256 _ hN8) (by omega), bN_bit, decide_eq_true hs, Bool.true_and, hck]
      obtain ⟨p6, q6⟩ := cap_eq s8
      obtain ⟨p7, q7⟩ := cap_eq s9
      have g6 : votF (lzF (lzF F 11 (upd (F 11) v (F 11 v + 1))) 12 (upd (F 12) v (F 12 v + 1))) (nI k &&& (bitsI (cntD F) N ^^^ (-1))) (bitsI (clkD F v) N) N 6 s = if hasI (nI k) s && !cntM f s && clkR f v s then capM (F 6 s) else F 6 s := by
        show votS (F 6) (fun z => hasI (nI k &&& (bitsI (cntD F) N ^^^ (-1))) z && hasI (bitsI (clkD F v) N) z) N s = _
        rw [votS_at hs (b := hasI (nI k) s && !cntM f s && clkR f v s) (by rw [hset, hclk]), p6]
      have g7 : votF (lzF (lzF F 11 (upd (F 11) v (F 11 v + 1))) 12 (upd (F 12) v (F 12 v + 1))) (nI k &&& (bitsI (cntD F) N ^^^ (-1))) (bitsI (clkD F v) N) N 7 s = if hasI (nI k) s && !cntM f s && !clkR f v s then capM (F 7 s) else F 7 s := by
        show votS (F 7) (fun z => hasI (nI k &&& (bitsI (cntD F) N ^^^ (-1))) z && !hasI (bitsI (clkD F v) N) z) N s = _
        rw [votS_at hs (b := hasI (nI k) s && !cntM f s && !clkR f v s) (by rw [hset, hclk]), p7]
      refine ⟨?_, ?_, ?_, ?_, ?_, s6, s7, ?_, ?_⟩
      · rw [e0 _ (by omega), eo _ (fun t ht => by omega)]; exact s1
      · rw [e0 _ (by omega), eo _ (fun t ht => by omega)]; exact s2
      · rw [e0 _ (by omega), v2, g6, s3]
      · rw [e0 _ (by omega), v3, g7, s4]
      · rw [e0 _ (by omega), eo _ (fun t ht => by omega)]; exact s5
      · rw [g6]
        split
        · exact q6
        · exact s8
      · rw [g7]
        split
        · exact q7
        · exact s9
  · obtain ⟨w1, w2, w3, w4⟩ := e w hw
    have eo : ∀ j, 44 ≤ j → votR f v (nI k) N j = f j := fun j hj => votR_out f v (nI k) N j (fun t ht => by omega)
    unfold putF posR
    rw [hB]
    cases posB f v (nI k) N
    · simp only [cond_false]
      have h11 : lzF F 11 (upd (F 11) v (F 11 v + 1)) 11 w = if w = v then F 11 v + 1 else F 11 w := rfl
      refine ⟨?_, ?_, ?_, ?_⟩
      · rw [let_2 (by omega) (by omega)]; exact w1
      · rw [let_2 (by omega) (by omega)]; exact w2
      · rw [h11]
        by_cases q : w = v
        · subst q
          rw [if_pos rfl, let_at.1, w3]
        · rw [if_neg q, let_2 (by omega) (by omega), w3]
      · show F 12 w = _
        by_cases q : w = v
        · subst q
          rw [let_at.2, w4, Int32.add_zero]
        · rw [let_2 (by omega) (by omega), w4]
    · simp only [cond_true]
      have h11 : votF (lzF (lzF F 11 (upd (F 11) v (F 11 v + 1))) 12 (upd (F 12) v (F 12 v + 1))) (nI k &&& (bitsI (cntD F) N ^^^ (-1))) (bitsI (clkD F v) N) N 11 w = if w = v then F 11 v + 1 else F 11 w := rfl
      have h12 : votF (lzF (lzF F 11 (upd (F 11) v (F 11 v + 1))) 12 (upd (F 12) v (F 12 v + 1))) (nI k &&& (bitsI (cntD F) N ^^^ (-1))) (bitsI (clkD F v) N) N 12 w = if w = v then F 12 v + 1 else F 12 w := rfl
      refine ⟨?_, ?_, ?_, ?_⟩
      · rw [let_2 (by omega) (by omega), eo _ (by omega)]; exact w1
      · rw [let_2 (by omega) (by omega), eo _ (by omega)]; exact w2
      · rw [h11]
        by_cases q : w = v
        · subst q
          rw [if_pos rfl, let_at.1, eo _ (by omega), w3]
        · rw [if_neg q, let_2 (by omega) (by omega), eo _ (by omega), w3]
      · rw [h12]
        by_cases q : w = v
        · subst q
          rw [if_pos rfl, let_at.2, eo _ (by omega), w4]
        · rw [if_neg q, let_2 (by omega) (by omega), eo _ (by omega), w4]
end RP
