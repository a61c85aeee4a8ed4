/-! a door of the class and a row of the reference -/
def setR (a b : Int32) : Prop := (a = -1000000 ∧ b = 0) ∨ (a = 0 ∧ b = 1) ∨ (a = 1 ∧ b = 2)
def sqR (F : Nat → Nat → Int32) (f : Nat → Int32) (s : Nat) : Prop := F 4 s = f (4 + 5 * s) ∧ F 5 s = f (4 + 5 * s + 1) ∧ F 6 s = f (4 + 5 * s + 2) ∧ F 7 s = f (4 + 5 * s + 3) ∧ setR (F 8 s) (f (4 + 5 * s + 4)) ∧ (∃ k : Nat, 1 ≤ k ∧ k ≤ 5 ∧ F 4 s = nI k) ∧ inR (F 5 s) 0 9 = true ∧ inR (F 6 s) 0 99 = true ∧ inR (F 7 s) 0 99 = true
def viR (F : Nat → Nat → Int32) (f : Nat → Int32) (v : Nat) : Prop := F 9 v = f (44 + 4 * v) ∧ F 10 v = f (44 + 4 * v + 1) ∧ F 11 v = f (44 + 4 * v + 2) ∧ F 12 v = f (44 + 4 * v + 3)
def relD (N M : Nat) (D : Nat → Int32) (F : Nat → Nat → Int32) (f : Nat → Int32) : Prop := (D 0 = f 0 ∧ D 1 = f 1 ∧ ∃ T : Nat, T ≤ 8 ∧ D 1 = nI T) ∧ (D 2 = nI N ∧ f 2 = nI N ∧ N ≤ 8) ∧ (D 3 = nI M ∧ f 3 = nI M ∧ M ≤ 5) ∧ (∀ s : Nat, s < N → sqR F f s) ∧ (∀ v : Nat, v < M → viR F f v) ∧ ((0 < f 0 ∧ 0 < N ∧ 0 < M) ∨ (f 0 = 0 ∧ N = 0 ∧ M = 0))
section RD
variable {N M : Nat} {D : Nat → Int32} {F : Nat → Nat → Int32} {f : Nat → Int32}
theorem rd_hN (h : relD N M D F f) : D 2 = nI N ∧ f 2 = nI N ∧ N ≤ 8 := h.2.1
theorem rd_hM (h : relD N M D F f) : D 3 = nI M ∧ f 3 = nI M ∧ M ≤ 5 := h.2.2.1
theorem rd_sq (h : relD N M D F f) {s : Nat} (hs : s < N) : sqR F f s := h.2.2.2.1 s hs
theorem rd_vi (h : relD N M D F f) {v : Nat} (hv : v < M) : viR F f v := h.2.2.2.2.1 v hv
theorem seen_eq {kind share care ear : Int32} (h : inR share 0 9 = true) : seenI kind share care ear = seenM kind share care ear := by
  unfold seenI seenM
  have h0 : 0 ≤ share := by
    unfold inR at h
    simp only [Bool.and_eq_true, decide_eq_true_eq] at h
    exact h.1
  by_cases hk : kind = 2
  · rw [if_pos hk, if_pos hk]
    by_cases hs : share = 0
    · subst hs
      rfl
    · have hp : 0 < share := fa_le_ne h0 (fun q => hs q.symm)
      rw [if_neg hs, if_pos hp]
  · rw [if_neg hk, if_neg hk]
theorem clk_eq {kind share care ear : Int32} (h : inR share 0 9 = true) : clkI kind share care ear = clkM kind share care ear := by
  unfold clkI clkM
  rw [seen_eq h]
theorem rd_clk (h : relD N M D F f) {s v : Nat} (hs : s < N) (hv : v < M) : clkD F v s = clkR f v s := by
  obtain ⟨a1, a2, -, -, -, -, a7, -, -⟩ := rd_sq h hs
  obtain ⟨b1, b2, -, -⟩ := rd_vi h hv
  unfold clkD clkR
  rw [clk_eq a7, a1, a2, b1, b2]
theorem rd_cnt (h : relD N M D F f) {s : Nat} (hs : s < N) : cntD F s = cntM f s := by
  obtain ⟨a1, -, -, -, a5, ⟨k, k1, k5, ak⟩, -, -, -⟩ := rd_sq h hs
  have e1 : ofK (F 4 s) 1 = decide (f (4 + 5 * s) < 4) := by
    rw [← a1, ak]
    have h9 : ∀ k, k < 6 → 1 ≤ k → ofK (nI k) 1 = decide (nI k < 4) := by decide +kernel
    exact h9 k (by omega) k1
  have e2 : (!decide (F 8 s = -1000000)) = decide (0 < f (4 + 5 * s + 4)) := by
    rcases a5 with ⟨p, q⟩ | ⟨p, q⟩ | ⟨p, q⟩ <;> rw [p, q] <;> decide
  unfold cntD cntM
  rw [e1, e2]
theorem rd_lamp (h : relD N M D F f) {s : Nat} (hs : s < N) : lampD D F s = lampM f s := by
  obtain ⟨-, a2, -, -, a5, -, -, -, -⟩ := rd_sq h hs
  unfold lampD lampM
  rw [h.1.1, a2]
  rcases a5 with ⟨p, q⟩ | ⟨p, q⟩ | ⟨p, q⟩ <;> rw [p, q]
  · rw [if_pos rfl, if_pos rfl]
  · rw [if_neg (by decide), if_neg (by decide)]; decide
  · rw [if_neg (by decide), if_neg (by decide)]; decide
theorem rd_clkB (h : relD N M D F f) {v : Nat} (hv : v < M) : bitsI (clkD F v) N = bitsI (clkR f v) N := bitsI_cong (fun s hs => rd_clk h hs hv)
theorem rd_cntB (h : relD N M D F f) : bitsI (cntD F) N = bitsI (cntM f) N := bitsI_cong (fun s hs => rd_cnt h hs)
theorem rd_wrb (h : relD N M D F f) {v : Nat} (hv : v < M) : wrbD D F v N = bitsI (wrgM f v) N := by
  have hN := (rd_hN h).2.2
  unfold wrbD
  rw [bits_xor _ _ hN, bits_and _ _ hN]
  refine bitsI_cong (fun s hs => ?_)
  unfold wrgM
  rw [rd_clk h hs hv, rd_lamp h hs, rd_cnt h hs, Bool.and_comm]
theorem rd_wrong (h : relD N M D F f) {v k : Nat} (hv : v < M) (hk : k < 256) : bcI (wrbD D F v N &&& nI k) = wrgN f v (nI k) N := by
  have hN := (rd_hN h).2.2
  rw [rd_wrb h hv, bc_bits hN hk]
  unfold wrgN
  refine cntI_cong (fun s hs => ?_)
  rw [has_nat hk (by omega)]
theorem rd_gst (h : relD N M D F f) {k : Nat} (hk : k < 256) : gstD D F (nI k) N M = gstM f (nI k) N M := by
  unfold gstD gstM
  refine bitsI_cong (fun v hv => ?_)
  rw [rd_wrong h hv hk, h.1.2.1]
theorem nI_none {k : Nat} (hk : k < 256) : ¬ nI k = -1000000 := by
  have h9 : ∀ k, k < 256 → ¬ nI k = -1000000 := by decide +kernel
  exact h9 k hk
theorem bM_bc {k : Nat} (hk : k < 256) : bitM (nI k) = bcI (nI k) := (bM_nat hk).trans (bc_nat hk).symm
/-- the search: what both hold behind k sets -/
theorem rd_few (h : relD N M D F f) (O want : Int32) : ∀ k : Nat, k ≤ 256 → (fewD D F O want N M k).1 = fewM f O want N M k ∧ ((fewM f O want N M k = -1000000 ∧ (fewD D F O want N M k).2 = 9) ∨ ∃ j : Nat, j < 256 ∧ fewM f O want N M k = nI j ∧ (fewD D F O want N M k).2 = bitM (nI j))
  | 0, _ => ⟨rfl, Or.inl ⟨rfl, rfl⟩⟩
  | k + 1, hk => by
    obtain ⟨i1, i2⟩ := rd_few h O want k (by omega)
    have hk2 : k < 256 := by omega
    have e : (subB (nI k) O && decide (bcI (nI k) < (fewD D F O want N M k).2) && decide (gstD D F (nI k) N M = want)) = (subB (nI k) O && (decide (fewM f O want N M k = -1000000) || decide (bitM (nI k) < bitM (fewM f O want N M k))) && decide (gstM f (nI k) N M = want)) := by
      rw [rd_gst h hk2]
      rcases i2 with ⟨j1, j2⟩ | ⟨j, j0, j1, j2⟩
      · rw [j1, j2, decide_eq_true (bc_lt hk2)]
        rfl
      · rw [j1, j2, decide_eq_false (nI_none j0), Bool.false_or, bM_bc hk2]
    unfold fewD fewM
    rw [e]
    cases (subB (nI k) O && (decide (fewM f O want N M k = -1000000) || decide (bitM (nI k) < bitM (fewM f O want N M k))) && decide (gstM f (nI k) N M = want))
    · exact ⟨i1, i2⟩
    · exact ⟨rfl, Or.inr ⟨k, hk2, rfl, (bM_bc hk2).symm⟩⟩
/-- the harshest -/
theorem rd_max (h : relD N M D F f) {a b : Nat} (hb : b < 256) : ∀ {n : Nat}, n ≤ M → 0 ≤ maxM (fun v => hasI (nI a) v) (fun v => wrgN f v (nI b) N) n ∧ maxI (fun v => hasI (nI a) v) (fun v => bcI (wrbD D F v N &&& nI b)) n = maxM (fun v => hasI (nI a) v) (fun v => wrgN f v (nI b) N) n
  | 0, _ => ⟨Int32.le_refl 0, rfl⟩
  | n + 1, hn => by
    obtain ⟨i0, i1⟩ := rd_max h hb (a := a) (n := n) (by omega)
    unfold maxI maxM
    rw [i1, rd_wrong h (by omega) hb]
    cases hasI (nI a) n
    · simp only [cond_false]
      have q : ¬ maxM (fun v => hasI (nI a) v) (fun v => wrgN f v (nI b) N) n < 0 := Int32.not_lt.mpr i0
      rw [if_neg q]
      exact ⟨i0, rfl⟩
    · simp only [cond_true]
      refine ⟨?_, trivial⟩
      split
      · next q => exact Int32.le_trans i0 (Int32.le_of_lt q)
      · exact i0
end RD
