/-! the answers of both sides -/
theorem in_nat {x : Int32} {n : Nat} (hn : n < 1000) (h : inR x 0 (nI n) = true) : ∃ k : Nat, k ≤ n ∧ x = nI k := by
  unfold inR at h
  simp only [Bool.and_eq_true, decide_eq_true_eq, fa_le] at h
  have h0 : (0 : Int32).toInt = 0 := by decide
  rw [h0, nI_toInt (by omega)] at h
  refine ⟨x.toInt.toNat, by omega, ?_⟩
  apply Int32.toInt_inj.mp
  rw [nI_toInt (by omega)]
  omega
section AN
variable {N M : Nat} {D : Nat → Int32} {F : Nat → Nat → Int32} {f : Nat → Int32}
theorem rd_read (h : relD N M D F f) : (decide (0 < D 2) && decide (0 < D 3)) = decide (0 < f 0) := by
  obtain ⟨dN, -, hN⟩ := rd_hN h
  obtain ⟨dM, -, hM⟩ := rd_hM h
  rw [dN, dM]
  rcases h.2.2.2.2.2 with ⟨g1, g2, g3⟩ | ⟨g1, g2, g3⟩
  · rw [decide_eq_true g1, decide_eq_true (show (0 : Int32) < nI N from (nI_ltI (a := 0) (by decide) (by omega)).mpr g2), decide_eq_true (show (0 : Int32) < nI M from (nI_ltI (a := 0) (by decide) (by omega)).mpr g3)]
    rfl
  · rw [g1, g2, g3]
    decide
theorem rd_readN (h : relD N M D F f) (hr : decide (0 < f 0) = true) : 0 < N ∧ 0 < M := by
  rcases h.2.2.2.2.2 with ⟨g1, g2, g3⟩ | ⟨g1, g2, g3⟩
  · exact ⟨g2, g3⟩
  · rw [g1] at hr
    exact absurd hr (by decide)
theorem rd_squ (h : relD N M D F f) {s : Nat} (hs : s < N) (what : Int32) : squM f s what = squD D F s what := by
  obtain ⟨a1, a2, a3, a4, a5, -, -, -, -⟩ := rd_sq h hs
  unfold squM squD
  rw [← rd_cnt h hs, ← h.1.1, ← a2, ← a3, ← a4]
  have e : (if f (4 + 5 * s + 4) = 0 then -1000000 else f (4 + 5 * s + 4) - 1) = F 8 s := by
    rcases a5 with ⟨p, q⟩ | ⟨p, q⟩ | ⟨p, q⟩ <;> rw [p, q] <;> decide
  rw [e]
theorem rd_vis (h : relD N M D F f) {v w : Nat} (hv : v < M) (hw : w < 4) : f (44 + 4 * v + w) = visQ F v (nI w) := by
  obtain ⟨a1, a2, a3, a4⟩ := rd_vi h hv
  rcases (show w = 0 ∨ w = 1 ∨ w = 2 ∨ w = 3 by omega) with e | e | e | e <;> subst e
  · exact a1.symm
  · exact a2.symm
  · exact a3.symm
  · exact a4.symm
theorem vis_bad {v : Nat} {what : Int32} (h : inR what 0 3 = false) : visQ F v what = -1000001 := by
  have g : ∀ k, k < 4 → ¬ what = nI k := fun k hk e => by
    rw [e] at h
    have h9 : ∀ k, k < 4 → ¬ inR (nI k) 0 3 = false := by decide +kernel
    exact h9 k hk h
  unfold visQ
  rw [if_neg (show ¬ what = 0 from g 0 (by decide)), if_neg (show ¬ what = 1 from g 1 (by decide)), if_neg (show ¬ what = 2 from g 2 (by decide)), if_neg (show ¬ what = 3 from g 3 (by decide))]
theorem rd_see (h : relD N M D F f) {s v : Nat} (hs : s < N) (hv : v < M) : seenM (f (4 + 5 * s)) (f (4 + 5 * s + 1)) (f (44 + 4 * v)) (f (44 + 4 * v + 1)) = seenI (F 4 s) (F 5 s) (F 9 v) (F 10 v) := by
  obtain ⟨a1, a2, -, -, -, -, a7, -, -⟩ := rd_sq h hs
  obtain ⟨b1, b2, -, -⟩ := rd_vi h hv
  rw [seen_eq a7, a1, a2, b1, b2]
theorem votes_nat (h : relD N M D F f) {s : Nat} (hs : s < N) : ∃ a b : Nat, a < 100 ∧ b < 100 ∧ F 6 s = nI a ∧ F 7 s = nI b ∧ f (4 + 5 * s + 2) = nI a ∧ f (4 + 5 * s + 3) = nI b := by
  obtain ⟨-, -, a3, a4, -, -, -, a8, a9⟩ := rd_sq h hs
  obtain ⟨a, ha, ea⟩ := in_nat (n := 99) (by decide) a8
  obtain ⟨b, hb, eb⟩ := in_nat (n := 99) (by decide) a9
  exact ⟨a, b, by omega, by omega, ea, eb, a3 ▸ ea, a4 ▸ eb⟩
theorem rd_learn (h : relD N M D F f) {s : Nat} (hs : s < N) : lrnM (f (4 + 5 * s + 2) - f (4 + 5 * s + 3)) = 1 + cmpI (F 6 s) (F 7 s) := by
  obtain ⟨a, b, ha, hb, e1, e2, e3, e4⟩ := votes_nat h hs
  rw [e1, e2, e3, e4]
  have h9 : ∀ a, a < 100 → ∀ b, b < 100 → lrnM (nI a - nI b) = 1 + cmpI (nI a) (nI b) := by decide +kernel
  exact h9 a ha b hb
theorem rd_need (h : relD N M D F f) {s : Nat} (hs : s < N) : (if 0 < f (4 + 5 * s + 2) - f (4 + 5 * s + 3) then f (4 + 5 * s + 2) - f (4 + 5 * s + 3) else 1 - (f (4 + 5 * s + 2) - f (4 + 5 * s + 3))) = (if F 7 s < F 6 s then F 6 s - F 7 s else 1 - (F 6 s - F 7 s)) := by
  obtain ⟨a, b, ha, hb, e1, e2, e3, e4⟩ := votes_nat h hs
  rw [e1, e2, e3, e4]
  have h9 : ∀ a, a < 100 → ∀ b, b < 100 → (if 0 < nI a - nI b then nI a - nI b else 1 - (nI a - nI b)) = (if nI b < nI a then nI a - nI b else 1 - (nI a - nI b)) := by decide +kernel
  exact h9 a ha b hb
theorem rd_lampv (h : relD N M D F f) {s : Nat} (hs : s < N) : decide (F 7 s < F 6 s) = decide (f (4 + 5 * s + 3) < f (4 + 5 * s + 2)) := by
  obtain ⟨-, -, a3, a4, -, -, -, -, -⟩ := rd_sq h hs
  rw [a3, a4]
theorem wh_01 {what : Int32} (h : inR what 0 1 = true) : what = 0 ∨ what = 1 := by
  obtain ⟨k, hk, rfl⟩ := in_nat (n := 1) (by decide) h
  rcases (show k = 0 ∨ k = 1 by omega) with e | e <;> subst e
  · exact Or.inl rfl
  · exact Or.inr rfl
/-- the fewest: sizes or bits -/
theorem size_eq {d m what : Int32} (hw : inR what 0 1 = true) (he : d = m) (hm : m = -1000000 ∨ ∃ j : Nat, j < 256 ∧ m = nI j) : (if m = -1000000 then m else if what = 1 then m else bitM m) = sizeB d what := by
  subst he
  unfold sizeB
  rcases hm with e | ⟨j, hj, e⟩
  · rw [e, if_pos rfl, if_pos rfl]
    split <;> rfl
  · rw [e, if_neg (nI_none hj)]
    rcases wh_01 hw with q | q
    · rw [q, if_neg (by decide), if_pos rfl, if_neg (nI_none hj), bM_bc hj]
    · rw [q, if_pos rfl, if_neg (by decide)]
theorem few_form (h : relD N M D F f) (O want : Int32) {k : Nat} (hk : k ≤ 256) : fewM f O want N M k = -1000000 ∨ ∃ j : Nat, j < 256 ∧ fewM f O want N M k = nI j := by
  rcases (rd_few h O want k hk).2 with ⟨e, -⟩ | ⟨j, j1, j2, -⟩
  · exact Or.inl e
  · exact Or.inr ⟨j, j1, j2⟩
theorem all_1 {N : Nat} (h : N ≤ 8) : 2 ^ N - 1 + 1 ≤ 256 := by
  have := two_256 h
  have := Nat.two_pow_pos N
  omega
/-- the search of save ends with a set -/
theorem sub_self (O : Int32) : subB O O = true := by
  unfold subB
  refine decide_eq_true ?_
  have e1 : (-1 : Int32).toBitVec = BitVec.allOnes 32 := by decide
  apply Int32.toBitVec_inj.1
  rw [Int32.toBitVec_and, Int32.toBitVec_xor, e1]
  apply BitVec.eq_of_getLsbD_eq
  intro i hi
  rw [BitVec.getLsbD_and, BitVec.getLsbD_xor, BitVec.getLsbD_allOnes]
  simp [hi]
theorem save_set (h : relD N M D F f) {O : Nat} (hO : O < 256) : ∃ j : Nat, j < 256 ∧ fewM f (nI O) (gstM f (nI O) N M) N M (O + 1) = nI j := by
  have hf : fewM f (nI O) (gstM f (nI O) N M) N M (O + 1) = (bif subB (nI O) (nI O) && (decide (fewM f (nI O) (gstM f (nI O) N M) N M O = -1000000) || decide (bitM (nI O) < bitM (fewM f (nI O) (gstM f (nI O) N M) N M O))) && decide (gstM f (nI O) N M = gstM f (nI O) N M) then nI O else fewM f (nI O) (gstM f (nI O) N M) N M O) := rfl
  rw [hf]
  rcases few_form h (nI O) (gstM f (nI O) N M) (k := O) (by omega) with e | ⟨j, hj, e⟩
  · rw [sub_self, decide_eq_true e, decide_eq_true rfl]
    exact ⟨O, hO, rfl⟩
  · cases (subB (nI O) (nI O) && (decide (fewM f (nI O) (gstM f (nI O) N M) N M O = -1000000) || decide (bitM (nI O) < bitM (fewM f (nI O) (gstM f (nI O) N M) N M O))) && decide (gstM f (nI O) N M = gstM f (nI O) N M))
    · exact ⟨j, hj, e⟩
    · exact ⟨O, hO, rfl⟩
theorem save_eq (h : relD N M D F f) {O : Nat} {what : Int32} (hO : O < 256) (hw : inR what 0 1 = true) : (if what = 1 then fewM f (nI O) (gstM f (nI O) N M) N M (O + 1) else bitM (fewM f (nI O) (gstM f (nI O) N M) N M (O + 1))) = sizeB (fewD D F (nI O) (gstD D F (nI O) N M) N M (O + 1)).1 what := by
  rw [rd_gst h hO, (rd_few h (nI O) (gstM f (nI O) N M) (O + 1) (by omega)).1]
  obtain ⟨j, hj, e⟩ := save_set h hO
  rw [e]
  unfold sizeB
  rcases wh_01 hw with q | q
  · rw [q, if_neg (by decide), if_pos rfl, if_neg (nI_none hj), bM_bc hj]
  · rw [q, if_pos rfl, if_neg (by decide)]
theorem few_13 {g : Nat → Int32} {O want : Int32} : ∀ k, fewD D (lzF F 13 g) O want N M k = fewD D F O want N M k
  | 0 => rfl
  | k + 1 => by
    unfold fewD
    rw [few_13 k]
    rfl
theorem keen_eq (h : relD N M D F f) (what : Int32) : (if what = 0 then (keenM f M N).1 else (keenM f M N).2) = (if what = 0 then (keenD D F N M N).1 else if (keenD D F N M N).1 = -1000000 then (keenD D F N M N).1 else (keenD D F N M N).2) := by
  obtain ⟨i1, i2⟩ := rd_keen h (k := N) (Nat.le_refl N)
  rw [i1]
  rcases i2 with ⟨j1, j2, j3⟩ | ⟨j1, j2⟩
  · rw [j1, j3]
    split
    · rfl
    · rw [if_pos rfl]
  · rw [if_neg j1, j2]
theorem alk_eq (h : relD N M D F f) {v w : Nat} {set : Int32} (hv : v < M) (hw : w < M) : alikeD F v w set N = alkM f v w set N := by
  unfold alikeD alkM
  rw [rd_clkB h hv, rd_clkB h hw]
theorem rowI_cong {p q : Nat → Nat → Bool} {M : Nat} (h : ∀ v w, v < M → w < M → p v w = q v w) : sumI (rowI p M) M = sumI (rowI q M) M := by
  refine sumI_cong (fun k hk => ?_)
  unfold rowI rowJ
  exact cntI_cong (fun z hz => h _ _ hk (by omega))
theorem first_cong {p q : Nat → Nat → Bool} {M : Nat} {r : Int32} (h : ∀ v w, v < M → w < M → p v w = q v w) (hf : firstR p M r) : firstR q M r := by
  rcases hf with ⟨a, b, h1, h2, h3, h4, h5, h6⟩ | ⟨h1, h2⟩
  · exact Or.inl ⟨a, b, h1, h2, (h a b (by omega) h2) ▸ h3, h4, fun x y hx hy hM => (h x y (by omega) hM) ▸ h5 x y hx hy hM, fun y hy hb => (h a y (by omega) (by omega)) ▸ h6 y hy hb⟩
  · exact Or.inr ⟨h1, fun x y hx hy hM => (h x y hx hM) ▸ h2 x y hx hy hM⟩
theorem tells_eq (h : relD N M D F f) {set what r : Int32} (h1 : what = 0 → r = sumI (rowI (fun v w => !alikeD F v w set N) M) M) (h2 : ¬ what = 0 → firstR (fun v w => alikeD F v w set N) M r) : r = if what = 0 then (tlsK f set N M M).1 else (tlsK f set N M M).2 := by
  by_cases q : what = 0
  · rw [if_pos q, h1 q, tls_sum]
    exact rowI_cong (fun v w hv hw => by rw [alk_eq h hv hw])
  · rw [if_neg q]
    exact tls_first (first_cong (fun v w hv hw => alk_eq h hv hw) (h2 q))
theorem sumv_eq (h : relD N M D F f) : sumI (fun s => f (4 + 5 * s + 2) + f (4 + 5 * s + 3)) N = sumI (fun s => F 6 s + F 7 s) N := by
  refine sumI_cong (fun s hs => ?_)
  obtain ⟨-, -, a3, a4, -, -, -, -, -⟩ := rd_sq h hs
  rw [a3, a4]
end AN
theorem rd_of {N M : Nat} {D : Nat → Int32} {F : Nat → Nat → Int32} {f : Nat → Int32} (h : relD N M D F f) {s : Nat} {k : Int32} (hs : s < N) (hk : inR k 0 5 = true) : ofK (F 4 s) k = isOfM (f (4 + 5 * s)) k := by
  obtain ⟨a1, -, -, -, -, ⟨j, j1, j5, aj⟩, -, -, -⟩ := rd_sq h hs
  obtain ⟨w, hw, rfl⟩ := in_nat (n := 5) (by decide) hk
  rw [← a1, aj]
  have h9 : ∀ j, j < 6 → 1 ≤ j → ∀ w, w < 6 → ofK (nI j) (nI w) = isOfM (nI j) (nI w) := by decide +kernel
  exact h9 j (by omega) j1 w (by omega)
