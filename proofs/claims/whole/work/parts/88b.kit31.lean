/-! draws, slips, counts, asks: the answers of both sides -/
theorem in_natB {x lo : Int32} {n : Nat} (hlo : 0 ≤ lo.toInt) (hn : n < 2 ^ 31) (h : inR x lo (nI n) = true) : ∃ k : Nat, k ≤ n ∧ x = nI k := by
  unfold inR at h
  simp only [Bool.and_eq_true, decide_eq_true_eq, fa_le] at h
  rw [nI_toInt hn] at h
  refine ⟨x.toInt.toNat, by omega, ?_⟩
  apply Int32.toInt_inj.mp
  rw [nI_toInt (by omega)]
  omega
section DW
variable {N M : Nat} {S : Nat → Int32} {F : Nat → Nat → Int32} {f : Nat → Int32}
theorem drwQ_nat (sd N k : Nat) : drwQ sd N k = nI (lcgN sd (k + 1) % 256 &&& (2 ^ N - 1)) := fa_and _ _
theorem draw_rel (h : relD N M S F f) (h0 : 0 < M) (sd : Nat) : ∀ k : Nat, relD N M S (drwF S F sd N M k) (drmF f sd N M k)
  | 0 => h
  | k + 1 => by
    have ih := draw_rel h h0 sd k
    unfold drwF drmF
    rw [drwQ_nat]
    exact rd_put ih (Nat.mod_lt _ h0) (Nat.lt_of_le_of_lt Nat.and_le_left (Nat.mod_lt _ (by decide)))
theorem draw_B (h : relD N M S F f) (h0 : 0 < M) (sd n : Nat) : cntI (drmB f sd N M) n = cntI (drwB S F sd N M) n := by
  refine cntI_cong (fun k hk => ?_)
  unfold drwB drmB
  rw [drwQ_nat]
  exact (rd_putB (draw_rel h h0 sd k) (Nat.mod_lt _ h0) (Nat.lt_of_le_of_lt Nat.and_le_left (Nat.mod_lt _ (by decide)))).symm
/-- the cases of slips -/
theorem slip_eq (h : relD N M S F f) {v k P T : Nat} (hv : v < M) (hk : k < 256) : csN P (hasI (nI k &&& bitsI (cntD F) N)) (hasI (wrbD S F v N)) 8 = csN P (fun s => hasI (nI k) s && cntM f s) (wrgM f v) N := by
  have hN := (rd_hN h).2.2
  have ha : ∀ s, s < 8 → hasI (nI k &&& bitsI (cntD F) N) s = (k.testBit s && (decide (s < N) && cntD F s)) := fun s hs => by
    rw [bits_nI _ hN, fa_and, has_nat (Nat.lt_of_le_of_lt Nat.and_le_left hk) hs, Nat.testBit_and, bN_bit]
  rw [csN_cut (N := N) hN (fun s h1 h2 => by rw [ha s h2, decide_eq_false (by omega), Bool.false_and, Bool.and_false])]
  refine csN_cong (fun s hs => ⟨?_, fun _ => ?_⟩)
  · rw [ha s (by omega), has_nat hk (by omega), decide_eq_true hs, Bool.true_and, rd_cnt h hs]
  · rw [rd_wrb h hv, bits_nI _ hN, has_nat (bN_256 _ hN) (by omega), bN_bit, decide_eq_true hs, Bool.true_and]
theorem cnt_cntN (p : Nat → Bool) : ∀ n, cntI p n = nI (cntN p n)
  | 0 => rfl
  | n + 1 => by
    unfold cntI cntN
    rw [cnt_cntN p n]
    cases p n
    · exact Int32.add_zero _
    · exact nI_1 _
theorem slip_E (h : relD N M S F f) {k : Nat} (hk : k < 256) : bcI (nI k &&& bitsI (cntD F) N) = nI (cntN (fun s => hasI (nI k) s && cntM f s) N) := by
  have hN := (rd_hN h).2.2
  rw [Int32.and_comm, bc_bits hN hk, ← cnt_cntN]
  refine cntI_cong (fun s hs => ?_)
  rw [has_nat hk (by omega), rd_cnt h hs]
/-- asks -/
theorem ask_size (h : relD N M S F f) {s : Nat} (hs : s < N) (hk : ofK (F 4 s) 1 = true) (x : Int32) : msL (f (4 + 5 * s)) = ksL (F 4 s) ∧ msV (f (4 + 5 * s)) (nI s) (f (4 + 5 * s + 1)) x = ksV (F 4 s) (F 5 s) (kmV (F 4 s) x) := by
  obtain ⟨a1, a2, -, -, -, ⟨k, k1, k5, ak⟩, -, -, -⟩ := rd_sq h hs
  rw [← a1, ← a2]
  rw [ak] at hk ⊢
  rcases (show k = 1 ∨ k = 2 ∨ k = 3 ∨ k = 4 ∨ k = 5 by omega) with e | e | e | e | e <;> subst e
  · exact ⟨by decide, rfl⟩
  · refine ⟨by decide, ?_⟩
    show -(F 5 s + 2 * x) = 0 - (F 5 s + 2 * x)
    rw [Int32.zero_sub]
  · exact ⟨by decide, rfl⟩
  · exact absurd hk (by decide)
  · exact absurd hk (by decide)
theorem ask_mark (h : relD N M S F f) {s : Nat} (hs : s < N) (hk : ofK (F 4 s) 1 = true) (x : Int32) : mmL (f (4 + 5 * s)) = kmL (F 4 s) ∧ mmV (f (4 + 5 * s)) (nI s) (f (4 + 5 * s + 1)) x = kmV (F 4 s) x := by
  obtain ⟨a1, a2, -, -, -, ⟨k, k1, k5, ak⟩, -, -, -⟩ := rd_sq h hs
  rw [← a1, ← a2]
  rw [ak] at hk ⊢
  rcases (show k = 1 ∨ k = 2 ∨ k = 3 ∨ k = 4 ∨ k = 5 by omega) with e | e | e | e | e <;> subst e
  · exact ⟨by decide, rfl⟩
  · exact ⟨by decide, rfl⟩
  · exact ⟨by decide, rfl⟩
  · exact absurd hk (by decide)
  · exact absurd hk (by decide)
theorem ask_usize (h : relD N M S F f) {s : Nat} (hs : s < N) (hk : ofK (F 4 s) 1 = false) (x : Int32) : msL (f (4 + 5 * s)) = usL (F 4 s) ∧ msV (f (4 + 5 * s)) (nI s) (f (4 + 5 * s + 1)) x = usV (F 4 s) (F 5 s) := by
  obtain ⟨a1, a2, -, -, -, ⟨k, k1, k5, ak⟩, -, -, -⟩ := rd_sq h hs
  rw [← a1, ← a2]
  rw [ak] at hk ⊢
  rcases (show k = 1 ∨ k = 2 ∨ k = 3 ∨ k = 4 ∨ k = 5 by omega) with e | e | e | e | e <;> subst e
  · exact absurd hk (by decide)
  · exact absurd hk (by decide)
  · exact absurd hk (by decide)
  · exact ⟨by decide, rfl⟩
  · exact ⟨by decide, rfl⟩
theorem ask_umark (h : relD N M S F f) {s : Nat} (hs : s < N) (hk : ofK (F 4 s) 1 = false) (x : Int32) : mmL (f (4 + 5 * s)) = umL (F 4 s) ∧ mmV (f (4 + 5 * s)) (nI s) (f (4 + 5 * s + 1)) x = nI s - usV (F 4 s) (F 5 s) := by
  obtain ⟨a1, a2, -, -, -, ⟨k, k1, k5, ak⟩, -, -, -⟩ := rd_sq h hs
  rw [← a1, ← a2]
  rw [ak] at hk ⊢
  rcases (show k = 1 ∨ k = 2 ∨ k = 3 ∨ k = 4 ∨ k = 5 by omega) with e | e | e | e | e <;> subst e
  · exact absurd hk (by decide)
  · exact absurd hk (by decide)
  · exact absurd hk (by decide)
  · exact ⟨by decide, rfl⟩
  · exact ⟨by decide, rfl⟩
theorem len_16 (h : relD N M S F f) {s : Nat} (hs : s < N) : (ksL (F 4 s)).length ≤ 16 ∧ (kmL (F 4 s)).length ≤ 16 ∧ (usL (F 4 s)).length ≤ 16 ∧ (umL (F 4 s)).length ≤ 16 := by
  obtain ⟨-, -, -, -, -, ⟨k, k1, k5, ak⟩, -, -, -⟩ := rd_sq h hs
  rw [ak]
  rcases (show k = 1 ∨ k = 2 ∨ k = 3 ∨ k = 4 ∨ k = 5 by omega) with e | e | e | e | e <;> subst e <;> decide
end DW
section RL
variable {C it F RS : Nat → Nat → Int32} {RF : Nat → Nat → Nat → Int32} {MD : Nat → Nat → Int32} {MF : Nat → Nat → Nat → Int32} {B : Nat → Nat → Int32}
theorem count_eq (hR : Rel C it F RS RF MD MF B) {N M : Nat} (hD : relD N M (C 5) F (B 4)) (what : Int32) : countM (B 0) (B 4) (B 1) N what = countC (C 3) (C 7) (C 5) (C 2) F N what := by
  obtain ⟨dN, fN, hN8⟩ := rd_hN hD
  obtain ⟨dM, fM, hM5⟩ := rd_hM hD
  obtain ⟨-, -, -, ⟨L, hL, u1, b11, -⟩, hrow, ⟨X, K, hX, hK, v1, v2, b9, -⟩, -⟩ := hR
  have e0 : cntI (fun z => decide (0 ≤ B 1 z)) 8 = cntI (fun z => !decide (C 2 z = -1000000)) 8 := cntI_cong (fun r hr => by
    rcases hrow r hr with ⟨q1, q2⟩ | ⟨q1, q2, ⟨n, hn, q3⟩, q4, -⟩
    · rw [q1, q2]; decide
    · have g1 : ¬ nI n = -1000000 := nI_none (by omega)
      have g2 : 0 ≤ B 1 r := by
        unfold inR at q4
        simp only [Bool.and_eq_true, decide_eq_true_eq] at q4
        exact q4.1
      rw [q1, q3, decide_eq_true g2, decide_eq_false g1]
      rfl)
  unfold countM countC
  rw [e0, dN, fN, dM, fM, ← hD.1.2.1, ← rd_cntB hD, sumv_eq hD, v2, u1, b11, b9]
theorem rel_ask (hR : Rel C it F RS RF MD MF B) {L L2 : List Int32} (e : L2 = L) (hl : L.length ≤ 16) : Rel (lzF (lzF C 0 (upd (C 0) 11 (nI (0 + L.length)))) 8 (trL (C 8) 0 L)) it F RS RF MD MF (lzF (lzF B 0 (upd (upd (B 0) 0 0) 23 (nI (0 + L2.length)))) 11 (trL (B 11) 0 L2)) := by
  subst e
  exact ⟨hR.1, hR.2.1, ⟨0 + L2.length, by omega, rfl, rfl, fun k hk => trL_in (C 8) (B 11) L2 0 k (Nat.zero_le _) hk⟩, hR.2.2.2⟩
theorem rel_full (hR : Rel C it F RS RF MD MF B) {L : Nat} {x : Int32} (hL : ¬ L < 120) : Rel (lzF (lzF C 3 (upd (C 3) 1 (if L < 120 then nI (L + 1) else C 3 1))) 4 (if L < 120 then upd (C 4) L x else C 4)) it F RS RF MD MF (lzF B 0 (upd (B 0) 0 0)) := by
  rw [if_neg hL, if_neg hL]
  obtain ⟨h1, h2, h3, ⟨L1, g1, g2, g3, g4⟩, h5⟩ := hR
  exact ⟨h1, h2, h3, ⟨L1, g1, g2, g3, g4⟩, h5⟩
theorem rel_feed (hR : Rel C it F RS RF MD MF B) {L : Nat} {x : Int32} (hL : L < 120) (hx : inR x 0 255 = true) (hC : C 3 1 = nI L) : Rel (lzF (lzF C 3 (upd (C 3) 1 (if L < 120 then nI (L + 1) else C 3 1))) 4 (if L < 120 then upd (C 4) L x else C 4)) it F RS RF MD MF (lzF (lzF B 0 (upd (upd (B 0) 0 0) 11 (nI (L + 1)))) 8 (upd (B 8) L x)) := by
  rw [if_pos hL, if_pos hL]
  obtain ⟨h1, h2, h3, ⟨L1, g1, g2, g3, g5, g4⟩, h5⟩ := hR
  have e : L1 = L := (nI_eq (by omega) (by omega)).mp (g2.symm.trans hC)
  subst e
  refine ⟨h1, h2, h3, ⟨L1 + 1, by omega, rfl, rfl, ?_, fun k hk => ?_⟩, h5⟩
  · show upd (C 4) L1 x = upd (B 8) L1 x
    rw [g5]
  · show inR (upd (C 4) L1 x k) 0 255 = true
    by_cases q : k = L1
    · subst q
      rw [upd_eq]
      exact hx
    · rw [upd_ne q]
      exact g4 k (by omega)
end RL
