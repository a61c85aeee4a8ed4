/-! copies, rows of clicks, images, texts: what both sides leave -/
theorem plc_t {len i n : Int32} (hn : ¬ n < 0) (h : hasB len i n = false) : plcM len i n = true := by
  have h9 := plc_has (len := len) (i := i) hn
  rw [h] at h9
  cases hp : plcM len i n
  · rw [hp] at h9
    exact Bool.noConfusion h9
  · rfl
theorem plc_f {len i n : Int32} (hn : ¬ n < 0) (h : hasB len i n = true) : plcM len i n = false := by
  have h9 := plc_has (len := len) (i := i) hn
  rw [h] at h9
  cases hp : plcM len i n
  · rfl
  · rw [hp] at h9
    exact Bool.noConfusion h9
theorem cpy_at {f g : Nat → Int32} {sp dp n j : Nat} : va_cpy f g sp dp n j = if dp ≤ j ∧ j < dp + n then f (sp + (j - dp)) else g j := rfl
/-- a copy inside the rows -/
theorem rowQ_copy {C it B : Nat → Nat → Int32} {g : Nat → Int32} {ra rb r i j n : Nat} (hi : i + n ≤ 40) (hj : j + n ≤ 40) (hG : ∀ p : Nat, g p = if 40 * rb + j ≤ p ∧ p < 40 * rb + j + n then B 3 (40 * ra + i + (p - (40 * rb + j))) else B 3 p) (hA : ∀ k : Nat, k < 40 → it ra k = B 3 (40 * ra + k)) (h : rowQ (C 1 r) (C 2 r) (it r) (B 1 r) (B 2 r) (fun k => B 3 (40 * r + k))) : rowQ (C 1 r) (C 2 r) (lzF it rb (va_cpy (it ra) (it rb) i j n) r) (B 1 r) (B 2 r) (fun k => g (40 * r + k)) := by
  rcases h with h1 | ⟨q1, q2, q3, q4, q5⟩
  · exact Or.inl h1
  · refine Or.inr ⟨q1, q2, q3, q4, fun k hk => ?_⟩
    show lzF it rb (va_cpy (it ra) (it rb) i j n) r k = g (40 * r + k)
    rw [hG]
    by_cases q : r = rb
    · subst q
      rw [lzF_eq, cpy_at]
      by_cases w : j ≤ k ∧ k < j + n
      · rw [if_pos w, if_pos (by omega), hA _ (by omega)]
        congr 1
        omega
      · rw [if_neg w, if_neg (by omega)]
        exact q5 k hk
    · rw [lzF_ne q, if_neg (by omega)]
      exact q5 k hk
/-- the answers of slips -/
theorem slip_ans {N M : Nat} {D : Nat → Int32} {F : Nat → Nat → Int32} {f : Nat → Int32} (h : relD N M D F f) {v k P T : Nat} {what : Int32} (hv : v < M) (hk : k < 256) (hP : P ≤ 10) (hT : T ≤ 8) : (if what = 0 then lN (sumN (csN P (fun s => hasI (nI k) s && cntM f s) (wrgM f v) N) (T + 1) / Nat.gcd (sumN (csN P (fun s => hasI (nI k) s && cntM f s) (wrgM f v) N) (T + 1)) (pwN (fun s => hasI (nI k) s && cntM f s) N)) else lN (pwN (fun s => hasI (nI k) s && cntM f s) N / Nat.gcd (sumN (csN P (fun s => hasI (nI k) s && cntM f s) (wrgM f v) N) (T + 1)) (pwN (fun s => hasI (nI k) s && cntM f s) N))) = (if what = 0 then (lowL (lN (sumN (csN P (hasI (nI k &&& bitsI (cntD F) N)) (hasI (wrbD D F v N)) 8) (T + 1))) (powL (cntN (fun s => hasI (nI k) s && cntM f s) N)) 8).1 else (lowL (lN (sumN (csN P (hasI (nI k &&& bitsI (cntD F) N)) (hasI (wrbD D F v N)) 8) (T + 1))) (powL (cntN (fun s => hasI (nI k) s && cntM f s) N)) 8).2) := by
  have hN := (rd_hN h).2.2
  rw [slip_eq (T := T) h hv hk, low_ten (slip_A hP hN hT _ _) (Nat.le_trans (cntN_le _ N) hN), pw_ten]
/-- images -/
theorem imQ_take {N M im k : Nat} {D : Nat → Int32} {F : Nat → Nat → Int32} {f b g : Nat → Int32} {MD : Nat → Nat → Int32} {MF : Nat → Nat → Nat → Int32} (hk : k < 2) (hD : relD N M D F f) (h0 : 0 < N) (h : imQ (MD k) (MF k) (b k) (fun j => g (64 * k + j))) : imQ (lzF MD im (tfS D (MD im)) k) (lz3 MF im (tfF F (MF im)) k) (upd b im 1 k) (fun j => putW g f im 64 (64 * k + j)) := by
  by_cases q : k = im
  · subst q
    rw [lzF_eq, show lz3 MF k (tfF F (MF k)) k = tfF F (MF k) from if_pos rfl, upd_eq]
    refine Or.inr ⟨by decide, N, M, h0, relD_take hD (fun j hj => ?_)⟩
    show putW g f k 64 (64 * k + j) = f j
    unfold putW
    rw [if_pos (by omega)]
    congr 1
    omega
  · rw [lzF_ne q, show lz3 MF im (tfF F (MF im)) k = MF k from if_neg q, upd_ne q]
    have e : ∀ j : Nat, j < 64 → putW g f im 64 (64 * k + j) = g (64 * k + j) := fun j hj => by
      unfold putW
      rw [if_neg (by omega)]
    rcases h with h1 | ⟨h1, N1, M1, g1, g2⟩
    · exact Or.inl h1
    · exact Or.inr ⟨h1, N1, M1, g1, relD_cong g2 (fun _ _ => rfl) (fun _ _ _ => rfl) e⟩
theorem rd_yes {N M : Nat} {D : Nat → Int32} {F : Nat → Nat → Int32} {f : Nat → Int32} (h : relD N M D F f) (h0 : 0 < N) : (decide (0 < D 2) && decide (0 < D 3)) = true := by
  rw [rd_read h]
  rcases h.2.2.2.2.2 with ⟨g1, -, -⟩ | ⟨-, g2, -⟩
  · exact decide_eq_true g1
  · omega
/-- a text that both sides read -/
theorem numS_in {tb : Nat → Int32} {L : Nat} {lo hi : Int32} {z : Int32 × Nat} (h : (numS tb L lo hi z).1 = 0) : inR (numV tb L z.2) lo hi = true := by
  have h0 := numS_0 h
  by_cases ht : tokT tb L z.2 = 3
  · cases hr : inR (valT tb L z.2) lo hi
    · rw [numS_rng h0 ht hr] at h
      exact absurd h (fun q => failI_0 (k := 2) (by decide) q)
    · rw [← val_num ht]
      exact hr
  · rw [numS_tok h0 ht] at h
    exact absurd h (fun q => failI_0 (k := 1) (by decide) q)
theorem in_pos {x : Int32} (h : inR x 1 9 = true) : 0 < x := by
  unfold inR at h
  simp only [Bool.and_eq_true, decide_eq_true_eq, fa_le] at h
  rw [fa_lt]
  have h1 : (1 : Int32).toInt = 1 := by decide
  have h0 : (0 : Int32).toInt = 0 := by decide
  omega
theorem kind_15 {x : Int32} (h : ¬ kindB x = -1000000) : ∃ k : Nat, 1 ≤ k ∧ k ≤ 5 ∧ kindB x = nI k := by
  unfold kindB at h ⊢
  by_cases h1 : x = 107
  · rw [if_pos h1]; exact ⟨1, by decide, by decide, rfl⟩
  rw [if_neg h1] at h ⊢
  by_cases h2 : x = 101
  · rw [if_pos h2]; exact ⟨2, by decide, by decide, rfl⟩
  rw [if_neg h2] at h ⊢
  by_cases h3 : x = 99
  · rw [if_pos h3]; exact ⟨3, by decide, by decide, rfl⟩
  rw [if_neg h3] at h ⊢
  by_cases h4 : x = 117
  · rw [if_pos h4]; exact ⟨4, by decide, by decide, rfl⟩
  rw [if_neg h4] at h ⊢
  by_cases h5 : x = 104
  · rw [if_pos h5]; exact ⟨5, by decide, by decide, rfl⟩
  rw [if_neg h5] at h
  exact absurd rfl h
theorem zsq_dn {tb : Nat → Int32} {L j : Nat} : ∀ d : Nat, (zsq tb L (j + d)).1 = 0 → (zsq tb L j).1 = 0
  | 0, h => h
  | d + 1, h => zsq_dn d (sqZ_0 (N := j + d) h).1
theorem yvs_dn {tb : Nat → Int32} {L J j : Nat} : ∀ d : Nat, (yvs tb L J (j + d)).1 = 0 → (yvs tb L J j).1 = 0
  | 0, h => h
  | d + 1, h => yvs_dn d (visZ_0 (M := j + d) h).1
theorem goV_C {tb : Nat → Int32} {L : Nat} {z : Int32 × Nat} (h : goV tb L z = true) : goC L z = true := by
  obtain ⟨h0, h1⟩ := goV_0 h
  refine goC_y h0 (Decidable.byContradiction fun q => ?_)
  unfold byI at h1
  rw [if_neg q] at h1
  exact absurd h1 (by decide)
theorem goC_0 {L : Nat} {z : Int32 × Nat} (h : goC L z = true) : z.1 = 0 ∧ z.2 < L := by
  unfold goC at h
  simpa using h
/-- where both sides stop -/
theorem stop_eq {tb : Nat → Int32} {L J V X : Nat} (hC : stC tb L J X) (hV : stV tb L J V) : yvs tb L J X = finZ L (yvs tb L J V) ∧ ((finZ L (yvs tb L J V)).1 = 0 → X = V) := by
  obtain ⟨c1, c2, c3⟩ := hC
  obtain ⟨v1, v2, v3⟩ := hV
  have hle : V ≤ X := Decidable.byContradiction fun q => by
    have := goV_C (v2 X c1 (by omega))
    rw [c3] at this
    exact Bool.noConfusion this
  cases hg : goC L (yvs tb L J V)
  · have e : X = V := by
      rcases Nat.lt_or_ge V X with q | q
      · have := c2 V v1 q
        rw [hg] at this
        exact Bool.noConfusion this
      · omega
    subst e
    have ef : finZ L (yvs tb L J X) = yvs tb L J X := by
      unfold finZ
      exact if_neg (fun q => by rw [goC_y q.1 q.2] at hg; exact Bool.noConfusion hg)
    rw [ef]
    exact ⟨rfl, fun _ => rfl⟩
  · obtain ⟨g0, g1⟩ := goC_0 hg
    have ef : finZ L (yvs tb L J V) = (1, (yvs tb L J V).2) := by
      unfold finZ
      exact if_pos ⟨g0, g1⟩
    have e1 : yvs tb L J (V + 1) = (1, (yvs tb L J V).2) := by
      show visZ tb L V (yvs tb L J V) = _
      rw [visZ_stop v3, failI_z g0]
    have hne : X ≠ V := fun q => by
      subst q
      rw [hg] at c3
      exact Bool.noConfusion c3
    have e : X = V + 1 := by
      rcases Nat.lt_or_ge (V + 1) X with q | q
      · have h9 := goC_0 (c2 (V + 1) (by omega) q)
        rw [e1] at h9
        exact absurd h9.1 (show ¬ (1 : Int32) = 0 by decide)
      · omega
    subst e
    rw [e1, ef]
    exact ⟨rfl, fun q => absurd q (show ¬ (1 : Int32) = 0 by decide)⟩
theorem lawZ_in {tb : Nat → Int32} {L : Nat} (h : (zsq tb L 0).1 = 0) : inR (numV tb L (lawA tb L (0, 0)).2) 1 9 = true ∧ inR (numV tb L (lawB tb L (0, 0)).2) 0 8 = true := by
  have h1 : (numS tb L 0 8 (lawB tb L (0, 0))).1 = 0 := sgnS_0 (c := 59) h
  have h2 : (lawB tb L (0, 0)).1 = 0 := numS_0 h1
  exact ⟨numS_in (sgnS_0 (c := 44) h2), numS_in h1⟩
theorem zsq_in {tb : Nat → Int32} {L s : Nat} (h : (zsq tb L (s + 1)).1 = 0) : ¬ kindB (byI tb L (zsq tb L s).2) = -1000000 ∧ inR (numV tb L (sqA tb L s (zsq tb L s)).2) 0 9 = true := by
  have h1 : (sqB tb L s (zsq tb L s)).1 = 0 := sgnS_0 (c := 59) h
  have hk := (sqZ_0 (N := s) h).2.1
  refine ⟨fun q => ?_, numS_in h1⟩
  unfold kokB at hk
  rw [decide_eq_true q] at hk
  exact Bool.noConfusion hk
theorem khI_k {x : Int32} (h : ¬ kindB x = -1000000) : khI x = kindB x := if_neg h
/-- the doors that both sides have read agree -/
theorem relD_text {tb : Nat → Int32} {L J V : Nat} {E0 : Nat → Nat → Int32} {D : Nat → Int32} {E : Nat → Nat → Int32} {w : Nat → Int32} (hJ : 1 ≤ J) (hV : 1 ≤ V) (hz : (yvs tb L J V).1 = 0) (c1 : rowC tb L J (clrF E0) D E) (c2 : rowW tb L J V D E) (r1 : rowS tb L J w) (r2 : rowV tb L J V w) : relD J V D E w := by
  have hzJ : (zsq tb L J).1 = 0 := yvs_dn (j := 0) V (by rw [Nat.zero_add]; exact hz)
  have hz0 : (zsq tb L 0).1 = 0 := zsq_dn (j := 0) J (by rw [Nat.zero_add]; exact hzJ)
  have hJ8 := zsq_le8 hzJ
  have hV5 := yvs_le5 hz
  obtain ⟨n1, n2⟩ := lawZ_in hz0
  obtain ⟨a1, a2, a3, a4, a5⟩ := c1
  obtain ⟨b1, b2⟩ := c2
  obtain ⟨d1, d2, d3, d4, d5⟩ := r1
  obtain ⟨f1, f2, f3⟩ := r2
  refine ⟨⟨a1.trans d1.symm, a2.trans d2.symm, ?_⟩, ⟨a3, d3, hJ8⟩, ⟨b1, f1, hV5⟩, fun s hs => ?_, fun v hv => ?_, Or.inl ⟨by rw [d1]; exact in_pos n1, hJ, hV⟩⟩
  · obtain ⟨T, hT, e⟩ := in_nat (n := 8) (by decide) n2
    exact ⟨T, hT, a2.trans e⟩
  · have hzs : (zsq tb L (s + 1)).1 = 0 := zsq_dn (j := s + 1) (J - (s + 1)) (by rw [show s + 1 + (J - (s + 1)) = J by omega]; exact hzJ)
    obtain ⟨k1, k2⟩ := zsq_in hzs
    obtain ⟨p1, p2⟩ := a4 s hs
    obtain ⟨q1, q2⟩ := d4 s hs
    obtain ⟨q3, q4, q5⟩ := d5 s (by omega)
    have e6 : E 6 s = 0 := by
      rw [a5 6 (by decide)]
      show fa_fill (fun _ => 0) (E0 6) 8 s = 0
      exact fa_fill_in (by omega)
    have e7 : E 7 s = 0 := by
      rw [a5 7 (by decide)]
      show fa_fill (fun _ => 0) (E0 7) 8 s = 0
      exact fa_fill_in (by omega)
    have e8 : E 8 s = -1000000 := by
      rw [a5 8 (by decide)]
      show fa_fill (fun _ => -1000000) (E0 8) 8 s = -1000000
      exact fa_fill_in (by omega)
    have ek : E 4 s = kindB (byI tb L (zsq tb L s).2) := p1.trans (khI_k k1)
    refine ⟨ek.trans q1.symm, p2.trans q2.symm, e6.trans q3.symm, e7.trans q4.symm, Or.inl ⟨e8, q5⟩, ?_, by rw [p2]; exact k2, by rw [e6]; decide, by rw [e7]; decide⟩
    rw [ek]
    exact kind_15 k1
  · obtain ⟨p1, p2⟩ := b2 v hv
    obtain ⟨q1, q2⟩ := f2 v hv
    obtain ⟨q3, q4⟩ := f3 v (by omega)
    have e11 : E 11 v = 0 := by
      rw [a5 11 (by decide)]
      show fa_fill (fun _ => 0) (E0 11) 5 v = 0
      exact fa_fill_in (by omega)
    have e12 : E 12 v = 0 := by
      rw [a5 12 (by decide)]
      show fa_fill (fun _ => 0) (E0 12) 5 v = 0
      exact fa_fill_in (by omega)
    exact ⟨p1.trans q1.symm, p2.trans q2.symm, e11.trans q3.symm, e12.trans q4.symm⟩
