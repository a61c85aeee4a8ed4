/-! the class's own text -/
theorem khI_0 {x : Int32} : khI x = 0 ↔ kindB x = -1000000 := by
  unfold khI
  by_cases h : kindB x = -1000000
  · simp [h]
  · rw [if_neg h]
    refine ⟨fun q => ?_, fun q => absurd q h⟩
    unfold kindB at q
    by_cases h1 : x = 107
    · rw [if_pos h1] at q; exact absurd q (by decide)
    rw [if_neg h1] at q
    by_cases h2 : x = 101
    · rw [if_pos h2] at q; exact absurd q (by decide)
    rw [if_neg h2] at q
    by_cases h3 : x = 99
    · rw [if_pos h3] at q; exact absurd q (by decide)
    rw [if_neg h3] at q
    by_cases h4 : x = 117
    · rw [if_pos h4] at q; exact absurd q (by decide)
    rw [if_neg h4] at q
    by_cases h5 : x = 104
    · rw [if_pos h5] at q; exact absurd q (by decide)
    rw [if_neg h5] at q
    exact absurd q (by decide)
theorem kok_f {tb : Nat → Int32} {L p : Nat} (h : khI (byI tb L p) = 0) : kokB tb L p = false := by
  unfold kokB
  simp [khI_0.mp h]
theorem kok_t {tb : Nat → Int32} {L p : Nat} (h : ¬ khI (byI tb L p) = 0) : kokB tb L p = true := by
  unfold kokB
  simp [mt khI_0.mpr h]
def sqFD (tb : Nat → Int32) (L N : Nat) (z : Int32 × Nat) (E : Nat → Nat → Int32) : Nat → Nat → Int32 := if (sqZ tb L N z).1 = 0 then lzF (lzF E 4 (upd (E 4) N (khI (byI tb L z.2)))) 5 (upd (E 5) N (numV tb L (sqA tb L N z).2)) else E
def sqDD (tb : Nat → Int32) (L N : Nat) (z : Int32 × Nat) (D : Nat → Int32) : Nat → Int32 := if (sqZ tb L N z).1 = 0 then upd D 2 (nI (N + 1)) else D
def goC (L : Nat) (z : Int32 × Nat) : Bool := decide (z.1 = 0) && decide (z.2 < L)
def stC (tb : Nat → Int32) (L J W : Nat) : Prop := 1 ≤ W ∧ (∀ i : Nat, 1 ≤ i → i < W → goC L (yvs tb L J i) = true) ∧ goC L (yvs tb L J W) = false
/-- the door that is being read: so many squares; the rest as it was cleared -/
def rowC (tb : Nat → Int32) (L j : Nat) (E0 : Nat → Nat → Int32) (D : Nat → Int32) (E : Nat → Nat → Int32) : Prop := D 0 = numV tb L (lawA tb L (0, 0)).2 ∧ D 1 = numV tb L (lawB tb L (0, 0)).2 ∧ D 2 = nI j ∧ (∀ s : Nat, s < j → E 4 s = khI (byI tb L (zsq tb L s).2) ∧ E 5 s = numV tb L (sqA tb L s (zsq tb L s)).2) ∧ ∀ k : Nat, ¬ (k = 4 ∨ k = 5 ∨ k = 9 ∨ k = 10) → E k = E0 k
def rowW (tb : Nat → Int32) (L J i : Nat) (D : Nat → Int32) (E : Nat → Nat → Int32) : Prop := D 3 = nI i ∧ ∀ v : Nat, v < i → E 9 v = numV tb L (visA tb L v (yvs tb L J v)).2 ∧ E 10 v = numV tb L (visB tb L v (yvs tb L J v)).2
theorem lzF_ne {F : Nat → Nat → Int32} {k j : Nat} {g : Nat → Int32} (h : j ≠ k) : lzF F k g j = F j := if_neg h
theorem lzF_eq {F : Nat → Nat → Int32} {k : Nat} {g : Nat → Int32} : lzF F k g k = g := if_pos rfl
theorem upd_eq {f : Nat → Int32} {k : Nat} {x : Int32} : upd f k x k = x := if_pos rfl
theorem rowC_s {tb : Nat → Int32} {L j : Nat} {E0 : Nat → Nat → Int32} {D : Nat → Int32} {E : Nat → Nat → Int32} (h : rowC tb L j E0 D E) (hz : (zsq tb L (j + 1)).1 = 0) : rowC tb L (j + 1) E0 (sqDD tb L j (zsq tb L j) D) (sqFD tb L j (zsq tb L j) E) := by
  obtain ⟨h0, h1, h2, h3, h4⟩ := h
  have hz' : (sqZ tb L j (zsq tb L j)).1 = 0 := hz
  unfold sqDD sqFD
  rw [if_pos hz', if_pos hz']
  refine ⟨(upd_ne (by decide)).trans h0, (upd_ne (by decide)).trans h1, upd_eq, fun s hs => ?_, fun k hk => ?_⟩
  · rw [lzF_ne (show (4 : Nat) ≠ 5 by decide), lzF_eq, lzF_eq]
    by_cases q : s = j
    · subst q
      rw [upd_eq, upd_eq]
      exact ⟨rfl, rfl⟩
    · rw [upd_ne q, upd_ne q]
      exact h3 s (by omega)
  · rw [lzF_ne (by omega), lzF_ne (by omega)]
    exact h4 k hk
theorem sqDD_3 {tb : Nat → Int32} {L j : Nat} {z : Int32 × Nat} {D : Nat → Int32} : sqDD tb L j z D 3 = D 3 := by
  unfold sqDD
  split
  · exact upd_ne (by decide)
  · rfl
theorem rowW_s {tb : Nat → Int32} {L J i : Nat} {D : Nat → Int32} {E : Nat → Nat → Int32} (h : rowW tb L J i D E) (hz : (yvs tb L J (i + 1)).1 = 0) : rowW tb L J (i + 1) (visD tb L i (yvs tb L J i) D) (visF tb L i (yvs tb L J i) E) := by
  obtain ⟨h1, h2⟩ := h
  have hz' : (visZ tb L i (yvs tb L J i)).1 = 0 := hz
  unfold visD visF
  rw [if_pos hz', if_pos hz']
  refine ⟨upd_eq, fun v hv => ?_⟩
  rw [lzF_ne (show (9 : Nat) ≠ 10 by decide), lzF_eq, lzF_eq]
  by_cases q : v = i
  · subst q
    rw [upd_eq, upd_eq]
    exact ⟨rfl, rfl⟩
  · rw [upd_ne q, upd_ne q]
    exact h2 v (by omega)
theorem rowC_v {tb : Nat → Int32} {L j i : Nat} {z : Int32 × Nat} {E0 : Nat → Nat → Int32} {D : Nat → Int32} {E : Nat → Nat → Int32} (h : rowC tb L j E0 D E) : rowC tb L j E0 (visD tb L i z D) (visF tb L i z E) := by
  unfold visD visF
  split
  · obtain ⟨h0, h1, h2, h3, h4⟩ := h
    refine ⟨(upd_ne (by decide)).trans h0, (upd_ne (by decide)).trans h1, (upd_ne (by decide)).trans h2, fun s hs => ?_, fun k hk => ?_⟩
    · rw [lzF_ne (show (4 : Nat) ≠ 10 by decide), lzF_ne (show (4 : Nat) ≠ 9 by decide), lzF_ne (show (5 : Nat) ≠ 10 by decide), lzF_ne (show (5 : Nat) ≠ 9 by decide)]
      exact h3 s hs
    · rw [lzF_ne (by omega), lzF_ne (by omega)]
      exact h4 k hk
  · exact h
/-- what a text leaves of the class's tape and spare door -/
def drC (tb : Nat → Int32) (L : Nat) (E0 : Nat → Nat → Int32) (r : Int32) (z : Int32 × Nat) (D : Nat → Int32) (E : Nat → Nat → Int32) : Prop := ∃ J W : Nat, stS tb L J ∧ stC tb L J W ∧ z = yvs tb L J W ∧ r = z.1 ∧ (z.1 = 0 → rowC tb L J E0 D E ∧ rowW tb L J W D E)
theorem goS_n {tb : Nat → Int32} {L : Nat} {z : Int32 × Nat} (h : ¬ z.1 = 0) : goS tb L z = false := by
  unfold goS
  rw [decide_eq_false h]
  rfl
theorem goS_k {tb : Nat → Int32} {L : Nat} {z : Int32 × Nat} (h : kokB tb L z.2 = false) : goS tb L z = false := by
  unfold goS
  rw [h, Bool.and_false]
theorem goS_y {tb : Nat → Int32} {L : Nat} {z : Int32 × Nat} (h0 : z.1 = 0) (h : kokB tb L z.2 = true) : goS tb L z = true := by
  unfold goS
  rw [h, decide_eq_true h0]
  rfl
theorem goC_n {L : Nat} {z : Int32 × Nat} (h : ¬ z.1 = 0) : goC L z = false := by
  unfold goC
  rw [decide_eq_false h]
  rfl
theorem goC_k {L : Nat} {z : Int32 × Nat} (h : ¬ z.2 < L) : goC L z = false := by
  unfold goC
  rw [decide_eq_false h, Bool.and_false]
theorem goC_y {L : Nat} {z : Int32 × Nat} (h0 : z.1 = 0) (h : z.2 < L) : goC L z = true := by
  unfold goC
  rw [decide_eq_true h, decide_eq_true h0]
  rfl
theorem lawZ_le {tb : Nat → Int32} {L : Nat} {z : Int32 × Nat} (h : z.2 ≤ L) : (lawZ tb L z).2 ≤ L := sgnS_le (by decide) (numS_le (sgnS_le (by decide) (numS_le (sgnS_le (by decide) h))))
theorem sqZ_le {tb : Nat → Int32} {L N : Nat} {z : Int32 × Nat} (h : z.2 ≤ L) : (sqZ tb L N z).2 ≤ L := sgnS_le (by decide) (numS_le (sqA_le h))
theorem visZ_le {tb : Nat → Int32} {L N : Nat} {z : Int32 × Nat} (h : z.2 ≤ L) : (visZ tb L N z).2 ≤ L := sgnS_le (by decide) (numS_le (sgnS_le (by decide) (numS_le (visA_le h))))
theorem zsq_le {tb : Nat → Int32} {L : Nat} : ∀ j : Nat, (zsq tb L j).2 ≤ L
  | 0 => lawZ_le (Nat.zero_le _)
  | j + 1 => sqZ_le (zsq_le j)
theorem yvs_le {tb : Nat → Int32} {L J : Nat} : ∀ j : Nat, (yvs tb L J j).2 ≤ L
  | 0 => zsq_le J
  | j + 1 => visZ_le (yvs_le j)
theorem zsq_z {tb : Nat → Int32} {L : Nat} {z : Int32 × Nat} (h : z = lawZ tb L (0, 0)) : z = zsq tb L 0 := h
theorem zsq_s {tb : Nat → Int32} {L j : Nat} {z w : Int32 × Nat} (h : w = sqZ tb L j z) (hz : z = zsq tb L j) : w = zsq tb L (j + 1) := by
  subst hz
  exact h
theorem yvs_s {tb : Nat → Int32} {L J j : Nat} {z w : Int32 × Nat} (h : w = visZ tb L j z) (hz : z = yvs tb L J j) : w = yvs tb L J (j + 1) := by
  subst hz
  exact h
theorem rowC_z {tb : Nat → Int32} {L j : Nat} {z w : Int32 × Nat} {E0 : Nat → Nat → Int32} {D : Nat → Int32} {E : Nat → Nat → Int32} (h : rowC tb L j E0 D E) (hz : z = zsq tb L j) (hw : w = sqZ tb L j z) (h0 : w.1 = 0) : rowC tb L (j + 1) E0 (sqDD tb L j z D) (sqFD tb L j z E) := by
  subst hz
  subst hw
  exact rowC_s h h0
theorem rowC_0 {tb : Nat → Int32} {L : Nat} {E : Nat → Nat → Int32} {D : Nat → Int32} {x y : Int32} (hx : x = numV tb L (lawA tb L (0, 0)).2) (hy : y = numV tb L (lawB tb L (0, 0)).2) (h2 : D 2 = nI 0) : rowC tb L 0 E (upd (upd D 0 x) 1 y) E := ⟨hx, hy, h2, fun s hs => absurd hs (Nat.not_lt_zero _), fun _ _ => rfl⟩
theorem rowW_z {tb : Nat → Int32} {L J i : Nat} {z w : Int32 × Nat} {D : Nat → Int32} {E : Nat → Nat → Int32} (h : rowW tb L J i D E) (hz : z = yvs tb L J i) (hw : w = visZ tb L i z) (h0 : w.1 = 0) : rowW tb L J (i + 1) (visD tb L i z D) (visF tb L i z E) := by
  subst hz
  subst hw
  exact rowW_s h h0
theorem rowW_0 {tb : Nat → Int32} {L J : Nat} {D : Nat → Int32} {E : Nat → Nat → Int32} (h : D 3 = nI 0) : rowW tb L J 0 D E := ⟨h, fun v hv => absurd hv (Nat.not_lt_zero _)⟩
theorem zl_8 {tb : Nat → Int32} {L j : Nat} {z : Int32 × Nat} (hz : z = zsq tb L j) (h : z.1 = 0) : j ≤ 8 := by
  subst hz
  exact zsq_le8 h
theorem yl_5 {tb : Nat → Int32} {L J j : Nat} {z : Int32 × Nat} (hz : z = yvs tb L J j) (h : z.1 = 0) : j ≤ 5 := by
  subst hz
  exact yvs_le5 h
theorem yl_0 {tb : Nat → Int32} {L M : Nat} {z w : Int32 × Nat} (hw : w = visZ tb L M z) (h : w.1 = 0) : z.1 = 0 := by
  subst hw
  exact (visZ_0 h).1
theorem go_S {tb : Nat → Int32} {L j : Nat} {z : Int32 × Nat} {b : Bool} (hz : z = zsq tb L j) (h : goS tb L z = b) : goS tb L (zsq tb L j) = b := by
  subst hz
  exact h
theorem go_C {tb : Nat → Int32} {L J j : Nat} {z : Int32 × Nat} {b : Bool} (hz : z = yvs tb L J j) (h : goC L z = b) : goC L (yvs tb L J j) = b := by
  subst hz
  exact h
