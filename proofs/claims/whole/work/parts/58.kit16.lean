/-! the reference's door as a whole -/
def cpR (g f : Nat → Int32) (k : Nat) : Nat → Int32 := fun j => if j < k then g j else f j
theorem cpR_0 (g f : Nat → Int32) : cpR g f 0 = f := by
  funext j
  simp [cpR]
theorem cpR_s (g f : Nat → Int32) (k : Nat) : upd (cpR g f k) k (g k) = cpR g f (k + 1) := by
  funext j
  by_cases q : j = k
  · subst q
    simp [upd, cpR]
  · have e : j < k + 1 ↔ j < k := by omega
    simp [upd, cpR, q, e]
theorem sqZ_stop {tb : Nat → Int32} {L N : Nat} {z : Int32 × Nat} (h : goS tb L z = false) : sqZ tb L N z = (failI z.1 1, z.2) := by
  by_cases hz : z.1 = 0
  · refine sqZ_no ?_
    unfold goS at h
    rw [decide_eq_true hz, Bool.true_and] at h
    exact h
  · rw [sqZ_n hz, failI_n hz]
theorem visZ_stop {tb : Nat → Int32} {L M : Nat} {z : Int32 × Nat} (h : goV tb L z = false) : visZ tb L M z = (failI z.1 1, z.2) := by
  by_cases hz : z.1 = 0
  · refine visZ_no ?_
    unfold goV at h
    rw [decide_eq_true hz, Bool.true_and] at h
    exact of_decide_eq_false h
  · rw [visZ_n hz, failI_n hz]
theorem yvs_z {tb : Nat → Int32} {L J : Nat} : ∀ {i : Nat}, (yvs tb L J i).1 = 0 → (zsq tb L J).1 = 0
  | 0, h => h
  | i + 1, h => yvs_z (i := i) (visZ_0 h).1
theorem rowS_cp {tb : Nat → Int32} {L j : Nat} {w f : Nat → Int32} (hj : j ≤ 8) (h : rowS tb L j w) : rowS tb L j (cpR w f 64) := by
  have e : ∀ k, k < 64 → cpR w f 64 k = w k := fun k hk => if_pos hk
  obtain ⟨h0, h1, h2, h3, h4⟩ := h
  refine ⟨(e 0 (by decide)).trans h0, (e 1 (by decide)).trans h1, (e 2 (by decide)).trans h2, fun s hs => ?_, fun s hs => ?_⟩
  · rw [e _ (by omega), e _ (by omega)]; exact h3 s hs
  · rw [e _ (by omega), e _ (by omega), e _ (by omega)]; exact h4 s hs
theorem rowV_cp {tb : Nat → Int32} {L J i : Nat} {w f : Nat → Int32} (hi : i ≤ 5) (h : rowV tb L J i w) : rowV tb L J i (cpR w f 64) := by
  have e : ∀ k, k < 64 → cpR w f 64 k = w k := fun k hk => if_pos hk
  obtain ⟨h1, h2, h3⟩ := h
  refine ⟨(e 3 (by decide)).trans h1, fun s hs => ?_, fun s hs => ?_⟩
  · rw [e _ (by omega), e _ (by omega)]; exact h2 s hs
  · rw [e _ (by omega), e _ (by omega)]; exact h3 s hs
/-- what a text leaves of the reference -/
def drM (S f tb : Nat → Int32) (L : Nat) (r : Int32) (u1 u2 : Nat → Int32) : Prop := ∃ J V : Nat, stS tb L J ∧ stV tb L J V ∧ (∀ j : Nat, ¬ (j = 0 ∨ j = 9 ∨ 11 ≤ j ∧ j ≤ 18) → u1 j = S j) ∧ u1 0 = 0 ∧ u1 11 = 0 ∧
  ((¬ (finZ L (yvs tb L J V)).1 = 0 ∧ r = -1000100 - nI (finZ L (yvs tb L J V)).2 ∧ u1 18 = (finZ L (yvs tb L J V)).1 ∧ u1 9 = S 9 ∧ u2 = f) ∨
   ((finZ L (yvs tb L J V)).1 = 0 ∧ r = nI J ∧ J ≤ 8 ∧ V ≤ 5 ∧ u1 18 = S 18 ∧ u1 9 = 0 ∧ rowS tb L J u2 ∧ rowV tb L J V u2))
theorem dr_row0 {tb fr : Nat → Int32} {L k : Nat} {x y : Int32} (hk : k = 64) (hx : x = numV tb L (lawA tb L (0, 0)).2) (hy : y = numV tb L (lawB tb L (0, 0)).2) : rowS tb L 0 (upd (upd (fa_fill (fun _ => 0) fr k) 0 x) 1 y) ∧ rowV tb L 0 0 (upd (upd (fa_fill (fun _ => 0) fr k) 0 x) 1 y) := by
  subst hk
  have e : ∀ j, 2 ≤ j → j < 64 → upd (upd (fa_fill (fun _ => (0 : Int32)) fr 64) 0 x) 1 y j = 0 := fun j h1 h2 => by
    rw [upd_ne (by omega), upd_ne (by omega), fa_fill_in h2]
  refine ⟨⟨hx, hy, e 2 (by decide) (by decide), fun s hs => absurd hs (Nat.not_lt_zero _), fun s hs => ⟨e _ (by omega) (by omega), e _ (by omega) (by omega), e _ (by omega) (by omega)⟩⟩, e 3 (by decide) (by decide), fun s hs => absurd hs (Nat.not_lt_zero _), fun s hs => ⟨e _ (by omega) (by omega), e _ (by omega) (by omega)⟩⟩
theorem rowV_J {tb : Nat → Int32} {L I J : Nat} {w : Nat → Int32} (h : rowV tb L I 0 w) : rowV tb L J 0 w := ⟨h.1, fun s hs => absurd hs (Nat.not_lt_zero _), h.2.2⟩
/-- more squares, more visitors -/
theorem go_s {p : Nat → Bool} {j : Nat} (h : ∀ i : Nat, 1 ≤ i → i < j → p i = true) (hj : p j = true) : ∀ i : Nat, 1 ≤ i → i < j + 1 → p i = true := fun i h1 h2 => by
  by_cases q : i = j
  · rw [q]; exact hj
  · exact h i h1 (by omega)
theorem st_ge {j : Nat} {P : Prop} (h : j = 0 → P) (hn : ¬ P) : 1 ≤ j := by
  rcases Nat.eq_zero_or_pos j with q | q
  · exact absurd (h q) hn
  · exact q
theorem dr_ge {j : Nat} {p : Nat → Bool} (h : j = 0 → p 0 = true) (hn : p j = false) : 1 ≤ j := by
  rcases Nat.eq_zero_or_pos j with q | q
  · subst q
    rw [h rfl] at hn
    exact Bool.noConfusion hn
  · exact q
theorem fin_z {L : Nat} {z : Int32 × Nat} (h : (finZ L z).1 = 0) : z.1 = 0 := by
  unfold finZ at h
  split at h
  · exact absurd h (show ¬ (1 : Int32) = 0 by decide)
  · exact h
theorem dr_el {S u v : Nat → Int32} {L : Nat} {z : Int32 × Nat} (h : elM (upd S 0 0) u) (k : flM u v L z) : ∀ j : Nat, ¬ (j = 0 ∨ j = 9 ∨ 11 ≤ j ∧ j ≤ 18) → v j = S j := fun j hj => by
  rw [k.1 j (by omega), h j (by omega), upd_ne (by omega)]
theorem dr_el2 {S u v : Nat → Int32} {L : Nat} {z : Int32 × Nat} (h : elM (upd S 0 0) u) (k : flM u v L z) : ∀ j : Nat, ¬ (j = 0 ∨ j = 9 ∨ 11 ≤ j ∧ j ≤ 18) → upd v 9 0 j = S j := fun j hj => by
  rw [upd_ne (by omega), k.1 j (by omega), h j (by omega), upd_ne (by omega)]
theorem sq_st0 {tb : Nat → Int32} {L N : Nat} {z : Int32 × Nat} (h : goS tb L z = false) : ¬ (sqZ tb L N z).1 = 0 := by
  rw [sqZ_stop h]
  exact fun q => failI_0 (k := 1) (by decide) q
theorem vs_st0 {tb : Nat → Int32} {L N : Nat} {z : Int32 × Nat} (h : goV tb L z = false) : ¬ (visZ tb L N z).1 = 0 := by
  rw [visZ_stop h]
  exact fun q => failI_0 (k := 1) (by decide) q
