/-! rows that change -/
theorem rowQ_drop {C it B : Nat → Nat → Int32} {rr r : Nat} (h : rowQ (C 1 r) (C 2 r) (it r) (B 1 r) (B 2 r) (fun i => B 3 (40 * r + i))) : rowQ (C 1 r) (upd (C 2) rr (-1000000) r) (it r) (upd (B 1) rr (-1) r) (B 2 r) (fun i => B 3 (40 * r + i)) := by
  by_cases q : r = rr
  · subst q
    rw [upd_eq, upd_eq]
    exact Or.inl ⟨rfl, rfl⟩
  · rw [upd_ne q, upd_ne q]
    exact h
theorem rowQ_row {C it B : Nat → Nat → Int32} {rr r : Nat} {lx n : Int32} (hr : rr < 8) (hlx : inR lx 0 2 = true) (h40 : n ≤ 40) (h0 : 0 ≤ n) (h : rowQ (C 1 r) (C 2 r) (it r) (B 1 r) (B 2 r) (fun i => B 3 (40 * r + i))) : rowQ (upd (C 1) rr lx r) (upd (C 2) rr n r) (lzF it rr (fa_fill (fun _ => 0) (it rr) 40) r) (upd (B 1) rr lx r) (upd (B 2) rr n r) (fun i => rowZ (B 3) rr 40 (40 * r + i)) := by
  by_cases q : r = rr
  · subst q
    rw [upd_eq, upd_eq, upd_eq, upd_eq, lzF_eq]
    obtain ⟨k, hk, rfl⟩ := in_nat (x := n) (n := 40) (by decide) (by unfold inR; rw [decide_eq_true h0]; exact decide_eq_true h40)
    refine Or.inr ⟨rfl, rfl, ⟨k, hk, rfl⟩, hlx, fun i hi => ?_⟩
    show fa_fill (fun _ => 0) (it r) 40 i = rowZ (B 3) r 40 (40 * r + i)
    unfold rowZ
    rw [fa_fill_in hi, if_pos (by omega)]
  · rw [upd_ne q, upd_ne q, upd_ne q, upd_ne q, lzF_ne q]
    rcases h with h1 | ⟨q1, q2, q3, q4, q5⟩
    · exact Or.inl h1
    · refine Or.inr ⟨q1, q2, q3, q4, fun i hi => ?_⟩
      show it r i = rowZ (B 3) rr 40 (40 * r + i)
      unfold rowZ
      rw [if_neg (by omega)]
      exact q5 i hi
theorem rowQ_set {C it B : Nat → Nat → Int32} {rr r i : Nat} {v : Int32} (hr : rr < 8) (hi : i < 40) (q2 : C 1 rr = B 1 rr) (h : rowQ (C 1 r) (C 2 r) (it r) (B 1 r) (B 2 r) (fun i => B 3 (40 * r + i))) : rowQ (C 1 r) (C 2 r) (lzF it rr (upd (it rr) i (lowB v (C 1 rr))) r) (B 1 r) (B 2 r) (fun k => upd (B 3) (40 * rr + i) (lowB v (B 1 rr)) (40 * r + k)) := by
  rcases h with h1 | ⟨q1, q2', q3, q4, q5⟩
  · exact Or.inl h1
  · refine Or.inr ⟨q1, q2', q3, q4, fun k hk => ?_⟩
    show lzF it rr (upd (it rr) i (lowB v (C 1 rr))) r k = upd (B 3) (40 * rr + i) (lowB v (B 1 rr)) (40 * r + k)
    by_cases q : r = rr
    · subst q
      rw [lzF_eq]
      by_cases e : k = i
      · subst e
        rw [upd_eq, upd_eq, q2]
      · rw [upd_ne e, upd_ne (by omega)]
        exact q5 k hk
    · rw [lzF_ne q, upd_ne (by omega)]
      exact q5 k hk
theorem in_has {x i : Int32} {m : Nat} (hx : x = nI m) (hm : m ≤ 40) : inR i 0 (x - 1) = hasB x i 1 := by
  subst hx
  by_cases h : i < 0
  · rw [inR_f1 h]
    unfold hasB
    rw [decide_eq_true h]
    rfl
  · obtain ⟨k, hk, rfl⟩ := nI_of h
    rw [inR_pos hk (by omega)]
    unfold hasB
    rw [decide_eq_false h, show (1 : Int32).toInt64 = lN 1 from rfl, nI_l hk, nI_l (by omega), lN_add, show decide ((1 : Int32) < 0) = false from rfl]
    have e : lN (k + 1) ≤ lN m ↔ k + 1 ≤ m := pk_lLE (by omega) (by omega)
    simp only [e, Bool.not_false, Bool.true_and]
    exact decide_eq_decide.mpr ⟨fun h => h, fun h => h⟩
theorem one_nat {a b m : Nat} (h : (1 : Int32) = nI b) (hb : a + b ≤ m) (hm : m ≤ 40) : b = 1 := ((nI_eq (a := 1) (by decide) (by omega)).mp h).symm
