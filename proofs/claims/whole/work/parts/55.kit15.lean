/-! contracts said otherwise; the reference's parser against the place z -/
theorem met_v {l : Launch} {y : MethodName} {wl : List Cond} {rm : Room} {Pc : Array Value → State → Prop} {G : lzG} {W1 : va_W} {A : Nat → Prop} {mc ms : Nat} {fr : Addr → Prop} {p1 : Unit → Prop} (h : Met l y wl rm Pc (va_Qv (S := Unit) p1 (rwB G (fun _ => W1)) A) mc ms fr) {T : Type} {post : T → Prop} {Wd : T → va_W} (u : T) (hw : W1 = Wd u) (hp : post u) : Met l y wl rm Pc (va_Qv (S := T) post (rwB G Wd) A) mc ms fr := by
  refine MetFree.mono h (fun _ _ q => q) (fun _ _ _ _ _ q => q) (fun a st o t _ q => ⟨?_, q.2⟩)
  obtain ⟨⟨u0, e1, -, e3⟩, hF⟩ := q.1
  refine ⟨⟨u, e1, hp, ?_⟩, hF⟩
  unfold rwB at e3 ⊢
  rw [← hw]
  exact e3
def endT (tb : Nat → Int32) (L p : Nat) : Nat := if p < L then (bif digB (tb p) then p + figN tb L p else p + 1) else p
def tokT (tb : Nat → Int32) (L p : Nat) : Int32 := if p < L then (bif digB (tb p) then (if 2 < figN tb L p then 0 else 3) else tokP (tb p)) else 1
def valT (tb : Nat → Int32) (L p : Nat) : Int32 := if p < L then (bif digB (tb p) then numV tb L p else tb p) else -1000000
/-- all but the parser's own numbers are as before -/
def elM (S u : Nat → Int32) : Prop := ∀ j : Nat, ¬ (12 ≤ j ∧ j ≤ 17) → u j = S j
/-- all but start, token, value, cursor -/
def elN (S u : Nat → Int32) : Prop := ∀ j : Nat, ¬ (12 ≤ j ∧ j ≤ 15) → u j = S j
theorem elM_r (S : Nat → Int32) : elM S S := fun _ _ => rfl
theorem elM_t {S u w : Nat → Int32} (h : elM S u) (k : elM u w) : elM S w := fun j hj => (k j hj).trans (h j hj)
theorem elN_M {S u : Nat → Int32} (h : elN S u) : elM S u := fun j hj => h j (by omega)
theorem elM_at {S : Nat → Int32} {x : Int32} {k : Nat} (hk : 12 ≤ k ∧ k ≤ 17) : elM S (upd S k x) := fun j hj => if_neg (by omega)
theorem elN_at {S : Nat → Int32} {x : Int32} {k : Nat} (hk : 12 ≤ k ∧ k ≤ 15) : elN S (upd S k x) := fun j hj => if_neg (by omega)
theorem elN_t {S u w : Nat → Int32} (h : elN S u) (k : elN u w) : elN S w := fun j hj => (k j hj).trans (h j hj)
/-- the token that stands at C has been read -/
def npM (u tb : Nat → Int32) (L C : Nat) : Prop := u 13 = nI C ∧ u 14 = tokT tb L C ∧ u 15 = valT tb L C ∧ u 12 = nI (endT tb L C)
/-- the reference's parser stands where z says -/
def rpM (S tb : Nat → Int32) (L : Nat) (z : Int32 × Nat) : Prop := S 11 = nI L ∧ z.2 ≤ L ∧ S 16 = z.1 ∧ (z.1 = 0 → npM S tb L z.2) ∧ (¬ z.1 = 0 → S 17 = nI z.2 ∧ 0 < z.1)
theorem figN_pos {tb : Nat → Int32} {L p : Nat} (h : p < L) (hd : digB (tb p) = true) : 1 ≤ figN tb L p := by rw [figN_in h hd]; omega
theorem endT_le {tb : Nat → Int32} {L p : Nat} (h : p ≤ L) : endT tb L p ≤ L := by
  have := figN_le tb h
  unfold endT
  cases digB (tb p) <;> split <;> (try simp only [cond_true, cond_false]) <;> omega
def mstZ (tb : Nat → Int32) (L : Nat) (b : Bool) (z : Int32 × Nat) : Int32 × Nat := if z.1 = 0 then (bif b then (0, endT tb L z.2) else (1, z.2)) else z
theorem mstZ_t {tb : Nat → Int32} {L : Nat} {z : Int32 × Nat} (h : z.1 = 0) : mstZ tb L true z = (0, endT tb L z.2) := by simp [mstZ, h]
theorem mstZ_n {tb : Nat → Int32} {L : Nat} {b : Bool} {z : Int32 × Nat} (h : ¬ z.1 = 0) : mstZ tb L b z = z := by simp [mstZ, h]
theorem mstZ_f {tb : Nat → Int32} {L : Nat} {z : Int32 × Nat} : mstZ tb L false z = (failI z.1 1, z.2) := by
  unfold mstZ failI
  by_cases h : z.1 = 0
  · rw [if_pos h, if_pos h]; rfl
  · rw [if_neg h, if_neg h]
theorem failI_n {e k : Int32} (h : ¬ e = 0) : failI e k = e := if_neg h
theorem failI_z {e k : Int32} (h : e = 0) : failI e k = k := if_pos h
theorem rpM_bad {S tb : Nat → Int32} {L : Nat} {z : Int32 × Nat} {k : Int32} (h : rpM S tb L z) (hz : S 16 = 0) (hk : 0 < k) : rpM (upd (upd S 16 k) 17 (S 13)) tb L (failI z.1 k, z.2) := by
  obtain ⟨h1, h2, h3, h4, h5⟩ := h
  have hz1 : z.1 = 0 := h3.symm.trans hz
  have e : failI z.1 k = k := failI_z hz1
  have hk0 : ¬ k = 0 := fun q => by rw [q] at hk; exact absurd hk (by decide)
  refine ⟨h1, h2, ?_, fun q => ?_, fun _ => ⟨?_, ?_⟩⟩
  · show k = failI z.1 k
    exact e.symm
  · exact absurd (e.symm.trans q) hk0
  · show S 13 = nI z.2
    exact (h4 hz1).1
  · show 0 < failI z.1 k
    rw [e]; exact hk
theorem rpM_same {S tb : Nat → Int32} {L : Nat} {z : Int32 × Nat} {k : Int32} (h : rpM S tb L z) (hz : ¬ S 16 = 0) : rpM S tb L (failI z.1 k, z.2) := by
  have e : (failI z.1 k, z.2) = z := by rw [failI_n (fun q => hz (h.2.2.1.trans q))]
  rw [e]
  exact h
theorem rpM_z {S tb : Nat → Int32} {L : Nat} {z : Int32 × Nat} (h : rpM S tb L z) : S 16 = 0 ↔ z.1 = 0 := by rw [h.2.2.1]
theorem rpM_next {S u tb : Nat → Int32} {L : Nat} {z : Int32 × Nat} (h : rpM S tb L z) (hz : S 16 = 0) (hn : npM u tb L (endT tb L z.2)) (he : elN S u) : rpM u tb L (mstZ tb L true z) := by
  rw [mstZ_t ((rpM_z h).mp hz)]
  refine ⟨(he 11 (by decide)).trans h.1, endT_le h.2.1, (he 16 (by decide)).trans hz, fun _ => hn, fun q => absurd rfl q⟩
theorem dig_no {x : Int32} (h : digB x = true) : inR x 97 122 = false := by
  unfold digB inR at h
  simp only [Bool.and_eq_true, decide_eq_true_eq] at h
  exact inR_f1 (Int32.lt_of_le_of_lt h.2 (by decide))
theorem numK_ge {k : Nat} (h : 2 ≤ k) : numK k = 2 := by unfold numK; rw [if_neg (by omega)]
theorem numF_1 {tb : Nat → Int32} {L C : Nat} (h : C < L) : tb C - 48 = numF tb L C (numK 1) := by
  show tb C - 48 = 0 * 10 + byI tb L (C + 0) - 48
  unfold byI
  rw [Nat.add_zero, if_pos h, Int32.zero_mul, Int32.zero_add]
theorem numF_2 {tb : Nat → Int32} {L C k : Nat} (h1 : 1 ≤ k) (h2 : k < 2) (h : C + k < L) : 10 * numF tb L C (numK k) + tb (C + k) - 48 = numF tb L C (numK (k + 1)) := by
  have e : k = 1 := by omega
  subst e
  show 10 * numF tb L C 1 + tb (C + 1) - 48 = numF tb L C 1 * 10 + byI tb L (C + 1) - 48
  unfold byI
  rw [if_pos h, Int32.mul_comm]
theorem numF_3 {tb : Nat → Int32} {L C k : Nat} (h : 2 ≤ k) : numF tb L C (numK k) = numF tb L C (numK (k + 1)) := by rw [numK_ge h, numK_ge (by omega)]
theorem numS_n {tb : Nat → Int32} {L : Nat} {lo hi : Int32} {z : Int32 × Nat} (h : ¬ z.1 = 0) : numS tb L lo hi z = z := by
  have e1 : numE1 tb L z = z.1 := by
    unfold numE1
    split
    · exact failI_n h
    · rfl
  have e : numE tb L lo hi z = z.1 := by
    unfold numE
    rw [e1, failI_n h]
    cases inR (numV tb L z.2) lo hi <;> rfl
  unfold numS
  rw [e, if_neg h]
theorem fig_tok {tb : Nat → Int32} {L p : Nat} : tokT tb L p = 3 ↔ ¬ (figN tb L p = 0 ∨ 2 < figN tb L p) := by
  unfold tokT
  by_cases h : p < L
  · rw [if_pos h]
    cases hd : digB (tb p)
    · rw [figN_out h hd]
      simp only [cond_false, true_or, not_true]
      refine ⟨fun q => ?_, False.elim⟩
      unfold tokP at q
      split at q
      · exact absurd q (by decide)
      · split at q
        · exact absurd q (by decide)
        · split at q <;> exact absurd q (by decide)
    · have := figN_pos h hd
      simp only [cond_true]
      by_cases h2 : 2 < figN tb L p
      · simp [h2]
      · simp [h2]; omega
  · rw [if_neg h, figN_end (by omega)]
    simp
theorem tok_in {tb : Nat → Int32} {L p : Nat} (h : tokT tb L p = 3) : p < L ∧ digB (tb p) = true := by
  have h1 := fig_tok.mp h
  by_cases hp : p < L
  · refine ⟨hp, ?_⟩
    cases hd : digB (tb p)
    · exact absurd (Or.inl (figN_out hp hd)) h1
    · rfl
  · exact absurd (Or.inl (figN_end (by omega))) h1
theorem numS_tok {tb : Nat → Int32} {L : Nat} {lo hi : Int32} {z : Int32 × Nat} (h : z.1 = 0) (ht : ¬ tokT tb L z.2 = 3) : numS tb L lo hi z = (failI z.1 1, z.2) := by
  have h1 : figN tb L z.2 = 0 ∨ 2 < figN tb L z.2 := Decidable.byContradiction (fun q => ht (fig_tok.mpr q))
  have e1 : numE1 tb L z = 1 := by unfold numE1; rw [if_pos h1, failI_z h]
  have e : numE tb L lo hi z = 1 := by
    unfold numE
    rw [e1]
    cases inR (numV tb L z.2) lo hi <;> rfl
  unfold numS
  rw [e, failI_z h]
  rfl
theorem val_num {tb : Nat → Int32} {L p : Nat} (h : tokT tb L p = 3) : valT tb L p = numV tb L p := by
  obtain ⟨h1, h2⟩ := tok_in h
  unfold valT
  rw [if_pos h1, h2]
  rfl
theorem end_num {tb : Nat → Int32} {L p : Nat} (h : tokT tb L p = 3) : endT tb L p = p + figN tb L p := by
  obtain ⟨h1, h2⟩ := tok_in h
  unfold endT
  rw [if_pos h1, h2]
  rfl
theorem numS_rng {tb : Nat → Int32} {L : Nat} {lo hi : Int32} {z : Int32 × Nat} (h : z.1 = 0) (ht : tokT tb L z.2 = 3) (hr : inR (valT tb L z.2) lo hi = false) : numS tb L lo hi z = (failI z.1 2, z.2) := by
  have e1 : numE1 tb L z = 0 := by unfold numE1; rw [if_neg (fig_tok.mp ht), h]
  have e : numE tb L lo hi z = 2 := by
    unfold numE
    rw [e1, ← val_num ht, hr]
    rfl
  unfold numS
  rw [e, failI_z h]
  rfl
theorem numS_ok {tb : Nat → Int32} {L : Nat} {lo hi : Int32} {z : Int32 × Nat} (h : z.1 = 0) (ht : tokT tb L z.2 = 3) (hr : inR (valT tb L z.2) lo hi = true) : numS tb L lo hi z = mstZ tb L true z := by
  have e1 : numE1 tb L z = 0 := by unfold numE1; rw [if_neg (fig_tok.mp ht), h]
  have e : numE tb L lo hi z = 0 := by
    unfold numE
    rw [e1, ← val_num ht, hr]
    rfl
  unfold numS
  rw [e, mstZ_t h, end_num ht]
  rfl
theorem tokP_4 {x : Int32} : tokP x = 4 ↔ (x = 44 ∨ x = 59) := by
  unfold tokP
  by_cases h : inL x.toInt64 97 122 = true
  · rw [if_pos h]
    refine ⟨fun q => absurd q (by decide), ?_⟩
    rintro (q | q) <;> subst q <;> exact absurd h (by decide +kernel)
  · rw [if_neg h]
    by_cases h1 : x = 44
    · simp [h1]
    · by_cases h2 : x = 59
      · simp [h2]
      · simp [h1, h2]
/-- a byte that is no figure is its own token -/
theorem plain_at {tb : Nat → Int32} {L p : Nat} (h : p < L) (hd : digB (tb p) = false) : tokT tb L p = tokP (tb p) ∧ valT tb L p = tb p ∧ endT tb L p = p + 1 := by
  unfold tokT valT endT
  rw [if_pos h, if_pos h, if_pos h, hd]
  exact ⟨rfl, rfl, rfl⟩
theorem sgn_tok {tb : Nat → Int32} {L p : Nat} {c : Int32} (hc : c = 44 ∨ c = 59) : (tokT tb L p = 4 ∧ valT tb L p = c) ↔ byI tb L p = c := by
  have hd : digB c = false := by rcases hc with q | q <;> subst q <;> decide +kernel
  by_cases h : p < L
  · have hb : byI tb L p = tb p := if_pos h
    rw [hb]
    constructor
    · rintro ⟨h1, h2⟩
      cases hd2 : digB (tb p)
      · exact (plain_at h hd2).2.1.symm.trans h2
      · unfold tokT at h1
        rw [if_pos h, hd2] at h1
        simp only [cond_true] at h1
        split at h1 <;> exact absurd h1 (by decide)
    · intro e
      have hd2 : digB (tb p) = false := by rw [e]; exact hd
      obtain ⟨e1, e2, -⟩ := plain_at h hd2
      exact ⟨e1.trans (tokP_4.mpr (by rw [e]; exact hc)), e2.trans e⟩
  · have hb : byI tb L p = -1000000 := if_neg h
    rw [hb]
    unfold tokT
    rw [if_neg h]
    constructor
    · rintro ⟨h1, -⟩; exact absurd h1 (by decide)
    · intro e; rcases hc with q | q <;> subst q <;> exact absurd e (by decide)
theorem end_sgn {tb : Nat → Int32} {L p : Nat} {c : Int32} (hd : digB c = false) (hc : ¬ c = -1000000) (h : byI tb L p = c) : endT tb L p = p + 1 := by
  have hp := byI_lt h hc
  have hb : tb p = c := by unfold byI at h; rwa [if_pos hp] at h
  exact (plain_at hp (by rw [hb]; exact hd)).2.2
theorem tokS_n {may room : Bool} {z : Int32 × Nat} (h : ¬ z.1 = 0) : tokS may room z = z := by
  unfold tokS
  rw [failI_n h, failI_n h, if_neg h]
  cases may <;> cases room <;> rfl
theorem sgnS_n {tb : Nat → Int32} {L : Nat} {c : Int32} {z : Int32 × Nat} (h : ¬ z.1 = 0) : sgnS tb L c z = z := tokS_n h
theorem sgnS_t {tb : Nat → Int32} {L : Nat} {c : Int32} {z : Int32 × Nat} (hd : digB c = false) (hc : ¬ c = -1000000) (h : byI tb L z.2 = c) : mstZ tb L true z = sgnS tb L c z := by
  by_cases hz : z.1 = 0
  · rw [mstZ_t hz, end_sgn hd hc h]
    unfold sgnS tokS
    rw [decide_eq_true h, hz]
    rfl
  · rw [mstZ_n hz, sgnS_n hz]
theorem sgnS_f {tb : Nat → Int32} {L : Nat} {c : Int32} {z : Int32 × Nat} (h : z.1 = 0 → ¬ byI tb L z.2 = c) : mstZ tb L false z = sgnS tb L c z := by
  by_cases hz : z.1 = 0
  · rw [mstZ_f]
    unfold sgnS tokS
    rw [decide_eq_false (h hz)]
    rfl
  · rw [mstZ_n hz, sgnS_n hz]
theorem sign_dig {c : Int32} (hc : c = 44 ∨ c = 59) : digB c = false ∧ ¬ c = -1000000 := by
  rcases hc with q | q <;> subst q <;> exact ⟨by decide +kernel, by decide⟩
/-- mustSign's question -/
theorem must_sgn {S tb : Nat → Int32} {L : Nat} {z : Int32 × Nat} {c : Int32} (h : rpM S tb L z) (hc : c = 44 ∨ c = 59) (h1 : S 14 = 4) (h2 : S 15 = c) : mstZ tb L true z = sgnS tb L c z := by
  by_cases hz : z.1 = 0
  · obtain ⟨-, n2, n3, -⟩ := h.2.2.2.1 hz
    exact sgnS_t (sign_dig hc).1 (sign_dig hc).2 ((sgn_tok hc).mp ⟨n2.symm.trans h1, n3.symm.trans h2⟩)
  · rw [mstZ_n hz, sgnS_n hz]
theorem must_sgf {S tb : Nat → Int32} {L : Nat} {z : Int32 × Nat} {c : Int32} (h : rpM S tb L z) (hc : c = 44 ∨ c = 59) (h1 : ¬ (S 14 = 4 ∧ S 15 = c)) : mstZ tb L false z = sgnS tb L c z := by
  refine sgnS_f (fun hz q => h1 ?_)
  obtain ⟨-, n2, n3, -⟩ := h.2.2.2.1 hz
  have := (sgn_tok hc).mpr q
  exact ⟨n2.trans this.1, n3.trans this.2⟩
theorem num_end1 {S u tb : Nat → Int32} {L : Nat} {z : Int32 × Nat} {lo hi : Int32} (hR : rpM S tb L z) (h : ¬ S 16 = 0) (h1 : rpM u tb L (mstZ tb L true z)) (h2 : elM S u) : rpM u tb L (numS tb L lo hi z) ∧ elM S u ∧ ((numS tb L lo hi z).1 = 0 → lo = numV tb L z.2) := by
  have hz : ¬ z.1 = 0 := fun q => h ((rpM_z hR).mpr q)
  rw [mstZ_n hz] at h1
  rw [numS_n hz]
  exact ⟨h1, h2, fun q => absurd q hz⟩
theorem num_end2 {S u tb : Nat → Int32} {L : Nat} {z : Int32 × Nat} {lo hi : Int32} (hz : z.1 = 0) (ht : ¬ tokT tb L z.2 = 3) (h1 : rpM u tb L (mstZ tb L true (failI z.1 1, z.2))) (h2 : elM S u) : rpM u tb L (numS tb L lo hi z) ∧ elM S u ∧ ((numS tb L lo hi z).1 = 0 → lo = numV tb L z.2) := by
  have hf : ¬ (failI z.1 1, z.2).1 = 0 := fun q => failI_0 (k := 1) (by decide) q
  rw [mstZ_n hf] at h1
  rw [numS_tok hz ht]
  exact ⟨h1, h2, fun q => absurd q hf⟩
theorem num_end3 {S u tb : Nat → Int32} {L : Nat} {z : Int32 × Nat} {lo hi : Int32} (hz : z.1 = 0) (ht : tokT tb L z.2 = 3) (hr : inR (valT tb L z.2) lo hi = false) (h1 : rpM u tb L (mstZ tb L true (failI z.1 2, z.2))) (h2 : elM S u) : rpM u tb L (numS tb L lo hi z) ∧ elM S u ∧ ((numS tb L lo hi z).1 = 0 → lo = numV tb L z.2) := by
  have hf : ¬ (failI z.1 2, z.2).1 = 0 := fun q => failI_0 (k := 2) (by decide) q
  rw [mstZ_n hf] at h1
  rw [numS_rng hz ht hr]
  exact ⟨h1, h2, fun q => absurd q hf⟩
theorem num_end4 {S u tb : Nat → Int32} {L : Nat} {z : Int32 × Nat} {lo hi x : Int32} (hz : z.1 = 0) (ht : tokT tb L z.2 = 3) (hr : inR (valT tb L z.2) lo hi = true) (hx : x = valT tb L z.2) (h1 : rpM u tb L (mstZ tb L true z)) (h2 : elM S u) : rpM u tb L (numS tb L lo hi z) ∧ elM S u ∧ ((numS tb L lo hi z).1 = 0 → x = numV tb L z.2) := by
  rw [numS_ok hz ht hr]
  exact ⟨h1, h2, fun _ => hx.trans (val_num ht)⟩
/-- a square: behind the letter; at the end -/
def kokB (tb : Nat → Int32) (L p : Nat) : Bool := !decide (kindB (byI tb L p) = -1000000)
def sqA (tb : Nat → Int32) (L N : Nat) (z : Int32 × Nat) : Int32 × Nat := tokS (kokB tb L z.2) (decide (N < 8)) z
def sqB (tb : Nat → Int32) (L N : Nat) (z : Int32 × Nat) : Int32 × Nat := numS tb L 0 9 (sqA tb L N z)
def sqZ (tb : Nat → Int32) (L N : Nat) (z : Int32 × Nat) : Int32 × Nat := sgnS tb L 59 (sqB tb L N z)
theorem kind_lo {x : Int32} (h : ¬ kindB x = -1000000) : digB x = false ∧ ¬ x = -1000000 ∧ tokP x = 2 := by
  unfold kindB at h
  by_cases h1 : x = 107
  · subst h1; decide +kernel
  rw [if_neg h1] at h
  by_cases h2 : x = 101
  · subst h2; decide +kernel
  rw [if_neg h2] at h
  by_cases h3 : x = 99
  · subst h3; decide +kernel
  rw [if_neg h3] at h
  by_cases h4 : x = 117
  · subst h4; decide +kernel
  rw [if_neg h4] at h
  by_cases h5 : x = 104
  · subst h5; decide +kernel
  rw [if_neg h5] at h
  exact absurd rfl h
theorem sqA_0 {tb : Nat → Int32} {L N : Nat} {z : Int32 × Nat} (h : (sqA tb L N z).1 = 0) : z.1 = 0 ∧ kokB tb L z.2 = true ∧ N < 8 := ⟨(tokS_0 h).1, (tokS_0 h).2.1, of_decide_eq_true (tokS_0 h).2.2⟩
theorem sqZ_0 {tb : Nat → Int32} {L N : Nat} {z : Int32 × Nat} (h : (sqZ tb L N z).1 = 0) : z.1 = 0 ∧ kokB tb L z.2 = true ∧ N < 8 := sqA_0 (numS_0 (sgnS_0 h))
theorem sqA_le {tb : Nat → Int32} {L N : Nat} {z : Int32 × Nat} (h : z.2 ≤ L) : (sqA tb L N z).2 ≤ L := tokS_le h (fun q => by
  refine byI_lt (c := byI tb L z.2) rfl ?_
  unfold kokB at q
  intro e
  rw [e] at q
  exact absurd q (by decide +kernel))
theorem let_end {tb : Nat → Int32} {L p : Nat} (h : digB (byI tb L p) = false) (hn : ¬ byI tb L p = -1000000) : endT tb L p = p + 1 := end_sgn h hn rfl
theorem kok_at {tb : Nat → Int32} {L p : Nat} (h : kokB tb L p = true) : endT tb L p = p + 1 := by
  unfold kokB at h
  have h2 : ¬ kindB (byI tb L p) = -1000000 := by
    intro q
    rw [q] at h
    exact absurd h (by decide)
  exact let_end (kind_lo h2).1 (kind_lo h2).2.1
theorem sqA_go {tb : Nat → Int32} {L N : Nat} {z : Int32 × Nat} (hz : z.1 = 0) (hk : kokB tb L z.2 = true) (hN : N < 8) : mstZ tb L true z = sqA tb L N z := by
  rw [mstZ_t hz, kok_at hk]
  unfold sqA tokS
  rw [hk, decide_eq_true hN, hz]
  rfl
theorem sqA_full {tb : Nat → Int32} {L N : Nat} {z : Int32 × Nat} (hk : kokB tb L z.2 = true) (hN : ¬ N < 8) : mstZ tb L true (failI z.1 3, z.2) = sqA tb L N z := by
  have hf : ¬ (failI z.1 3, z.2).1 = 0 := fun q => failI_0 (k := 3) (by decide) q
  rw [mstZ_n hf]
  unfold sqA tokS
  rw [hk, decide_eq_false hN]
  rfl
/-- no letter of a kind: the same fault -/
theorem sqZ_no {tb : Nat → Int32} {L N : Nat} {z : Int32 × Nat} (hk : kokB tb L z.2 = false) : sqZ tb L N z = (failI z.1 1, z.2) := by
  have e : sqA tb L N z = (failI z.1 1, z.2) := by
    unfold sqA tokS
    rw [hk]
    rfl
  have hf : ¬ (failI z.1 1, z.2).1 = 0 := fun q => failI_0 (k := 1) (by decide) q
  unfold sqZ sqB
  rw [e, numS_n hf, sgnS_n hf]
theorem sqZ_n {tb : Nat → Int32} {L N : Nat} {z : Int32 × Nat} (h : ¬ z.1 = 0) : sqZ tb L N z = z := by
  have e : sqA tb L N z = z := tokS_n h
  unfold sqZ sqB
  rw [e, numS_n h, sgnS_n h]
def sqF (tb : Nat → Int32) (L N : Nat) (z : Int32 × Nat) (fr : Nat → Int32) : Nat → Int32 := if (sqZ tb L N z).1 = 0 then upd (upd (upd fr (4 + 5 * N) (kindB (byI tb L z.2))) (4 + 5 * N + 1) (numV tb L (sqA tb L N z).2)) 2 (nI (N + 1)) else fr
def vsF (tb : Nat → Int32) (L M : Nat) (z : Int32 × Nat) (fr : Nat → Int32) : Nat → Int32 := if (visZ tb L M z).1 = 0 then upd (upd (upd fr (44 + 4 * M) (numV tb L (visA tb L M z).2)) (44 + 4 * M + 1) (numV tb L (visB tb L M z).2)) 3 (nI (M + 1)) else fr
theorem val_by {tb : Nat → Int32} {L p : Nat} (h : digB (byI tb L p) = false) : valT tb L p = byI tb L p := by
  unfold valT
  by_cases hp : p < L
  · have hb : byI tb L p = tb p := if_pos hp
    rw [if_pos hp, hb]
    rw [hb] at h
    rw [h]
    rfl
  · rw [if_neg hp]
    exact (if_neg hp).symm
/-- where a letter stands -/
theorem let_tok {tb : Nat → Int32} {L p : Nat} {x : Int32} (hx : digB x = false) (hx2 : tokP x = 2) : (tokT tb L p = 2 ∧ valT tb L p = x) ↔ byI tb L p = x := by
  have hn : ¬ x = -1000000 := fun q => by rw [q] at hx2; exact absurd hx2 (by decide +kernel)
  by_cases hp : p < L
  · have hb : byI tb L p = tb p := if_pos hp
    rw [hb]
    constructor
    · rintro ⟨h1, h2⟩
      cases hd : digB (tb p)
      · exact (plain_at hp hd).2.1.symm.trans h2
      · unfold tokT at h1
        rw [if_pos hp, hd] at h1
        simp only [cond_true] at h1
        split at h1 <;> exact absurd h1 (by decide)
    · intro e
      obtain ⟨e1, e2, -⟩ := plain_at (tb := tb) hp (by rw [e]; exact hx)
      exact ⟨e1.trans (by rw [e]; exact hx2), e2.trans e⟩
  · have hb : byI tb L p = -1000000 := if_neg hp
    rw [hb]
    unfold tokT
    rw [if_neg hp]
    constructor
    · rintro ⟨h1, -⟩; exact absurd h1 (by decide)
    · intro e; exact absurd e.symm hn
theorem isLet_z {S tb : Nat → Int32} {L : Nat} {z : Int32 × Nat} {x : Int32} (h : rpM S tb L z) (hx : digB x = false) (hx2 : tokP x = 2) : isLetM S x = (decide (z.1 = 0) && decide (byI tb L z.2 = x)) := by
  unfold isLetM
  rw [h.2.2.1]
  by_cases hz : z.1 = 0
  · obtain ⟨-, n2, n3, -⟩ := h.2.2.2.1 hz
    rw [n2, n3, Bool.and_assoc]
    congr 1
    rw [← Bool.decide_and]
    exact decide_eq_decide.mpr (let_tok hx hx2)
  · simp [hz]
theorem isSrt_z {S tb : Nat → Int32} {L : Nat} {z : Int32 × Nat} (h : rpM S tb L z) : isSrtM S = (decide (z.1 = 0) && kokB tb L z.2) := by
  unfold isSrtM
  rw [h.2.2.1]
  by_cases hz : z.1 = 0
  · obtain ⟨-, n2, n3, -⟩ := h.2.2.2.1 hz
    rw [n2, n3, Bool.and_assoc]
    congr 1
    unfold kokB
    cases hk : (!decide (kindB (byI tb L z.2) = -1000000))
    · have hk2 : kindB (byI tb L z.2) = -1000000 := by simpa using hk
      cases hd : digB (byI tb L z.2)
      · rw [val_by hd, hk2]
        simp
      · have ht : ¬ tokT tb L z.2 = 2 := by
          intro q
          unfold tokT at q
          unfold byI at hd
          by_cases hp : z.2 < L
          · rw [if_pos hp] at q hd
            rw [hd] at q
            simp only [cond_true] at q
            split at q <;> exact absurd q (by decide)
          · rw [if_neg hp] at q
            exact absurd q (by decide)
        simp [ht]
    · have hk2 : ¬ kindB (byI tb L z.2) = -1000000 := by simpa using hk
      obtain ⟨k1, k2, k3⟩ := kind_lo hk2
      obtain ⟨t1, t2⟩ := (let_tok (tb := tb) (L := L) (p := z.2) k1 k3).mpr rfl
      rw [t1, t2]
      simp [hk2]
  · simp [hz]
theorem upd_ne {f : Nat → Int32} {k j : Nat} {x : Int32} (h : j ≠ k) : upd f k x j = f j := if_neg h
theorem sq_val {S tb : Nat → Int32} {L : Nat} {z : Int32 × Nat} (h : rpM S tb L z) (hz : z.1 = 0) (hk : kokB tb L z.2 = true) : S 15 = byI tb L z.2 := by
  obtain ⟨-, -, n3, -⟩ := h.2.2.2.1 hz
  rw [n3]
  refine val_by (kind_lo ?_).1
  unfold kokB at hk
  simpa using hk
theorem visA_go {tb : Nat → Int32} {L M : Nat} {z : Int32 × Nat} (hz : z.1 = 0) (hv : byI tb L z.2 = 118) (hM : M < 5) : mstZ tb L true z = visA tb L M z := by
  rw [mstZ_t hz, end_sgn (c := 118) (by decide +kernel) (by decide) hv]
  unfold visA tokS
  rw [decide_eq_true hv, decide_eq_true hM, hz]
  rfl
theorem visA_full {tb : Nat → Int32} {L M : Nat} {b : Bool} {z : Int32 × Nat} (hv : byI tb L z.2 = 118) (hM : ¬ M < 5) : mstZ tb L b (failI z.1 3, z.2) = visA tb L M z := by
  have hf : ¬ (failI z.1 3, z.2).1 = 0 := fun q => failI_0 (k := 3) (by decide) q
  rw [mstZ_n hf]
  unfold visA tokS
  rw [decide_eq_true hv, decide_eq_false hM]
  rfl
theorem visZ_n {tb : Nat → Int32} {L M : Nat} {z : Int32 × Nat} (h : ¬ z.1 = 0) : visZ tb L M z = z := by
  have e : visA tb L M z = z := tokS_n h
  unfold visZ visB
  rw [e, numS_n h, sgnS_n h, numS_n h, sgnS_n h]
theorem visZ_no {tb : Nat → Int32} {L M : Nat} {z : Int32 × Nat} (hk : ¬ byI tb L z.2 = 118) : visZ tb L M z = (failI z.1 1, z.2) := by
  have e : visA tb L M z = (failI z.1 1, z.2) := by
    unfold visA tokS
    rw [decide_eq_false hk]
    rfl
  have hf : ¬ (failI z.1 1, z.2).1 = 0 := fun q => failI_0 (k := 1) (by decide) q
  unfold visZ visB
  rw [e, numS_n hf, sgnS_n hf, numS_n hf, sgnS_n hf]
/-- must, at a letter -/
theorem must_let {S tb : Nat → Int32} {L : Nat} {z : Int32 × Nat} {x : Int32} (h : rpM S tb L z) (hx : digB x = false) (hx2 : tokP x = 2) : mstZ tb L (isLetM S x) z = sgnS tb L x z := by
  have hn : ¬ x = -1000000 := fun q => by rw [q] at hx2; exact absurd hx2 (by decide +kernel)
  rw [isLet_z h hx hx2]
  by_cases hb : byI tb L z.2 = x
  · by_cases hz : z.1 = 0
    · rw [decide_eq_true hz, decide_eq_true hb]
      exact sgnS_t hx hn hb
    · rw [mstZ_n hz, sgnS_n hz]
  · rw [decide_eq_false hb, Bool.and_false]
    exact sgnS_f (fun _ => hb)
def finZ (L : Nat) (z : Int32 × Nat) : Int32 × Nat := if z.1 = 0 ∧ z.2 < L then (1, z.2) else z
/-- all but the parser's numbers, what was taped, and the latest fault are as before -/
def elF (S u : Nat → Int32) : Prop := ∀ j : Nat, ¬ (11 ≤ j ∧ j ≤ 18) → u j = S j
def flM (S u : Nat → Int32) (L : Nat) (z : Int32 × Nat) : Prop := elF S u ∧ u 11 = 0 ∧ (¬ (finZ L z).1 = 0 → u 17 = nI (finZ L z).2 ∧ u 18 = (finZ L z).1) ∧ ((finZ L z).1 = 0 → u 18 = S 18)
theorem tok_end {tb : Nat → Int32} {L p : Nat} : tokT tb L p = 1 ↔ ¬ p < L := by
  unfold tokT
  by_cases h : p < L
  · rw [if_pos h]
    refine ⟨fun q => ?_, fun q => absurd h q⟩
    cases hd : digB (tb p) <;> rw [hd] at q
    · simp only [cond_false] at q
      unfold tokP at q
      split at q
      · exact absurd q (by decide)
      · split at q
        · exact absurd q (by decide)
        · split at q <;> exact absurd q (by decide)
    · simp only [cond_true] at q
      split at q <;> exact absurd q (by decide)
  · rw [if_neg h]
    exact ⟨fun _ => h, fun _ => rfl⟩
theorem fl_bad {S u tb : Nat → Int32} {L : Nat} {z z2 : Int32 × Nat} (h : rpM u tb L z2) (hz : ¬ u 16 = 0) (he : elM S u) (hf : finZ L z = z2) : (1 : Int32) = b2 (!decide ((finZ L z).1 = 0)) ∧ flM S (upd (upd u 11 0) 18 (u 16)) L z := by
  have hz2 : ¬ z2.1 = 0 := fun q => hz ((rpM_z h).mpr q)
  rw [show flM S (upd (upd u 11 0) 18 (u 16)) L z = (elF S (upd (upd u 11 0) 18 (u 16)) ∧ upd (upd u 11 0) 18 (u 16) 11 = 0 ∧ (¬ z2.1 = 0 → upd (upd u 11 0) 18 (u 16) 17 = nI z2.2 ∧ upd (upd u 11 0) 18 (u 16) 18 = z2.1) ∧ (z2.1 = 0 → upd (upd u 11 0) 18 (u 16) 18 = S 18)) from by unfold flM; rw [hf], hf, decide_eq_false hz2]
  refine ⟨rfl, fun j hj => ?_, rfl, fun _ => ⟨(h.2.2.2.2 hz2).1, h.2.2.1⟩, fun q => absurd q hz2⟩
  rw [upd_ne (by omega), upd_ne (by omega)]
  exact he j (by omega)
theorem fl_ok {S tb : Nat → Int32} {L : Nat} {z : Int32 × Nat} (h : rpM S tb L z) (hz : S 16 = 0) (ht : S 14 = 1) : (0 : Int32) = b2 (!decide ((finZ L z).1 = 0)) ∧ flM S (upd (upd S 11 0) 18 (S 18)) L z := by
  have hz1 : z.1 = 0 := (rpM_z h).mp hz
  have hL : ¬ z.2 < L := tok_end.mp ((h.2.2.2.1 hz1).2.1.symm.trans ht)
  have hf : finZ L z = z := by
    unfold finZ
    exact if_neg (fun q => hL q.2)
  unfold flM
  rw [hf, decide_eq_true hz1]
  refine ⟨rfl, fun j hj => ?_, rfl, fun q => absurd hz1 q, fun _ => rfl⟩
  rw [upd_ne (by omega), upd_ne (by omega)]
theorem fin_bad {L : Nat} {z : Int32 × Nat} (h : ¬ z.1 = 0) : finZ L z = z := by
  unfold finZ
  exact if_neg (fun q => h q.1)
theorem fin_more {S tb : Nat → Int32} {L : Nat} {z : Int32 × Nat} (h : rpM S tb L z) (hz : S 16 = 0) (ht : ¬ S 14 = 1) : finZ L z = (failI z.1 1, z.2) := by
  have hz1 : z.1 = 0 := (rpM_z h).mp hz
  have hL : z.2 < L := Decidable.byContradiction (fun q => ht ((h.2.2.2.1 hz1).2.1.trans (tok_end.mpr q)))
  unfold finZ
  rw [if_pos ⟨hz1, hL⟩, failI_z hz1]
/-- the chain of squares that are read, and behind it of visitors; where it stops -/
def zsq (tb : Nat → Int32) (L : Nat) : Nat → Int32 × Nat
  | 0 => lawZ tb L (0, 0)
  | j + 1 => sqZ tb L j (zsq tb L j)
def goS (tb : Nat → Int32) (L : Nat) (z : Int32 × Nat) : Bool := decide (z.1 = 0) && kokB tb L z.2
def stS (tb : Nat → Int32) (L J : Nat) : Prop := 1 ≤ J ∧ (∀ i : Nat, 1 ≤ i → i < J → goS tb L (zsq tb L i) = true) ∧ goS tb L (zsq tb L J) = false
def yvs (tb : Nat → Int32) (L J : Nat) : Nat → Int32 × Nat
  | 0 => zsq tb L J
  | i + 1 => visZ tb L i (yvs tb L J i)
def goV (tb : Nat → Int32) (L : Nat) (z : Int32 × Nat) : Bool := decide (z.1 = 0) && decide (byI tb L z.2 = 118)
def stV (tb : Nat → Int32) (L J V : Nat) : Prop := 1 ≤ V ∧ (∀ i : Nat, 1 ≤ i → i < V → goV tb L (yvs tb L J i) = true) ∧ goV tb L (yvs tb L J V) = false
theorem goS_0 {tb : Nat → Int32} {L : Nat} {z : Int32 × Nat} (h : goS tb L z = true) : z.1 = 0 ∧ kokB tb L z.2 = true := by
  unfold goS at h
  simpa using h
theorem goV_0 {tb : Nat → Int32} {L : Nat} {z : Int32 × Nat} (h : goV tb L z = true) : z.1 = 0 ∧ byI tb L z.2 = 118 := by
  unfold goV at h
  simpa using h
theorem stS_1 {tb : Nat → Int32} {L I J : Nat} (h : stS tb L I) (k : stS tb L J) : I = J := by
  obtain ⟨h1, h2, h3⟩ := h
  obtain ⟨k1, k2, k3⟩ := k
  rcases Nat.lt_trichotomy I J with q | q | q
  · exact absurd (k2 I h1 q) (by rw [h3]; decide)
  · exact q
  · exact absurd (h2 J k1 q) (by rw [k3]; decide)
theorem stV_1 {tb : Nat → Int32} {L K I J : Nat} (h : stV tb L K I) (k : stV tb L K J) : I = J := by
  obtain ⟨h1, h2, h3⟩ := h
  obtain ⟨k1, k2, k3⟩ := k
  rcases Nat.lt_trichotomy I J with q | q | q
  · exact absurd (k2 I h1 q) (by rw [h3]; decide)
  · exact q
  · exact absurd (h2 J k1 q) (by rw [k3]; decide)
theorem zsq_le8 {tb : Nat → Int32} {L : Nat} : ∀ {j : Nat}, (zsq tb L j).1 = 0 → j ≤ 8
  | 0, _ => Nat.zero_le _
  | j + 1, h => (sqZ_0 h).2.2
theorem yvs_le5 {tb : Nat → Int32} {L J : Nat} : ∀ {j : Nat}, (yvs tb L J j).1 = 0 → j ≤ 5
  | 0, _ => Nat.zero_le _
  | j + 1, h => (visZ_0 h).2
/-- the row of a door that is being read: so many squares -/
def rowS (tb : Nat → Int32) (L j : Nat) (w : Nat → Int32) : Prop := w 0 = numV tb L (lawA tb L (0, 0)).2 ∧ w 1 = numV tb L (lawB tb L (0, 0)).2 ∧ w 2 = nI j ∧ (∀ s : Nat, s < j → w (4 + 5 * s) = kindB (byI tb L (zsq tb L s).2) ∧ w (4 + 5 * s + 1) = numV tb L (sqA tb L s (zsq tb L s)).2) ∧ ∀ s : Nat, s < 8 → w (4 + 5 * s + 2) = 0 ∧ w (4 + 5 * s + 3) = 0 ∧ w (4 + 5 * s + 4) = 0
/-- and so many visitors -/
def rowV (tb : Nat → Int32) (L J i : Nat) (w : Nat → Int32) : Prop := w 3 = nI i ∧ (∀ v : Nat, v < i → w (44 + 4 * v) = numV tb L (visA tb L v (yvs tb L J v)).2 ∧ w (44 + 4 * v + 1) = numV tb L (visB tb L v (yvs tb L J v)).2) ∧ ∀ v : Nat, v < 5 → w (44 + 4 * v + 2) = 0 ∧ w (44 + 4 * v + 3) = 0
theorem rowS_s {tb : Nat → Int32} {L j : Nat} {w : Nat → Int32} (h : rowS tb L j w) (hz : (zsq tb L (j + 1)).1 = 0) : rowS tb L (j + 1) (sqF tb L j (zsq tb L j) w) := by
  obtain ⟨h0, h1, h2, h3, h4⟩ := h
  have hj := (sqZ_0 hz).2.2
  have hz' : (sqZ tb L j (zsq tb L j)).1 = 0 := hz
  unfold sqF
  rw [if_pos hz']
  refine ⟨?_, ?_, ?_, fun s hs => ?_, fun s hs => ?_⟩
  · rw [upd_ne (by omega), upd_ne (by omega), upd_ne (by omega)]; exact h0
  · rw [upd_ne (by omega), upd_ne (by omega), upd_ne (by omega)]; exact h1
  · exact if_pos rfl
  · by_cases q : s = j
    · subst q
      constructor
      · rw [upd_ne (by omega), upd_ne (by omega)]; exact if_pos rfl
      · rw [upd_ne (by omega)]; exact if_pos rfl
    · have := h3 s (by omega)
      rw [upd_ne (by omega), upd_ne (by omega), upd_ne (by omega), upd_ne (by omega), upd_ne (by omega), upd_ne (by omega)]
      exact this
  · have := h4 s hs
    rw [upd_ne (by omega), upd_ne (by omega), upd_ne (by omega), upd_ne (by omega), upd_ne (by omega), upd_ne (by omega), upd_ne (by omega), upd_ne (by omega), upd_ne (by omega)]
    exact this
theorem rowV_sq {tb : Nat → Int32} {L J j : Nat} {w : Nat → Int32} (h : rowV tb L J 0 w) : rowV tb L J 0 (sqF tb L j (zsq tb L j) w) := by
  unfold sqF
  split
  · next hz =>
    have hj := (sqZ_0 hz).2.2
    obtain ⟨h1, h2, h3⟩ := h
    refine ⟨?_, fun v hv => absurd hv (Nat.not_lt_zero _), fun v hv => ?_⟩
    · rw [upd_ne (by omega), upd_ne (by omega), upd_ne (by omega)]; exact h1
    · have := h3 v hv
      rw [upd_ne (by omega), upd_ne (by omega), upd_ne (by omega), upd_ne (by omega), upd_ne (by omega), upd_ne (by omega)]
      exact this
  · exact h
theorem rowV_s {tb : Nat → Int32} {L J i : Nat} {w : Nat → Int32} (h : rowV tb L J i w) (hz : (yvs tb L J (i + 1)).1 = 0) : rowV tb L J (i + 1) (vsF tb L i (yvs tb L J i) w) := by
  obtain ⟨h1, h2, h3⟩ := h
  have hz' : (visZ tb L i (yvs tb L J i)).1 = 0 := hz
  have hi := (visZ_0 hz').2
  unfold vsF
  rw [if_pos hz']
  refine ⟨if_pos rfl, fun v hv => ?_, fun v hv => ?_⟩
  · by_cases q : v = i
    · subst q
      constructor
      · rw [upd_ne (by omega), upd_ne (by omega)]; exact if_pos rfl
      · rw [upd_ne (by omega)]; exact if_pos rfl
    · have := h2 v (by omega)
      rw [upd_ne (by omega), upd_ne (by omega), upd_ne (by omega), upd_ne (by omega), upd_ne (by omega), upd_ne (by omega)]
      exact this
  · have := h3 v hv
    rw [upd_ne (by omega), upd_ne (by omega), upd_ne (by omega), upd_ne (by omega), upd_ne (by omega), upd_ne (by omega)]
    exact this
theorem rowS_v {tb : Nat → Int32} {L J j i : Nat} {w : Nat → Int32} (hj8 : j ≤ 8) (h : rowS tb L j w) : rowS tb L j (vsF tb L i (yvs tb L J i) w) := by
  unfold vsF
  split
  · next hz =>
    have hi := (visZ_0 hz).2
    obtain ⟨h0, h1, h2, h3, h4⟩ := h
    refine ⟨?_, ?_, ?_, fun s hs => ?_, fun s hs => ?_⟩
    · rw [upd_ne (by omega), upd_ne (by omega), upd_ne (by omega)]; exact h0
    · rw [upd_ne (by omega), upd_ne (by omega), upd_ne (by omega)]; exact h1
    · rw [upd_ne (by omega), upd_ne (by omega), upd_ne (by omega)]; exact h2
    · have := h3 s hs
      rw [upd_ne (by omega), upd_ne (by omega), upd_ne (by omega), upd_ne (by omega), upd_ne (by omega), upd_ne (by omega)]
      exact this
    · have := h4 s hs
      rw [upd_ne (by omega), upd_ne (by omega), upd_ne (by omega), upd_ne (by omega), upd_ne (by omega), upd_ne (by omega), upd_ne (by omega), upd_ne (by omega), upd_ne (by omega)]
      exact this
  · exact h
