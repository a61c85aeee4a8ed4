/-! the text: a tape tb of L bytes; z: the fault so far and the place -/
def byI (tb : Nat → Int32) (L p : Nat) : Int32 := if p < L then tb p else -1000000
def failI (e k : Int32) : Int32 := if e = 0 then k else e
/-- a token that may stand here, with room -/
def tokS (may room : Bool) (z : Int32 × Nat) : Int32 × Nat := bif may then (bif room then (z.1, if z.1 = 0 then z.2 + 1 else z.2) else (failI z.1 3, z.2)) else (failI z.1 1, z.2)
def sgnS (tb : Nat → Int32) (L : Nat) (c : Int32) (z : Int32 × Nat) : Int32 × Nat := tokS (decide (byI tb L z.2 = c)) true z
def digB (x : Int32) : Bool := inR x 48 57
def figG (tb : Nat → Int32) : Nat → Nat → Nat
  | 0, _ => 0
  | m + 1, p => bif digB (tb p) then figG tb m (p + 1) + 1 else 0
/-- how many figures stand from p on -/
def figN (tb : Nat → Int32) (L p : Nat) : Nat := figG tb (L - p) p
theorem figG_le (tb : Nat → Int32) : ∀ m p, figG tb m p ≤ m
  | 0, _ => Nat.le_refl 0
  | m + 1, p => by
    unfold figG
    cases digB (tb p)
    · exact Nat.zero_le _
    · exact Nat.succ_le_succ (figG_le tb m (p + 1))
theorem figN_le (tb : Nat → Int32) {L p : Nat} (h : p ≤ L) : p + figN tb L p ≤ L := by
  have := figG_le tb (L - p) p
  unfold figN
  omega
theorem figN_in {tb : Nat → Int32} {L p : Nat} (h : p < L) (hd : digB (tb p) = true) : figN tb L p = figN tb L (p + 1) + 1 := by
  unfold figN
  rw [show L - p = (L - (p + 1)) + 1 by omega, figG, hd]
  rfl
theorem figN_out {tb : Nat → Int32} {L p : Nat} (h : p < L) (hd : digB (tb p) = false) : figN tb L p = 0 := by
  unfold figN
  rw [show L - p = (L - (p + 1)) + 1 by omega, figG, hd]
  rfl
theorem figN_end {tb : Nat → Int32} {L p : Nat} (h : L ≤ p) : figN tb L p = 0 := by
  unfold figN
  rw [show L - p = 0 by omega]
  rfl
def numF (tb : Nat → Int32) (L p : Nat) : Nat → Int32
  | 0 => 0
  | k + 1 => numF tb L p k * 10 + byI tb L (p + k) - 48
def numK (n : Nat) : Nat := if n < 2 then n else 2
/-- the number that stands at p, as far as two figures go -/
def numV (tb : Nat → Int32) (L p : Nat) : Int32 := numF tb L p (numK (figN tb L p))
def numE1 (tb : Nat → Int32) (L : Nat) (z : Int32 × Nat) : Int32 := if figN tb L z.2 = 0 ∨ 2 < figN tb L z.2 then failI z.1 1 else z.1
def numE (tb : Nat → Int32) (L : Nat) (lo hi : Int32) (z : Int32 × Nat) : Int32 := bif inR (numV tb L z.2) lo hi then numE1 tb L z else failI (numE1 tb L z) 2
def numS (tb : Nat → Int32) (L : Nat) (lo hi : Int32) (z : Int32 × Nat) : Int32 × Nat := (numE tb L lo hi z, if numE tb L lo hi z = 0 then z.2 + figN tb L z.2 else z.2)
theorem inR_pos {p L : Nat} (hp : p < 2 ^ 31) (hL : L < 2 ^ 31) : inR (nI p) 0 (nI L - 1) = decide (p < L) := by
  unfold inR
  have h0 : (0 : Int32) ≤ nI p := nI_pos' hp
  rcases Nat.eq_zero_or_pos L with h | h
  · subst h
    have h1 : ¬ nI p ≤ nI 0 - 1 := by
      rw [fa_le, nI_toInt hp]
      have : (nI 0 - 1 : Int32).toInt = -1 := by decide
      omega
    simp [h0, h1]
  · have e : nI L - 1 = nI (L - 1) := by
      rw [show L = (L - 1) + 1 by omega]
      exact nI_pred _
    rw [e]
    have h2 : nI p ≤ nI (L - 1) ↔ p ≤ L - 1 := nI_leI hp (by omega)
    have h3 : p ≤ L - 1 ↔ p < L := by omega
    simp [h0, h2, h3]
theorem tokS_le {may room : Bool} {z : Int32 × Nat} {L : Nat} (h : z.2 ≤ L) (hm : may = true → z.2 < L) : (tokS may room z).2 ≤ L := by
  unfold tokS
  cases may
  · exact h
  · cases room
    · exact h
    · have := hm rfl
      show (if z.1 = 0 then z.2 + 1 else z.2) ≤ L
      split <;> omega
theorem byI_lt {tb : Nat → Int32} {L p : Nat} {c : Int32} (h : byI tb L p = c) (hc : c ≠ -1000000) : p < L := by
  unfold byI at h
  split at h
  · assumption
  · exact absurd h.symm hc
theorem sgnS_le {tb : Nat → Int32} {L : Nat} {c : Int32} {z : Int32 × Nat} (hc : c ≠ -1000000) (h : z.2 ≤ L) : (sgnS tb L c z).2 ≤ L :=
  tokS_le h (fun q => byI_lt (of_decide_eq_true q) hc)
theorem numS_le {tb : Nat → Int32} {L : Nat} {lo hi : Int32} {z : Int32 × Nat} (h : z.2 ≤ L) : (numS tb L lo hi z).2 ≤ L := by
  have := figN_le tb h
  show (if numE tb L lo hi z = 0 then z.2 + figN tb L z.2 else z.2) ≤ L
  split <;> omega
/-- the law of a door, as far as it goes -/
def lawA (tb : Nat → Int32) (L : Nat) (z : Int32 × Nat) : Int32 × Nat := sgnS tb L 100 z
def lawB (tb : Nat → Int32) (L : Nat) (z : Int32 × Nat) : Int32 × Nat := sgnS tb L 44 (numS tb L 1 9 (lawA tb L z))
def lawZ (tb : Nat → Int32) (L : Nat) (z : Int32 × Nat) : Int32 × Nat := sgnS tb L 59 (numS tb L 0 8 (lawB tb L z))
/-- a visitor: behind the letter; behind care and sign; at the end -/
def visA (tb : Nat → Int32) (L M : Nat) (z : Int32 × Nat) : Int32 × Nat := tokS (decide (byI tb L z.2 = 118)) (decide (M < 5)) z
def visB (tb : Nat → Int32) (L M : Nat) (z : Int32 × Nat) : Int32 × Nat := sgnS tb L 44 (numS tb L 0 9 (visA tb L M z))
def visZ (tb : Nat → Int32) (L M : Nat) (z : Int32 × Nat) : Int32 × Nat := sgnS tb L 59 (numS tb L 0 9 (visB tb L M z))
theorem failI_0 {e k : Int32} (hk : ¬ k = 0) (h : failI e k = 0) : False := by
  unfold failI at h
  split at h
  · exact hk h
  · contradiction
theorem tokS_0 {may room : Bool} {z : Int32 × Nat} (h : (tokS may room z).1 = 0) : z.1 = 0 ∧ may = true ∧ room = true := by
  unfold tokS at h
  cases may
  · exact (failI_0 (by decide) h).elim
  · cases room
    · exact (failI_0 (by decide) h).elim
    · exact ⟨h, rfl, rfl⟩
theorem sgnS_0 {tb : Nat → Int32} {L : Nat} {c : Int32} {z : Int32 × Nat} (h : (sgnS tb L c z).1 = 0) : z.1 = 0 := (tokS_0 h).1
theorem numS_0 {tb : Nat → Int32} {L : Nat} {lo hi : Int32} {z : Int32 × Nat} (h : (numS tb L lo hi z).1 = 0) : z.1 = 0 := by
  have h1 : numE tb L lo hi z = 0 := h
  unfold numE at h1
  have h2 : numE1 tb L z = 0 := by
    cases hb : inR (numV tb L z.2) lo hi
    · rw [hb] at h1; exact (failI_0 (by decide) h1).elim
    · rw [hb] at h1; exact h1
  unfold numE1 at h2
  split at h2
  · exact (failI_0 (by decide) h2).elim
  · exact h2
theorem visA_0 {tb : Nat → Int32} {L M : Nat} {z : Int32 × Nat} (h : (visA tb L M z).1 = 0) : z.1 = 0 ∧ M < 5 := ⟨(tokS_0 h).1, of_decide_eq_true (tokS_0 h).2.2⟩
theorem visZ_0 {tb : Nat → Int32} {L M : Nat} {z : Int32 × Nat} (h : (visZ tb L M z).1 = 0) : z.1 = 0 ∧ M < 5 := visA_0 (numS_0 (sgnS_0 (numS_0 (sgnS_0 h))))
theorem visA_le {tb : Nat → Int32} {L M : Nat} {z : Int32 × Nat} (h : z.2 ≤ L) : (visA tb L M z).2 ≤ L := tokS_le h (fun q => byI_lt (of_decide_eq_true q) (by decide))
def visF (tb : Nat → Int32) (L M : Nat) (z : Int32 × Nat) (E : Nat → Nat → Int32) : Nat → Nat → Int32 := if (visZ tb L M z).1 = 0 then lzF (lzF E 9 (upd (E 9) M (numV tb L (visA tb L M z).2))) 10 (upd (E 10) M (numV tb L (visB tb L M z).2)) else E
def visD (tb : Nat → Int32) (L M : Nat) (z : Int32 × Nat) (D : Nat → Int32) : Nat → Int32 := if (visZ tb L M z).1 = 0 then upd D 3 (nI (M + 1)) else D
