/-! how the worlds go on agreeing -/
theorem relD_cong {N M : Nat} {D D2 : Nat → Int32} {F F2 : Nat → Nat → Int32} {f f2 : Nat → Int32} (h : relD N M D F f) (hD : ∀ j : Nat, j < 4 → D2 j = D j) (hF : ∀ i j : Nat, (4 ≤ i ∧ i ≤ 8 ∧ j < 8) ∨ (9 ≤ i ∧ i ≤ 12 ∧ j < 5) → F2 i j = F i j) (hf : ∀ j : Nat, j < 64 → f2 j = f j) : relD N M D2 F2 f2 := by
  obtain ⟨⟨a1, a2, a3⟩, ⟨b1, b2, b3⟩, ⟨c1, c2, c3⟩, d, e, g⟩ := h
  refine ⟨⟨?_, ?_, ?_⟩, ⟨?_, ?_, b3⟩, ⟨?_, ?_, c3⟩, fun s hs => ?_, fun v hv => ?_, ?_⟩
  · rw [hD 0 (by decide), hf 0 (by decide)]; exact a1
  · rw [hD 1 (by decide), hf 1 (by decide)]; exact a2
  · rw [hD 1 (by decide)]; exact a3
  · rw [hD 2 (by decide)]; exact b1
  · rw [hf 2 (by decide)]; exact b2
  · rw [hD 3 (by decide)]; exact c1
  · rw [hf 3 (by decide)]; exact c2
  · obtain ⟨s1, s2, s3, s4, s5, s6, s7, s8, s9⟩ := d s hs
    unfold sqR
    rw [hF 4 s (by omega), hF 5 s (by omega), hF 6 s (by omega), hF 7 s (by omega), hF 8 s (by omega), hf _ (by omega), hf _ (by omega), hf _ (by omega), hf _ (by omega), hf _ (by omega)]
    exact ⟨s1, s2, s3, s4, s5, s6, s7, s8, s9⟩
  · obtain ⟨v1, v2, v3, v4⟩ := e v hv
    unfold viR
    rw [hF 9 v (by omega), hF 10 v (by omega), hF 11 v (by omega), hF 12 v (by omega), hf _ (by omega), hf _ (by omega), hf _ (by omega), hf _ (by omega)]
    exact ⟨v1, v2, v3, v4⟩
  · rw [hf 0 (by decide)]; exact g
theorem tfS_at (T D : Nat → Int32) {j : Nat} (h : j < 4) : tfS T D j = T j := by
  rcases (show j = 0 ∨ j = 1 ∨ j = 2 ∨ j = 3 by omega) with e | e | e | e <;> subst e <;> rfl
theorem tfF_at (E F : Nat → Nat → Int32) {i j : Nat} (h : (4 ≤ i ∧ i ≤ 8 ∧ j < 8) ∨ (9 ≤ i ∧ i ≤ 12 ∧ j < 5)) : tfF E F i j = E i j := by
  have c8 : ∀ a b : Nat → Int32, j < 8 → va_cpy a b 0 0 8 j = a j := fun a b hj => by
    unfold va_cpy
    rw [if_pos ⟨Nat.zero_le _, by omega⟩]
    congr 1
    omega
  have c5 : ∀ a b : Nat → Int32, j < 5 → va_cpy a b 0 0 5 j = a j := fun a b hj => by
    unfold va_cpy
    rw [if_pos ⟨Nat.zero_le _, by omega⟩]
    congr 1
    omega
  rcases (show (i = 4 ∨ i = 5 ∨ i = 6 ∨ i = 7 ∨ i = 8) ∧ j < 8 ∨ (i = 9 ∨ i = 10 ∨ i = 11 ∨ i = 12) ∧ j < 5 by omega) with ⟨e | e | e | e | e, hj⟩ | ⟨e | e | e | e, hj⟩ <;> subst e
  · exact c8 _ _ hj
  · exact c8 _ _ hj
  · exact c8 _ _ hj
  · exact c8 _ _ hj
  · exact c8 _ _ hj
  · exact c5 _ _ hj
  · exact c5 _ _ hj
  · exact c5 _ _ hj
  · exact c5 _ _ hj
/-- a door taken over whole -/
theorem relD_take {N M : Nat} {D X : Nat → Int32} {F Y : Nat → Nat → Int32} {f f2 : Nat → Int32} (h : relD N M D F f) (hf : ∀ j : Nat, j < 64 → f2 j = f j) : relD N M (tfS D X) (tfF F Y) f2 :=
  relD_cong h (fun j hj => tfS_at D X hj) (fun i j hij => tfF_at F Y hij) hf
theorem rel_read {N M : Nat} {D : Nat → Int32} {F : Nat → Nat → Int32} {f : Nat → Int32} (h : relD N M D F f) (h0 : 0 < N ∨ 0 < M) : 0 < N := by
  rcases h.2.2.2.2.2 with ⟨g1, g2, g3⟩ | ⟨g1, g2, g3⟩
  · exact g2
  · omega
section AC
variable {N M X K : Nat} {D : Nat → Int32} {F RS : Nat → Nat → Int32} {RF : Nat → Nat → Nat → Int32} {f was : Nat → Int32}
theorem kpK_eq {K : Nat} (h : K ≤ 24) : min (K + 1) 24 = kpK K + 1 := by
  unfold kpK
  split <;> omega
theorem acts_keep (hX : X < 24) (hK : K ≤ 24) (hA : ∀ i : Nat, i < K → ∃ N M : Nat, 0 < N ∧ relD N M (RS ((X + 23 - i) % 24)) (RF ((X + 23 - i) % 24)) (fun j => was (64 * (K - 1 - i) + j))) (h : relD N M D F f) (h0 : 0 < N) : ∀ i : Nat, i < kpK K + 1 → ∃ N M : Nat, 0 < N ∧ relD N M (lzF RS X (tfS D (RS X)) (((X + 1) % 24 + 23 - i) % 24)) (lz3 RF X (tfF F (RF X)) (((X + 1) % 24 + 23 - i) % 24)) (fun j => kpW was f K (64 * (kpK K + 1 - 1 - i) + j)) := by
  intro i hi
  have hk := kpK_lt hK
  by_cases e0 : i = 0
  · subst e0
    have ex : ((X + 1) % 24 + 23 - 0) % 24 = X := by omega
    rw [ex]
    refine ⟨N, M, h0, ?_⟩
    rw [show lzF RS X (tfS D (RS X)) X = tfS D (RS X) from if_pos rfl, show lz3 RF X (tfF F (RF X)) X = tfF F (RF X) from if_pos rfl]
    refine relD_take h (fun j hj => ?_)
    show kpW was f K (64 * (kpK K + 1 - 1 - 0) + j) = f j
    unfold kpW putW
    rw [if_pos (by omega)]
    congr 1
    omega
  · have ex : ((X + 1) % 24 + 23 - i) % 24 = (X + 23 - (i - 1)) % 24 := by omega
    have en : (X + 23 - (i - 1)) % 24 ≠ X := by omega
    rw [ex, show lzF RS X (tfS D (RS X)) ((X + 23 - (i - 1)) % 24) = RS ((X + 23 - (i - 1)) % 24) from if_neg en, show lz3 RF X (tfF F (RF X)) ((X + 23 - (i - 1)) % 24) = RF ((X + 23 - (i - 1)) % 24) from if_neg en]
    have hiK : i - 1 < K := by unfold kpK at hi; split at hi <;> omega
    obtain ⟨N1, M1, h1, h2⟩ := hA (i - 1) hiK
    refine ⟨N1, M1, h1, relD_cong h2 (fun _ _ => rfl) (fun _ _ _ => rfl) (fun j hj => ?_)⟩
    show kpW was f K (64 * (kpK K + 1 - 1 - i) + j) = was (64 * (K - 1 - (i - 1)) + j)
    unfold kpW putW
    rw [if_neg (by omega)]
    unfold kpB kpK
    by_cases q : K = 24
    · rw [if_pos q, if_pos q]
      unfold shW
      rw [if_pos (by omega)]
      congr 1
      omega
    · rw [if_neg q, if_neg q]
      congr 1
      omega
theorem acts_back (hX : X < 24) (hK : K ≤ 24) (h1 : 1 ≤ K) (hA : ∀ i : Nat, i < K → ∃ N M : Nat, 0 < N ∧ relD N M (RS ((X + 23 - i) % 24)) (RF ((X + 23 - i) % 24)) (fun j => was (64 * (K - 1 - i) + j))) : (∃ N M : Nat, 0 < N ∧ relD N M (tfS (RS ((X + 23) % 24)) D) (tfF (RF ((X + 23) % 24)) F) (undF was f (K - 1) 64)) ∧ ∀ i : Nat, i < K - 1 → ∃ N M : Nat, 0 < N ∧ relD N M (RS (((X + 23) % 24 + 23 - i) % 24)) (RF (((X + 23) % 24 + 23 - i) % 24)) (fun j => was (64 * (K - 1 - 1 - i) + j)) := by
  constructor
  · obtain ⟨N1, M1, g1, g2⟩ := hA 0 (by omega)
    refine ⟨N1, M1, g1, relD_take g2 (fun j hj => ?_)⟩
    show undF was f (K - 1) 64 j = was (64 * (K - 1 - 0) + j)
    unfold undF
    rw [if_pos hj]
    rfl
  · intro i hi
    obtain ⟨N1, M1, g1, g2⟩ := hA (i + 1) (by omega)
    refine ⟨N1, M1, g1, ?_⟩
    rw [show ((X + 23) % 24 + 23 - i) % 24 = (X + 23 - (i + 1)) % 24 by omega, show K - 1 - 1 - i = K - 1 - (i + 1) by omega]
    exact g2
end AC
section CH
variable {N M : Nat} {D : Nat → Int32} {F : Nat → Nat → Int32} {f : Nat → Int32}
theorem relD_strict (h : relD N M D F f) {T : Nat} (hT : T ≤ 8) : relD N M (upd D 1 (nI T)) F (upd f 1 (nI T)) := by
  obtain ⟨⟨a1, a2, a3⟩, b, c, d, e, g⟩ := h
  refine ⟨⟨a1, rfl, T, hT, rfl⟩, b, c, fun s hs => ?_, fun v hv => ?_, g⟩
  · obtain ⟨s1, s2, s3, s4, s5, s6, s7, s8, s9⟩ := d s hs
    unfold sqR
    rw [upd_ne (by omega), upd_ne (by omega), upd_ne (by omega), upd_ne (by omega), upd_ne (by omega)]
    exact ⟨s1, s2, s3, s4, s5, s6, s7, s8, s9⟩
  · obtain ⟨v1, v2, v3, v4⟩ := e v hv
    unfold viR
    rw [upd_ne (by omega), upd_ne (by omega), upd_ne (by omega), upd_ne (by omega)]
    exact ⟨v1, v2, v3, v4⟩
theorem relD_share (h : relD N M D F f) {s : Nat} {x : Int32} (hs : s < N) (hx : inR x 0 9 = true) : relD N M D (lzF F 5 (upd (F 5) s x)) (upd f (4 + 5 * s + 1) x) := by
  obtain ⟨⟨a1, a2, a3⟩, b, c, d, e, g⟩ := h
  have hN := b.2.2
  refine ⟨⟨by rw [upd_ne (by omega)]; exact a1, by rw [upd_ne (by omega)]; exact a2, a3⟩, ⟨b.1, by rw [upd_ne (by omega)]; exact b.2.1, hN⟩, ⟨c.1, by rw [upd_ne (by omega)]; exact c.2.1, c.2.2⟩, fun t ht => ?_, fun v hv => ?_, by rw [upd_ne (by omega)]; exact g⟩
  · obtain ⟨s1, s2, s3, s4, s5, s6, s7, s8, s9⟩ := d t ht
    have e5 : lzF F 5 (upd (F 5) s x) 5 t = if t = s then x else F 5 t := rfl
    refine ⟨by rw [upd_ne (by omega)]; exact s1, ?_, by rw [upd_ne (by omega)]; exact s3, by rw [upd_ne (by omega)]; exact s4, by rw [upd_ne (by omega)]; exact s5, s6, ?_, s8, s9⟩
    · rw [e5]
      by_cases q : t = s
      · subst q
        rw [if_pos rfl, upd_eq]
      · rw [if_neg q, upd_ne (by omega)]
        exact s2
    · rw [e5]
      split
      · exact hx
      · exact s7
  · obtain ⟨v1, v2, v3, v4⟩ := e v hv
    exact ⟨by rw [upd_ne (by omega)]; exact v1, by rw [upd_ne (by omega)]; exact v2, by rw [upd_ne (by omega)]; exact v3, by rw [upd_ne (by omega)]; exact v4⟩
theorem relD_settle (h : relD N M D F f) {s : Nat} (hs : s < N) : relD N M D (lzF F 8 (upd (F 8) s (b2 (decide (F 7 s < F 6 s))))) (upd f (4 + 5 * s + 4) (if f (4 + 5 * s + 3) < f (4 + 5 * s + 2) then 2 else 1)) := by
  have hl := rd_lampv h hs
  obtain ⟨⟨a1, a2, a3⟩, b, c, d, e, g⟩ := h
  have hN := b.2.2
  refine ⟨⟨by rw [upd_ne (by omega)]; exact a1, by rw [upd_ne (by omega)]; exact a2, a3⟩, ⟨b.1, by rw [upd_ne (by omega)]; exact b.2.1, hN⟩, ⟨c.1, by rw [upd_ne (by omega)]; exact c.2.1, c.2.2⟩, fun t ht => ?_, fun v hv => ?_, by rw [upd_ne (by omega)]; exact g⟩
  · obtain ⟨s1, s2, s3, s4, s5, s6, s7, s8, s9⟩ := d t ht
    have e8 : lzF F 8 (upd (F 8) s (b2 (decide (F 7 s < F 6 s)))) 8 t = if t = s then b2 (decide (F 7 s < F 6 s)) else F 8 t := rfl
    refine ⟨by rw [upd_ne (by omega)]; exact s1, by rw [upd_ne (by omega)]; exact s2, by rw [upd_ne (by omega)]; exact s3, by rw [upd_ne (by omega)]; exact s4, ?_, s6, s7, s8, s9⟩
    rw [e8]
    by_cases q : t = s
    · subst q
      rw [if_pos rfl, upd_eq, hl]
      by_cases q2 : f (4 + 5 * t + 3) < f (4 + 5 * t + 2)
      · rw [if_pos q2, decide_eq_true q2]
        exact Or.inr (Or.inr ⟨rfl, rfl⟩)
      · rw [if_neg q2, decide_eq_false q2]
        exact Or.inr (Or.inl ⟨rfl, rfl⟩)
    · rw [if_neg q, upd_ne (by omega)]
      exact s5
  · obtain ⟨v1, v2, v3, v4⟩ := e v hv
    exact ⟨by rw [upd_ne (by omega)]; exact v1, by rw [upd_ne (by omega)]; exact v2, by rw [upd_ne (by omega)]; exact v3, by rw [upd_ne (by omega)]; exact v4⟩
theorem howmany (h : relD N M D F f) {s : Nat} (hs : s < N) : sumI (fun v => bitsI (clkD F v) N >>> (nI s &&& 31) &&& 1) M = cntI (fun z => clkR f z s) M := by
  have hN := (rd_hN h).2.2
  have e : ∀ n, cntI (fun z => clkR f z s) n = sumI (fun z => b2 (clkR f z s)) n := fun n => by
    induction n with
    | zero => rfl
    | succ n ih => rw [cntI, sumI, ih]
  rw [e]
  refine sumI_cong (fun v hv => ?_)
  rw [rd_clkB h hv, bits_nI _ hN, bit1_nat (bN_256 _ hN) (by omega), bN_bit, decide_eq_true hs, Bool.true_and]
end CH
theorem trL_out (t : Nat → Int32) : ∀ (L : List Int32) (T k : Nat), k < T → trL t T L k = t k
  | [], _, _, _ => rfl
  | b :: bs, T, k, h => by
    show trL (upd t T b) (T + 1) bs k = t k
    rw [trL_out (upd t T b) bs (T + 1) k (by omega), upd_ne (by omega)]
theorem trL_in (t t2 : Nat → Int32) : ∀ (L : List Int32) (T k : Nat), T ≤ k → k < T + L.length → trL t T L k = trL t2 T L k
  | [], T, k, h1, h2 => absurd h2 (by simp; omega)
  | b :: bs, T, k, h1, h2 => by
    show trL (upd t T b) (T + 1) bs k = trL (upd t2 T b) (T + 1) bs k
    by_cases e : k = T
    · subst e
      rw [trL_out _ bs (k + 1) k (by omega), trL_out _ bs (k + 1) k (by omega), upd_eq, upd_eq]
    · exact trL_in (upd t T b) (upd t2 T b) bs (T + 1) k (by omega) (by simp at h2; omega)
