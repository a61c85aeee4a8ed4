/-! rows: how both sides see them -/
theorem row_open {pre row rest rows o : va_W} (h : rows.Perm (row ++ rest)) : ((pre ++ rows) ++ o).Perm ((pre ++ row) ++ (rest ++ o)) := by
  rw [List.append_assoc, List.append_assoc]
  refine List.Perm.append_left pre ?_
  rw [← List.append_assoc]
  exact h.append_right o
def rowG (G : lzG) (ad : Nat → Nat → Nat → Nat) (it : Nat → Nat → Int32) : Nat → va_W := fun i => lzI G (ad 8 0 i) 40 (it i)
def rowX (G : lzG) (ad : Nat → Nat → Nat → Nat) (it : Nat → Nat → Int32) (rr : Nat) : va_W := ((List.range 8).erase rr).flatMap (rowG G ad it)
theorem rowX_same {G : lzG} {ad : Nat → Nat → Nat → Nat} {it : Nat → Nat → Int32} {rr : Nat} {g : Nat → Int32} : rowX G ad (lzF it rr g) rr = rowX G ad it rr := mapI_same (fun i hi => by
  show lzI G (ad 8 0 i) 40 (lzF it rr g i) = lzI G (ad 8 0 i) 40 (it i)
  rw [lzF_ne hi])
theorem rows_open {G : lzG} {ad : Nat → Nat → Nat → Nat} {it : Nat → Nat → Int32} {rr : Nat} (hr : rr < 8) : (mapI (fun i => lzI G (ad 8 0 i) 40 (it i)) 8).Perm (lzI G (ad 8 0 rr) 40 (it rr) ++ rowX G ad it rr) := mapI_open (rowG G ad it) hr
theorem rows_open2 {G : lzG} {ad : Nat → Nat → Nat → Nat} {it : Nat → Nat → Int32} {rr : Nat} (g : Nat → Int32) (hr : rr < 8) : (mapI (fun i => lzI G (ad 8 0 i) 40 (lzF it rr g i)) 8).Perm (lzI G (ad 8 0 rr) 40 g ++ rowX G ad it rr) := by
  have h := rows_open (G := G) (ad := ad) (it := lzF it rr g) hr
  rw [rowX_same, lzF_eq] at h
  exact h
def rowY (G : lzG) (ad : Nat → Nat → Nat → Nat) (it : Nat → Nat → Int32) (ra rb : Nat) : va_W := (((List.range 8).erase ra).erase rb).flatMap (rowG G ad it)
theorem rows_two {G : lzG} {ad : Nat → Nat → Nat → Nat} {it : Nat → Nat → Int32} {ra rb : Nat} (ha : ra < 8) (hb : rb < 8) (hne : rb ≠ ra) : (mapI (fun i => lzI G (ad 8 0 i) 40 (it i)) 8).Perm ((lzI G (ad 8 0 ra) 40 (it ra) ++ lzI G (ad 8 0 rb) 40 (it rb)) ++ rowY G ad it ra rb) := by
  refine (rows_open ha).trans ?_
  rw [List.append_assoc]
  refine List.Perm.append_left _ ?_
  have hm : rb ∈ (List.range 8).erase ra := (List.nodup_range).mem_erase_iff.mpr ⟨hne, List.mem_range.mpr hb⟩
  have hp := (List.perm_cons_erase hm).flatMap_right (rowG G ad it)
  rw [List.flatMap_cons] at hp
  exact hp
theorem rowY_same {G : lzG} {ad : Nat → Nat → Nat → Nat} {it : Nat → Nat → Int32} {ra rb : Nat} {g : Nat → Int32} : rowY G ad (lzF it rb g) ra rb = rowY G ad it ra rb := by
  unfold rowY
  rw [List.flatMap_def, List.flatMap_def]
  congr 1
  apply List.map_congr_left
  intro i hi
  have hne : i ≠ rb := (((List.nodup_range).erase ra).mem_erase_iff.mp hi).1
  show lzI G (ad 8 0 i) 40 (lzF it rb g i) = lzI G (ad 8 0 i) 40 (it i)
  rw [lzF_ne hne]
theorem rows_two2 {G : lzG} {ad : Nat → Nat → Nat → Nat} {it : Nat → Nat → Int32} {ra rb : Nat} (g : Nat → Int32) (ha : ra < 8) (hb : rb < 8) (hne : rb ≠ ra) : (mapI (fun i => lzI G (ad 8 0 i) 40 (lzF it rb g i)) 8).Perm ((lzI G (ad 8 0 ra) 40 (it ra) ++ lzI G (ad 8 0 rb) 40 g) ++ rowY G ad it ra rb) := by
  have h := rows_two (G := G) (ad := ad) (it := lzF it rb g) ha hb hne
  rw [rowY_same, lzF_eq, lzF_ne (show ra ≠ rb from fun q => hne q.symm)] at h
  exact h
theorem cpyU_at {g : Nat → Int32} {src dst n : Nat} (h : dst ≤ src ∨ src + n ≤ dst) : ∀ k : Nat, k ≤ n → ∀ p : Nat, cpyU g src dst k p = if dst ≤ p ∧ p < dst + k then g (src + (p - dst)) else g p
  | 0, _, p => by
    rw [if_neg (by omega)]
    rfl
  | k + 1, hk, p => by
    have ih := cpyU_at (g := g) h k (by omega)
    show upd (cpyU g src dst k) (dst + k) (cpyU g src dst k (src + k)) p = _
    rw [ih (src + k), if_neg (by omega)]
    by_cases q : p = dst + k
    · subst q
      rw [upd_eq, if_pos (by omega)]
      congr 1
      omega
    · rw [upd_ne q, ih p]
      by_cases q2 : dst ≤ p ∧ p < dst + k
      · rw [if_pos q2, if_pos (by omega)]
      · rw [if_neg q2, if_neg (by omega)]
theorem cpyD_at {g : Nat → Int32} {src dst n : Nat} (h : src ≤ dst ∨ dst + n ≤ src) : ∀ k : Nat, k ≤ n → ∀ p : Nat, cpyD g src dst n k p = if dst + (n - k) ≤ p ∧ p < dst + n then g (src + (p - dst)) else g p
  | 0, _, p => by
    rw [if_neg (by omega)]
    rfl
  | k + 1, hk, p => by
    have ih := cpyD_at (g := g) h k (by omega)
    show upd (cpyD g src dst n k) (dst + (n - 1 - k)) (cpyD g src dst n k (src + (n - 1 - k))) p = _
    rw [ih (src + (n - 1 - k)), if_neg (by omega)]
    by_cases q : p = dst + (n - 1 - k)
    · subst q
      rw [upd_eq, if_pos (by omega)]
      congr 1
      omega
    · rw [upd_ne q, ih p]
      by_cases q2 : dst + (n - k) ≤ p ∧ p < dst + n
      · rw [if_pos q2, if_pos (by omega)]
      · rw [if_neg q2, if_neg (by omega)]
section RW
variable {C it F RS : Nat → Nat → Int32} {RF : Nat → Nat → Nat → Int32} {MD : Nat → Nat → Int32} {MF : Nat → Nat → Nat → Int32} {B : Nat → Nat → Int32}
/-- rows and the finding alone have changed -/
theorem rel_rows (hR : Rel C it F RS RF MD MF B) {la2 ln2 lane2 many2 g2 : Nat → Int32} {it2 : Nat → Nat → Int32} {x z : Int32} (hr : ∀ r : Nat, r < 8 → rowQ (la2 r) (ln2 r) (it2 r) (lane2 r) (many2 r) (fun i => g2 (40 * r + i))) {C2 B2 : Nat → Nat → Int32} (e1 : C2 1 = la2) (e2 : C2 2 = ln2) (e0 : C2 0 = upd (C 0) 3 x) (eC : ∀ k : Nat, 3 ≤ k → C2 k = C k) (f0 : B2 0 = upd (upd (B 0) 0 z) 1 x) (f1 : B2 1 = lane2) (f2 : B2 2 = many2) (f3 : B2 3 = g2) (fB : ∀ k : Nat, 4 ≤ k → B2 k = B k) : Rel C2 it2 F RS RF MD MF B2 := by
  obtain ⟨h1, h2, h3, h4, h5, h6, h7⟩ := hR
  unfold Rel
  rw [e0, e1, e2, f0, f1, f2, f3, eC 5 (by decide), eC 8 (by decide), eC 3 (by decide), eC 4 (by decide), eC 7 (by decide), fB 4 (by decide), fB 11 (by decide), fB 8 (by decide), fB 7 (by decide), fB 9 (by decide), fB 10 (by decide)]
  exact ⟨h1, ⟨rfl, h2.2⟩, h3, h4, hr, h6, h7⟩
end RW
theorem dec_not {a b : Int64} : (!decide (a < b)) = decide (b ≤ a) := by
  by_cases h : a < b
  · rw [decide_eq_true h, decide_eq_false (by rw [fa_le64]; rw [fa_lt64] at h; omega)]
    rfl
  · rw [decide_eq_false h, decide_eq_true (by rw [fa_le64]; rw [fa_lt64] at h; omega)]
    rfl
theorem cpy_has (la lb i j n : Int32) : (hasB la i n && hasB lb j n) = cpyB la lb i j n := by
  unfold hasB cpyB
  rw [dec_not]
  cases decide (i < 0) <;> cases decide (n < 0) <;> cases decide (j < 0) <;> cases decide (i.toInt64 + n.toInt64 ≤ la.toInt64) <;> cases decide (j.toInt64 + n.toInt64 ≤ lb.toInt64) <;> rfl
theorem plc_has {len i n : Int32} (hn : ¬ n < 0) : hasB len i n = !plcM len i n := by
  unfold hasB plcM
  rw [decide_eq_false hn]
  cases decide (i < 0) <;> cases decide (i.toInt64 + n.toInt64 ≤ len.toInt64) <;> rfl
/-- items that are there are numbers -/
theorem has_room {m : Nat} {i n : Int32} (hm : m ≤ 40) (h : hasB (nI m) i n = true) : ∃ a b : Nat, i = nI a ∧ n = nI b ∧ a + b ≤ m := by
  unfold hasB at h
  simp only [Bool.and_eq_true, Bool.not_eq_true', decide_eq_false_iff_not, decide_eq_true_eq] at h
  obtain ⟨⟨h1, h2⟩, h3⟩ := h
  obtain ⟨a, ha, rfl⟩ := nI_of h1
  obtain ⟨b, hb, rfl⟩ := nI_of h2
  refine ⟨a, b, rfl, rfl, ?_⟩
  rw [nI_l ha, nI_l hb, nI_l (by omega), lN_add] at h3
  exact (pk_lLE (by omega) (by omega)).mp h3
theorem look_no {len i n : Int32} (h : len = -1000000) : lookV len i n = -1000011 ∧ lookF len i n = 1 := by
  unfold lookV lookF
  rw [if_pos h, if_pos h]
  exact ⟨rfl, rfl⟩
theorem look_pl {len i n : Int32} (h : ¬ len = -1000000) (hb : hasB len i n = false) : lookV len i n = -1000012 ∧ lookF len i n = 2 := by
  unfold lookV lookF
  rw [if_neg h, if_neg h, hb]
  exact ⟨rfl, rfl⟩
theorem look_ok {len i n : Int32} (h : ¬ len = -1000000) (hb : hasB len i n = true) : lookV len i n = 0 ∧ lookF len i n = 0 := by
  unfold lookV lookF
  rw [if_neg h, if_neg h, hb]
  exact ⟨rfl, rfl⟩
theorem lane_pos {x : Int32} (h : inR x 0 2 = true) : 0 ≤ x ∧ ¬ x < 0 := by
  unfold inR at h
  simp only [Bool.and_eq_true, decide_eq_true_eq] at h
  exact ⟨h.1, Int32.not_lt.mpr h.1⟩
theorem nI_nneg {n : Nat} (h : n < 1000) : ¬ nI n < 0 := nI_pos (by omega)
theorem nI_none2 {n : Nat} (h : n ≤ 40) : ¬ nI n = -1000000 := nI_none (by omega)
section RC
variable {N M : Nat} {D : Nat → Int32} {F : Nat → Nat → Int32} {f : Nat → Int32} {g h : Nat → Int32}
theorem allI_cong {p q : Nat → Bool} : ∀ {n : Nat}, (∀ k, k < n → p k = q k) → allI p n = allI q n
  | 0, _ => rfl
  | n + 1, hk => by rw [allI, allI, allI_cong (fun k hq => hk k (by omega)), hk n (by omega)]
theorem allV_eq (hD : relD N M D F f) {rr i : Nat} (hg : ∀ k : Nat, k < 40 → h k = g (40 * rr + k)) (hi : i + M ≤ 40) {kind share : Int32} (hs : inR share 0 9 = true) : allV f g (40 * rr + i) M kind share = allCV F h i M kind share := by
  unfold allV allCV
  refine allI_cong (fun v hv => ?_)
  obtain ⟨b1, b2, -, -⟩ := rd_vi hD hv
  rw [← b1, ← b2, clk_eq hs, hg _ (by omega), ← Nat.add_assoc]
  exact decide_eq_decide.mpr ⟨Eq.symm, Eq.symm⟩
theorem allS_eq (hD : relD N M D F f) {rr i : Nat} (hg : ∀ k : Nat, k < 40 → h k = g (40 * rr + k)) (hi : i + N ≤ 40) {care ear : Int32} : allS f g (40 * rr + i) N care ear = allCS F h i N care ear := by
  unfold allS allCS
  refine allI_cong (fun s hs => ?_)
  obtain ⟨a1, a2, -, -, -, -, a7, -, -⟩ := rd_sq hD hs
  rw [← a1, ← a2, clk_eq a7, hg _ (by omega), ← Nat.add_assoc]
  exact decide_eq_decide.mpr ⟨Eq.symm, Eq.symm⟩
theorem share_in {d : Nat} (h : d < 10) : inR (nI d) 0 9 = true := by
  have h9 : ∀ d, d < 10 → inR (nI d) 0 9 = true := by decide +kernel
  exact h9 d h
theorem shr_eq (hD : relD N M D F f) {rr i s : Nat} (hg : ∀ k : Nat, k < 40 → h k = g (40 * rr + k)) (hi : i + M ≤ 40) (hs : s < N) : shrM f g s (40 * rr + i) M 10 = shrC F h s i M 10 := by
  unfold shrM shrC
  refine bitsI_cong (fun d hd => ?_)
  rw [allV_eq hD hg hi (share_in hd), (rd_sq hD hs).1]
theorem knd_eq (hD : relD N M D F f) {rr i s : Nat} (hg : ∀ k : Nat, k < 40 → h k = g (40 * rr + k)) (hi : i + M ≤ 40) (hs : s < N) : kndM f g s (40 * rr + i) M 6 = kndC F h s i M 6 := by
  unfold kndM kndC
  refine bitsI_cong (fun d hd => ?_)
  rw [← (rd_sq hD hs).2.1, allV_eq hD hg hi (rd_sq hD hs).2.2.2.2.2.2.1]
theorem who_eq (hD : relD N M D F f) {rr i : Nat} (hg : ∀ k : Nat, k < 40 → h k = g (40 * rr + k)) (hi : i + N ≤ 40) : whoM f g (40 * rr + i) N M = whoC F h i N M := by
  unfold whoM whoC
  refine bitsI_cong (fun v hv => ?_)
  obtain ⟨b1, b2, -, -⟩ := rd_vi hD hv
  rw [← b1, ← b2, allS_eq hD hg hi]
theorem car_eq (hD : relD N M D F f) {rr i : Nat} {ear : Int32} (hg : ∀ k : Nat, k < 40 → h k = g (40 * rr + k)) (hi : i + N ≤ 40) : carM f g (40 * rr + i) N ear 10 = carC F h i N ear 10 := by
  unfold carM carC
  refine bitsI_cong (fun d hd => ?_)
  rw [allS_eq hD hg hi]
end RC
/-- images opened -/
def imG (G : lzG) (ad : Nat → Nat → Nat → Nat) (MD : Nat → Nat → Int32) (MF : Nat → Nat → Nat → Int32) : Nat → va_W := fun i => lzDoor G (ad 9 0 i) (ad 10 i) (MD i) (MF i)
def imX (G : lzG) (ad : Nat → Nat → Nat → Nat) (MD : Nat → Nat → Int32) (MF : Nat → Nat → Nat → Int32) (im : Nat) : va_W := ((List.range 2).erase im).flatMap (imG G ad MD MF)
theorem im_open {G : lzG} {ad : Nat → Nat → Nat → Nat} {MD : Nat → Nat → Int32} {MF : Nat → Nat → Nat → Int32} {im : Nat} (h : im < 2) : (mapI (fun i => lzDoor G (ad 9 0 i) (ad 10 i) (MD i) (MF i)) 2).Perm (lzDoor G (ad 9 0 im) (ad 10 im) (MD im) (MF im) ++ imX G ad MD MF im) := mapI_open (imG G ad MD MF) h
theorem im_open2 {G : lzG} {ad : Nat → Nat → Nat → Nat} {MD : Nat → Nat → Int32} {MF : Nat → Nat → Nat → Int32} {im : Nat} (D : Nat → Int32) (F : Nat → Nat → Int32) (h : im < 2) : (mapI (fun i => lzDoor G (ad 9 0 i) (ad 10 i) (lzF MD im D i) (lz3 MF im F i)) 2).Perm (lzDoor G (ad 9 0 im) (ad 10 im) D F ++ imX G ad MD MF im) := by
  have h1 := im_open (G := G) (ad := ad) (MD := lzF MD im D) (MF := lz3 MF im F) h
  have e : imX G ad (lzF MD im D) (lz3 MF im F) im = imX G ad MD MF im := mapI_same (fun i hi => by
    show lzDoor G (ad 9 0 i) (ad 10 i) (lzF MD im D i) (lz3 MF im F i) = lzDoor G (ad 9 0 i) (ad 10 i) (MD i) (MF i)
    rw [lzF_ne hi, show lz3 MF im F i = MF i from if_neg hi])
  rw [e, lzF_eq, show lz3 MF im F im = F from if_pos rfl] at h1
  exact h1
