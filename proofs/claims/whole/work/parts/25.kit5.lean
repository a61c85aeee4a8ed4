/-! worlds with an opaque tail; the ring of 24 doors -/
theorem P_split {D : va_G} {cl : List vw_C} {X T : va_W} {H : Heap} (h : va_P D cl (X ++ T) H) : va_P D cl X H ∧ va_P D cl T H := by
  refine ⟨fun k q hk => h k q ?_, fun k q hk => h (X.length + k) q ?_⟩
  · rw [List.getElem?_append_left (List.getElem?_eq_some_iff.mp hk).1]; exact hk
  · rw [List.getElem?_append_right (Nat.le_add_right _ _), Nat.add_sub_cancel_left]; exact hk
theorem D_split {A : Nat → Prop} {X T : va_W} (h : va_D A (X ++ T)) : va_D A X ∧ va_D A T ∧ ∀ (i j : Nat) (x y : Nat × va_E), X[i]? = some x → T[j]? = some y → x.1 = y.1 → False := by
  have hx : ∀ (k : Nat) (q : Nat × va_E), X[k]? = some q → (X ++ T)[k]? = some q := fun k q hk => by
    rw [List.getElem?_append_left (List.getElem?_eq_some_iff.mp hk).1]; exact hk
  have ht : ∀ (k : Nat) (q : Nat × va_E), T[k]? = some q → (X ++ T)[X.length + k]? = some q := fun k q hk => by
    rw [List.getElem?_append_right (Nat.le_add_right _ _), Nat.add_sub_cancel_left]; exact hk
  refine ⟨⟨fun i j p q hi hj e => h.1 i j p q (hx i p hi) (hx j q hj) e, fun k q hk => h.2 k q (hx k q hk)⟩, ⟨fun i j p q hi hj e => ?_, fun k q hk => h.2 _ q (ht k q hk)⟩, fun i j x y hi hj e => ?_⟩
  · have := h.1 _ _ p q (ht i p hi) (ht j q hj) e
    omega
  · have h1 := h.1 _ _ x y (hx i x hi) (ht j y hj) e
    have h2 := (List.getElem?_eq_some_iff.mp hi).1
    omega
theorem P_app {D : va_G} {cl : List vw_C} {X T : va_W} {H : Heap} (h1 : va_P D cl X H) (h2 : va_P D cl T H) : va_P D cl (X ++ T) H := va_P.app h1 h2
theorem P_mem {D : va_G} {cl : List vw_C} {ws ws' : va_W} {H : Heap} (h : va_P D cl ws H) (hm : ∀ q, q ∈ ws' → q ∈ ws) : va_P D cl ws' H := fun k q hk => by
  obtain ⟨i, hi⟩ := List.getElem?_of_mem (hm q (List.mem_of_getElem? hk))
  exact h i q hi
theorem D_iff {A : Nat → Prop} {ws : va_W} : va_D A ws ↔ (ws.map Prod.fst).Nodup ∧ ∀ q, q ∈ ws → A q.1 := by
  constructor
  · intro h
    refine ⟨?_, fun q hq => ?_⟩
    · unfold List.Nodup
      rw [List.pairwise_iff_getElem]
      intro i j hi hj hij e
      rw [List.length_map] at hi hj
      rw [List.getElem_map, List.getElem_map] at e
      have := h.1 i j _ _ (List.getElem?_eq_getElem hi) (List.getElem?_eq_getElem hj) e
      omega
    · obtain ⟨i, hi⟩ := List.getElem?_of_mem hq
      exact h.2 i q hi
  · rintro ⟨h1, h2⟩
    refine ⟨fun i j p q hi hj e => ?_, fun k q hk => h2 q (List.mem_of_getElem? hk)⟩
    unfold List.Nodup at h1
    rw [List.pairwise_iff_getElem] at h1
    obtain ⟨hi1, hi2⟩ := List.getElem?_eq_some_iff.mp hi
    obtain ⟨hj1, hj2⟩ := List.getElem?_eq_some_iff.mp hj
    rcases Nat.lt_trichotomy i j with g | g | g
    · exact absurd (show (ws.map Prod.fst)[i]'(by rw [List.length_map]; exact hi1) = (ws.map Prod.fst)[j]'(by rw [List.length_map]; exact hj1) by rw [List.getElem_map, List.getElem_map, hi2, hj2, e]) (h1 i j _ _ g)
    · exact g
    · exact absurd (show (ws.map Prod.fst)[j]'(by rw [List.length_map]; exact hj1) = (ws.map Prod.fst)[i]'(by rw [List.length_map]; exact hi1) by rw [List.getElem_map, List.getElem_map, hi2, hj2, e]) (h1 j i _ _ g)
theorem D_perm {A : Nat → Prop} {ws ws' : va_W} (hp : ws.Perm ws') (h : va_D A ws) : va_D A ws' := by
  rw [D_iff] at h ⊢
  exact ⟨(hp.map Prod.fst).nodup_iff.mp h.1, fun q hq => h.2 q (hp.mem_iff.mpr hq)⟩
theorem P_perm {D : va_G} {cl : List vw_C} {ws ws' : va_W} {H : Heap} (hp : ws.Perm ws') (h : va_P D cl ws H) : va_P D cl ws' H := P_mem h (fun _ hq => hp.mem_iff.mpr hq)
/-- behind a call that makes nothing, its cells all ahead of the tail -/
theorem lz_joinT {A0 : Nat → Prop} {D : va_G} {cl : List vw_C} {ws wc wr w1 T : va_W} {H H1 : Heap} (hP : va_P D cl (ws ++ T) H) (hD : va_D A0 (ws ++ T)) (isC isR : List Nat) (hC : isC.map (fun i => ws[i]?) = wc.map some) (hR : isR.map (fun i => ws[i]?) = wr.map some) (hn : va_nd (isR ++ isC) = true) (hdis : ∀ i ∈ isR, i ∉ isC)
    (hf : wc.map Prod.fst = w1.map Prod.fst) (hk : ∀ q : Nat, q < H.size → ¬ lzA wc q → H1[q]? = H[q]?) (hP1 : va_P D cl w1 H1) : va_P D cl ((wr ++ w1) ++ T) H1 ∧ va_D A0 ((wr ++ w1) ++ T) := by
  obtain ⟨hPX, hPT⟩ := P_split hP
  obtain ⟨hDX, hDT, hdj⟩ := D_split hD
  obtain ⟨g1, g2⟩ := lz_join hPX hDX isC isR hC hR hn hdis hf hk hP1
  have inX : ∀ (k : Nat) (x : Nat × va_E), (wr ++ wc)[k]? = some x → ∃ i : Nat, ws[i]? = some x := by
    intro k x hx
    rcases List.mem_append.mp (List.mem_of_getElem? hx) with h | h
    · obtain ⟨i, hi⟩ := List.getElem?_of_mem h
      obtain ⟨j, -, hj⟩ := lz_at hR i x hi
      exact ⟨j, hj⟩
    · obtain ⟨i, hi⟩ := List.getElem?_of_mem h
      obtain ⟨j, -, hj⟩ := lz_at hC i x hi
      exact ⟨j, hj⟩
  refine ⟨P_app g1 (fun k q hq => (hPT k q hq).kept (hk q.1 (hPT k q hq).lt ?_)), va_D.app g2 hDT (fun i j x y hx hy e => ?_)⟩
  · rintro ⟨k2, e2, h⟩
    obtain ⟨j, -, hj⟩ := lz_at hC k2 (q.1, e2) h
    exact hdj j k (q.1, e2) q hj hq rfl
  · have hfst : (wr ++ w1).map Prod.fst = (wr ++ wc).map Prod.fst := by rw [List.map_append, List.map_append, hf]
    have h1 : ((wr ++ wc).map Prod.fst)[i]? = some x.1 := by rw [← hfst, List.getElem?_map, hx]; rfl
    rw [List.getElem?_map] at h1
    cases hz : (wr ++ wc)[i]? with
    | none => rw [hz] at h1; cases h1
    | some z =>
      rw [hz] at h1
      obtain ⟨i2, hi2⟩ := inX i z hz
      exact hdj i2 j z y hi2 hy ((Option.some.inj h1).trans e)
theorem P_subT {D : va_G} {cl : List vw_C} {ws ws' T : va_W} {H : Heap} (h : va_P D cl (ws ++ T) H) (is : List Nat) (hs : is.filterMap (fun i => ws[i]?) = ws') : va_P D cl (ws' ++ T) H := P_app ((P_split h).1.sub is hs) (P_split h).2
theorem D_subT {A : Nat → Prop} {ws ws' T : va_W} (h : va_D A (ws ++ T)) (is : List Nat) (hn : va_nd is = true) (hs : is.map (fun i => ws[i]?) = ws'.map some) : va_D A (ws' ++ T) := by
  obtain ⟨h1, h2, h3⟩ := D_split h
  refine va_D.app (h1.sub is hn hs) h2 (fun i j x y hx hy e => ?_)
  obtain ⟨k, -, hk⟩ := lz_at hs i x hx
  exact h3 k j x y hk hy e
def lz3 (F : Nat → Nat → Nat → Int32) (k : Nat) (g : Nat → Nat → Int32) : Nat → Nat → Nat → Int32 := fun j => if j = k then g else F j
def ringW (G : lzG) (rh : Nat → Nat) (rq : Nat → Nat → Nat) (RS : Nat → Nat → Int32) (RF : Nat → Nat → Nat → Int32) : va_W := (List.range 24).flatMap (fun i => lzDoor G (rh i) (rq i) (RS i) (RF i))
def ringR (G : lzG) (rh : Nat → Nat) (rq : Nat → Nat → Nat) (RS : Nat → Nat → Int32) (RF : Nat → Nat → Nat → Int32) (j : Nat) : va_W := ((List.range 24).erase j).flatMap (fun i => lzDoor G (rh i) (rq i) (RS i) (RF i))
theorem ring_perm (G : lzG) (rh : Nat → Nat) (rq : Nat → Nat → Nat) (RS : Nat → Nat → Int32) (RF : Nat → Nat → Nat → Int32) {j : Nat} (hj : j < 24) : (ringW G rh rq RS RF).Perm (lzDoor G (rh j) (rq j) (RS j) (RF j) ++ ringR G rh rq RS RF j) := by
  unfold ringW ringR
  have hp := List.perm_cons_erase (List.mem_range.mpr hj)
  have h2 := hp.flatMap_right (fun i => lzDoor G (rh i) (rq i) (RS i) (RF i))
  rw [List.flatMap_cons] at h2
  exact h2
theorem ring_same (G : lzG) (rh : Nat → Nat) (rq : Nat → Nat → Nat) (RS : Nat → Nat → Int32) (RF : Nat → Nat → Nat → Int32) (j : Nat) (T : Nat → Int32) (E : Nat → Nat → Int32) : ringR G rh rq (lzF RS j T) (lz3 RF j E) j = ringR G rh rq RS RF j := by
  unfold ringR
  rw [List.flatMap_def, List.flatMap_def]
  congr 1
  apply List.map_congr_left
  intro i hi
  have hne : i ≠ j := ((List.nodup_range).mem_erase_iff.mp hi).1
  show lzDoor G (rh i) (rq i) (lzF RS j T i) (lz3 RF j E i) = _
  rw [show lzF RS j T i = RS i from if_neg hne, show lz3 RF j E i = RF i from if_neg hne]
theorem ring_open {D : va_G} {cl : List vw_C} {X : va_W} {H : Heap} {A : Nat → Prop} {G : lzG} {rh : Nat → Nat} {rq : Nat → Nat → Nat} {RS : Nat → Nat → Int32} {RF : Nat → Nat → Nat → Int32} {j : Nat} (hj : j < 24) (hP : va_P D cl (X ++ ringW G rh rq RS RF) H) (hD : va_D A (X ++ ringW G rh rq RS RF)) : va_P D cl ((X ++ lzDoor G (rh j) (rq j) (RS j) (RF j)) ++ ringR G rh rq RS RF j) H ∧ va_D A ((X ++ lzDoor G (rh j) (rq j) (RS j) (RF j)) ++ ringR G rh rq RS RF j) := by
  rw [List.append_assoc]
  exact ⟨P_perm ((ring_perm G rh rq RS RF hj).append_left X) hP, D_perm ((ring_perm G rh rq RS RF hj).append_left X) hD⟩
theorem ring_close {D : va_G} {cl : List vw_C} {X : va_W} {H : Heap} {A : Nat → Prop} {G : lzG} {rh : Nat → Nat} {rq : Nat → Nat → Nat} {RS : Nat → Nat → Int32} {RF : Nat → Nat → Nat → Int32} {j : Nat} (hj : j < 24) {T : Nat → Int32} {E : Nat → Nat → Int32} (hP : va_P D cl ((X ++ lzDoor G (rh j) (rq j) T E) ++ ringR G rh rq RS RF j) H) (hD : va_D A ((X ++ lzDoor G (rh j) (rq j) T E) ++ ringR G rh rq RS RF j)) : va_P D cl (X ++ ringW G rh rq (lzF RS j T) (lz3 RF j E)) H ∧ va_D A (X ++ ringW G rh rq (lzF RS j T) (lz3 RF j E)) := by
  have hp := ring_perm G rh rq (lzF RS j T) (lz3 RF j E) hj
  rw [ring_same, show lzF RS j T j = T from if_pos rfl, show lz3 RF j E j = E from if_pos rfl] at hp
  rw [List.append_assoc] at hP hD
  exact ⟨P_perm (hp.symm.append_left X) hP, D_perm (hp.symm.append_left X) hD⟩
section LZ6
variable {p : Program} {l : Launch} {e : Env} {R : Room} {s : State} {m : MethodId} {args : Array Value} {below : List Frame} {meth : Method} {c : Code} {H : Heap} {locs : List Loc} {cells slots : Nat} {Q : State → Prop}
variable {cc : ByteArray} {pc : Nat} {ls : Array Slot} {rest : List Value} {a : Nat} {ws : va_W} {G : lzG}
/-- a door out of a row of doors -/
theorem lz_aald (hexec : p.tables.exec = Jvm.exec) (hb : c.code = cc) (hK : lzK G s) (hP : va_P G.1 lzC ws H) (q0 : Nat) {n : Nat} {f : Nat → Option Nat} (ha : ws[q0]? = some (a, .inl (G.2 3, n, .inr (.inr (.inr (.inr f)))))) (j x : Nat) (hf : f j = some x) (hj : j < n) (hn : n < 2 ^ 31) (hdg : decode cc pc = .ok (.aaload, 1))
    (kk : W p l e R s m args below meth c H locs cells slots Q (F0 m (pc + 1) ls (.ref x :: rest))) : W p l e R s m args below meth c H locs cells slots Q (F0 m pc ls (.int (nI j) :: .ref a :: rest)) := by
  refine va_aldq hexec hb hK.1 hP q0 3 ha rfl (vp_in_nI hj hn) hdg ?_
  rw [nI_clamp (by omega), hf]
  exact kk
end LZ6
theorem ring_fst {G : lzG} {rh : Nat → Nat} {rq : Nat → Nat → Nat} (RS RS' : Nat → Nat → Int32) (RF : Nat → Nat → Nat → Int32) {RF' : Nat → Nat → Nat → Int32} : (ringW G rh rq RS RF).map Prod.fst = (ringW G rh rq RS' RF').map Prod.fst := by
  unfold ringW
  rw [List.map_flatMap, List.map_flatMap]
  rfl
theorem lz_freeT {A0 : Nat → Prop} {ws wc T : va_W} (hD : va_D A0 (ws ++ T)) (isC : List Nat) (hC : isC.map (fun i => ws[i]?) = wc.map some) : ∀ q, lzA (wc ++ T) q → A0 q := by
  obtain ⟨h1, h2, -⟩ := D_split hD
  rintro q ⟨k, e, h⟩
  rcases List.mem_append.mp (List.mem_of_getElem? h) with g | g
  · obtain ⟨i, hi⟩ := List.getElem?_of_mem g
    exact lz_free h1 isC hC q ⟨i, e, hi⟩
  · obtain ⟨i, hi⟩ := List.getElem?_of_mem g
    exact h2.2 i (q, e) hi
/-- behind a call that makes nothing and that took the tail along -/
theorem lz_joinTT {A0 : Nat → Prop} {D : va_G} {cl : List vw_C} {ws wc wr w1 T T1 : va_W} {H H1 : Heap} (hP : va_P D cl (ws ++ T) H) (hD : va_D A0 (ws ++ T)) (isC isR : List Nat) (hC : isC.map (fun i => ws[i]?) = wc.map some) (hR : isR.map (fun i => ws[i]?) = wr.map some) (hn : va_nd (isR ++ isC) = true) (hdis : ∀ i ∈ isR, i ∉ isC)
    (hf : wc.map Prod.fst = w1.map Prod.fst) (hfT : T.map Prod.fst = T1.map Prod.fst) (hk : ∀ q : Nat, q < H.size → ¬ lzA (wc ++ T) q → H1[q]? = H[q]?) (hP1 : va_P D cl (w1 ++ T1) H1) : va_P D cl ((wr ++ w1) ++ T1) H1 ∧ va_D A0 ((wr ++ w1) ++ T1) := by
  obtain ⟨hPX, hPT⟩ := P_split hP
  obtain ⟨hDX, hDT, hdj⟩ := D_split hD
  obtain ⟨g1, g2⟩ := P_split hP1
  refine ⟨P_app (P_app (fun k q hq => ?_) g1) g2, ?_⟩
  · obtain ⟨i, h1, h2⟩ := lz_at hR k q hq
    refine (hPX i q h2).kept (hk q.1 (hPX i q h2).lt ?_)
    rintro ⟨k2, e2, h⟩
    rcases List.mem_append.mp (List.mem_of_getElem? h) with g | g
    · obtain ⟨i3, hi3⟩ := List.getElem?_of_mem g
      obtain ⟨j, h3, h4⟩ := lz_at hC i3 (q.1, e2) hi3
      have hij := hDX.1 i j q (q.1, e2) h2 h4 rfl
      subst hij
      exact hdis i (List.mem_of_getElem? h1) (List.mem_of_getElem? h3)
    · obtain ⟨i3, hi3⟩ := List.getElem?_of_mem g
      exact hdj i i3 q (q.1, e2) h2 hi3 rfl
  · refine va_D_fst (ws := (wr ++ wc) ++ T) (by rw [List.map_append, List.map_append, List.map_append, List.map_append, hf, hfT]) ?_
    exact D_subT hD (isR ++ isC) hn (by rw [List.map_append, List.map_append, hC, hR])
def tfS (T D : Nat → Int32) : Nat → Int32 := upd (upd (upd (upd D 0 (T 0)) 1 (T 1)) 2 (T 2)) 3 (T 3)
def tfF (E F : Nat → Nat → Int32) : Nat → Nat → Int32 := lzF (lzF (lzF (lzF (lzF (lzF (lzF (lzF (lzF F 4 (va_cpy (E 4) (F 4) 0 0 8)) 5 (va_cpy (E 5) (F 5) 0 0 8)) 6 (va_cpy (E 6) (F 6) 0 0 8)) 7 (va_cpy (E 7) (F 7) 0 0 8)) 8 (va_cpy (E 8) (F 8) 0 0 8)) 9 (va_cpy (E 9) (F 9) 0 0 5)) 10 (va_cpy (E 10) (F 10) 0 0 5)) 11 (va_cpy (E 11) (F 11) 0 0 5)) 12 (va_cpy (E 12) (F 12) 0 0 5)
theorem nxt_24 {X : Nat} (h : X < 24) : (nI X + 1) - (nI X + 1) / 24 * 24 = nI ((X + 1) % 24) := by
  rw [nI_1]
  exact pk_rem (d := 24) (by omega) (by decide) (by decide)
theorem kept_24 {K : Nat} (h : K ≤ 24) : (if (24 : Int32) < nI K + 1 then 24 else nI K + 1) = nI (min (K + 1) 24) := by
  rw [nI_1]
  rcases Nat.lt_or_ge 24 (K + 1) with q | q
  · rw [if_pos (show (24 : Int32) < nI (K + 1) from (nI_ltI (a := 24) (by decide) (by omega)).mpr q), Nat.min_eq_right (by omega)]
    rfl
  · have hn : ¬ (24 : Int32) < nI (K + 1) := fun h9 => absurd ((nI_ltI (a := 24) (b := K + 1) (by decide) (by omega)).mp h9) (by omega)
    rw [if_neg hn, Nat.min_eq_left q]
theorem ring_close0 {D : va_G} {cl : List vw_C} {X : va_W} {H : Heap} {A : Nat → Prop} {G : lzG} {rh : Nat → Nat} {rq : Nat → Nat → Nat} {RS : Nat → Nat → Int32} {RF : Nat → Nat → Nat → Int32} {j : Nat} (hj : j < 24) (hP : va_P D cl ((X ++ lzDoor G (rh j) (rq j) (RS j) (RF j)) ++ ringR G rh rq RS RF j) H) (hD : va_D A ((X ++ lzDoor G (rh j) (rq j) (RS j) (RF j)) ++ ringR G rh rq RS RF j)) : va_P D cl (X ++ ringW G rh rq RS RF) H ∧ va_D A (X ++ ringW G rh rq RS RF) := by
  have hp := ring_perm G rh rq RS RF hj
  rw [List.append_assoc] at hP hD
  exact ⟨P_perm (hp.symm.append_left X) hP, D_perm (hp.symm.append_left X) hD⟩
theorem prv_24 {X : Nat} (h : X < 24) : (nI X + 24) - 1 - ((nI X + 24) - 1) / 24 * 24 = nI ((X + 23) % 24) := by
  rw [show nI X + 24 - 1 = nI (X + 23) from by rw [show (24 : Int32) = nI 24 from rfl, nI_add]; exact nI_pred (X + 23)]
  exact pk_rem (d := 24) (by omega) (by decide) (by decide)
theorem inR_ok {x : Int32} {v M : Nat} (hM : x = nI M) (hv : v < M) (h : M < 1000) : inR (nI v) 0 (x - 1) = true := by
  rw [hM, inR_pos (by omega) (by omega)]
  exact decide_eq_true hv
