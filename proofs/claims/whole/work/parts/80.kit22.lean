/-! the frame rule of a contract: a method in a larger world -/
theorem lzA_perm {W wc wr : va_W} (hp : W.Perm (wc ++ wr)) : ∀ q, lzA wc q → lzA W q := by
  rintro q ⟨k, e, h⟩
  obtain ⟨i, hi⟩ := List.getElem?_of_mem (hp.mem_iff.mpr (List.mem_append_left wr (List.mem_of_getElem? h)))
  exact ⟨i, e, hi⟩
theorem fr_rest {D : va_G} {cl : List vw_C} {wc wr : va_W} {H H1 : Heap} (hP : va_P D cl (wc ++ wr) H) (hD : va_D (fun _ => True) (wc ++ wr)) (hk : ∀ q : Nat, q < H.size → ¬ lzA wc q → H1[q]? = H[q]?) : va_P D cl wr H1 := by
  obtain ⟨h1, h2⟩ := P_split hP
  obtain ⟨-, -, h3⟩ := D_split hD
  refine h2.kept (fun k q hq => hk q.1 ((h2 k q hq).lt) ?_)
  rintro ⟨i, e, hi⟩
  exact h3 i k (q.1, e) q hi hq rfl
section FR
variable {l : Launch} {y : MethodName} {wl : List Cond} {rm : Room} {As : List Value} {G : lzG} {W W2 wc w1 wr : va_W} {aK aV : Nat}
/-- a writing method that answers a number -/
theorem fr_rw {post : Int32 → Unit → Prop} {r0 : Int32} (h : Met l y wl rm (va_Pc As (rwP G wc)) (va_Qi (S := Unit) post (rwB G (fun _ => w1)) (lzA wc)) 0 0 (lzA wc)) (hr : ∀ r u, post r u → r = r0) (hp : W.Perm (wc ++ wr)) (hp2 : W2.Perm (w1 ++ wr)) :
    Met l y wl rm (va_Pc As (rwsP G W aK aV)) (va_Qi (S := Unit) (fun r _ => r = r0) (rwB G (fun _ => W2)) (lzA W)) 0 0 (lzA W) := by
  refine MetFree.mono h (fun a s q => ?_) (fun _ _ _ _ _ q => q) (fun a st o t hpre q => ?_)
  · obtain ⟨q1, ⟨q2, q3, q4⟩, -⟩ := q
    exact ⟨q1, (P_split (P_perm hp q2)).1, q3, (D_split (D_perm hp q4)).1⟩
  · obtain ⟨q1, ⟨q2, q3, q4⟩, -⟩ := hpre
    obtain ⟨⟨⟨r, u, e1, e2, e3⟩, hF⟩, L, f1, f2⟩ := q
    refine ⟨⟨⟨r, u, e1, hr r u e2, ?_⟩, hF.1, fun q0 h0 hn => hF.2 q0 h0 (fun h9 => hn (lzA_perm hp q0 h9))⟩, L, f1, fun z hz => lzA_perm hp _ (f2 z hz)⟩
    exact P_perm hp2.symm (P_app e3 (fr_rest (P_perm hp q2) (D_perm hp q4) hF.2))
/-- a writing method that answers a long -/
theorem fr_rwl {post : Int64 → Unit → Prop} {r0 : Int64} (h : Met l y wl rm (va_Pc As (rwP G wc)) (va_Ql (S := Unit) post (rwB G (fun _ => w1)) (lzA wc)) 0 0 (lzA wc)) (hr : ∀ r u, post r u → r = r0) (hp : W.Perm (wc ++ wr)) (hp2 : W2.Perm (w1 ++ wr)) :
    Met l y wl rm (va_Pc As (rwsP G W aK aV)) (va_Ql (S := Unit) (fun r _ => r = r0) (rwB G (fun _ => W2)) (lzA W)) 0 0 (lzA W) := by
  refine MetFree.mono h (fun a s q => ?_) (fun _ _ _ _ _ q => q) (fun a st o t hpre q => ?_)
  · obtain ⟨q1, ⟨q2, q3, q4⟩, -⟩ := q
    exact ⟨q1, (P_split (P_perm hp q2)).1, q3, (D_split (D_perm hp q4)).1⟩
  · obtain ⟨q1, ⟨q2, q3, q4⟩, -⟩ := hpre
    obtain ⟨⟨⟨r, u, e1, e2, e3⟩, hF⟩, L, f1, f2⟩ := q
    refine ⟨⟨⟨r, u, e1, hr r u e2, ?_⟩, hF.1, fun q0 h0 hn => hF.2 q0 h0 (fun h9 => hn (lzA_perm hp q0 h9))⟩, L, f1, fun z hz => lzA_perm hp _ (f2 z hz)⟩
    exact P_perm hp2.symm (P_app e3 (fr_rest (P_perm hp q2) (D_perm hp q4) hF.2))
theorem vaF_same {A : Nat → Prop} {st t : State} (h : t.heap = st.heap) : va_F A st t := by
  refine ⟨by rw [h]; exact Nat.le_refl _, fun q _ _ => by rw [h]⟩
/-- a reading method that answers a number -/
theorem fr_ro {post : Int32 → Prop} {r0 : Int32} (h : Met l y wl rm (va_Pc As (roP G wc)) (vp_Si post) 0 0 (fun _ => False)) (hr : ∀ r, post r → r = r0) (hp : W.Perm (wc ++ wr)) :
    Met l y wl rm (va_Pc As (rwsP G W aK aV)) (va_Qi (S := Unit) (fun r _ => r = r0) (rwB G (fun _ => W)) (lzA W)) 0 0 (lzA W) := by
  refine MetFree.mono h (fun a s q => ?_) (fun _ _ _ _ _ q => q) (fun a st o t hpre q => ?_)
  · obtain ⟨q1, ⟨q2, q3, q4⟩, -⟩ := q
    exact ⟨q1, (P_split (P_perm hp q2)).1, q3⟩
  · obtain ⟨q1, ⟨q2, q3, q4⟩, -⟩ := hpre
    obtain ⟨⟨r, e1, e2, e3⟩, L, f1, f2⟩ := q
    refine ⟨⟨⟨r, (), e1, hr r e2, ?_⟩, vaF_same e3⟩, L, f1, fun z hz => (f2 z hz).elim⟩
    show va_P G.1 lzC W t.heap
    rw [e3]
    exact q2
theorem fr_rol {post : Int64 → Prop} {r0 : Int64} (h : Met l y wl rm (va_Pc As (roP G wc)) (vp_Sl post) 0 0 (fun _ => False)) (hr : ∀ r, post r → r = r0) (hp : W.Perm (wc ++ wr)) :
    Met l y wl rm (va_Pc As (rwsP G W aK aV)) (va_Ql (S := Unit) (fun r _ => r = r0) (rwB G (fun _ => W)) (lzA W)) 0 0 (lzA W) := by
  refine MetFree.mono h (fun a s q => ?_) (fun _ _ _ _ _ q => q) (fun a st o t hpre q => ?_)
  · obtain ⟨q1, ⟨q2, q3, q4⟩, -⟩ := q
    exact ⟨q1, (P_split (P_perm hp q2)).1, q3⟩
  · obtain ⟨q1, ⟨q2, q3, q4⟩, -⟩ := hpre
    obtain ⟨⟨r, e1, e2, e3⟩, L, f1, f2⟩ := q
    refine ⟨⟨⟨r, (), e1, hr r e2, ?_⟩, vaF_same e3⟩, L, f1, fun z hz => (f2 z hz).elim⟩
    show va_P G.1 lzC W t.heap
    rw [e3]
    exact q2
end FR
/-- worlds as lists of parts -/
theorem perm_parts {α : Type} {L L' : List α} (is : List Nat) (h1 : is.map (fun i => L[i]?) = L'.map some) (h2 : is.Perm (List.range L.length)) : L.Perm L' := by
  have e0 : (List.range L.length).map (fun i => L[i]?) = L.map some := by
    apply List.ext_getElem?
    intro i
    rw [List.getElem?_map, List.getElem?_map]
    by_cases h : i < L.length
    · rw [List.getElem?_range h, List.getElem?_eq_getElem h]
      simp [List.getElem?_eq_getElem h]
    · rw [List.getElem?_eq_none (by rw [List.length_range]; omega), List.getElem?_eq_none (by omega)]
      rfl
  have e1 : (L'.map some).Perm (L.map some) := by
    rw [← h1, ← e0]
    exact h2.map _
  have e2 := e1.filterMap id
  have e3 : ∀ M : List α, (M.map some).filterMap id = M := fun M => by
    induction M with
    | nil => rfl
    | cons a M ih => simp
  rw [e3, e3] at e2
  exact e2.symm
theorem perm_flat {L L' : List va_W} (h : L.Perm L') : L.flatten.Perm L'.flatten := h.flatten
def mapI {α : Type} (g : Nat → List α) (n : Nat) : List α := (List.range n).flatMap g
theorem mapI_open {α : Type} (g : Nat → List α) {n j : Nat} (hj : j < n) : (mapI g n).Perm (g j ++ ((List.range n).erase j).flatMap g) := by
  have hp := List.perm_cons_erase (List.mem_range.mpr hj)
  have h2 := hp.flatMap_right g
  rw [List.flatMap_cons] at h2
  exact h2
theorem mapI_same {α : Type} {g g2 : Nat → List α} {n j : Nat} (h : ∀ i, i ≠ j → g i = g2 i) : ((List.range n).erase j).flatMap g = ((List.range n).erase j).flatMap g2 := by
  rw [List.flatMap_def, List.flatMap_def]
  congr 1
  apply List.map_congr_left
  intro i hi
  exact h i ((List.nodup_range).mem_erase_iff.mp hi).1
/-- the class's world -/
def xwL (G : lzG) (ad : Nat → Nat → Nat → Nat) (C it F FS RS : Nat → Nat → Int32) (RF : Nat → Nat → Nat → Int32) (MD : Nat → Nat → Int32) (MF : Nat → Nat → Nat → Int32) (cs : Nat → Int64) : List va_W :=
  [lzX (ad 0 0 0) (ad 1 0) (C 0), lzI G (ad 1 0 1) 8 (C 1), lzI G (ad 1 0 2) 8 (C 2), lzTp (ad 1 0 4) (ad 2 0) (C 3), lzI G (ad 2 0 0) 120 (C 4), lzDoor G (ad 1 0 6) (ad 3 0) (C 5) F, lzDoor G (ad 1 0 7) (ad 4 0) (C 6) FS, lzAc (ad 1 0 8) (ad 5 0) (C 7), lzQ G 3 (ad 5 0 0) 24 (fun i => some (ad 6 0 i)), ringW G (ad 6 0) (ad 7) RS RF, lzQ G 3 (ad 1 0 9) 2 (fun i => some (ad 9 0 i)), mapI (fun i => lzDoor G (ad 9 0 i) (ad 10 i) (MD i) (MF i)) 2, lzI G (ad 1 0 10) 16 (C 8), lzL G (ad 1 0 12) 9 cs, lzQ G 4 (ad 1 0 0) 8 (fun i => some (ad 8 0 i)), mapI (fun i => lzI G (ad 8 0 i) 40 (it i)) 8]
def XW (G : lzG) (ad : Nat → Nat → Nat → Nat) (C it F FS RS : Nat → Nat → Int32) (RF : Nat → Nat → Nat → Int32) (MD : Nat → Nat → Int32) (MF : Nat → Nat → Nat → Int32) (cs : Nat → Int64) : va_W := (xwL G ad C it F FS RS RF MD MF cs).flatten
/-- the reference's world -/
def mwL (G : lzG) (ad : Nat → Nat → Nat → Nat) (B : Nat → Nat → Int32) (wy : Nat → Int64) : List va_W :=
  [lzM (ad 11 0 0) (ad 12 0) (B 0), lzI G (ad 12 0 2) 8 (B 1), lzI G (ad 12 0 3) 8 (B 2), lzI G (ad 12 0 4) 320 (B 3), lzI G (ad 12 0 5) 64 (B 4), lzI G (ad 12 0 6) 64 (B 5), lzI G (ad 12 0 7) 64 (B 6), lzI G (ad 12 0 8) 1536 (B 7), lzI G (ad 12 0 10) 120 (B 8), lzL G (ad 12 0 19) 9 wy, lzZ G (ad 12 0 20) 2 (B 9), lzI G (ad 12 0 21) 128 (B 10), lzI G (ad 12 0 22) 16 (B 11)]
def MW (G : lzG) (ad : Nat → Nat → Nat → Nat) (B : Nat → Nat → Int32) (wy : Nat → Int64) : va_W := (mwL G ad B wy).flatten
theorem fl_1 {α : Type} (a : List α) : [a].flatten = a := by simp
theorem fl_s {α : Type} (a : List α) (b : List α) (L : List (List α)) : (a :: b :: L).flatten = a ++ (b :: L).flatten := rfl
/-- the parts at some places ahead, the rest behind -/
theorem xw_perm {G : lzG} {ad : Nat → Nat → Nat → Nat} {C it F FS RS : Nat → Nat → Int32} {RF : Nat → Nat → Nat → Int32} {MD : Nat → Nat → Int32} {MF : Nat → Nat → Nat → Int32} {cs : Nat → Int64} (is ir : List Nat) {L L' : List va_W} (h1 : (is ++ ir).map (fun i => (xwL G ad C it F FS RS RF MD MF cs)[i]?) = (L ++ L').map some) (h2 : (is ++ ir).Perm (List.range 16)) {wc : va_W} (hw : L.flatten = wc) : (XW G ad C it F FS RS RF MD MF cs).Perm (wc ++ L'.flatten) := by
  subst hw
  rw [← List.flatten_append]
  exact perm_flat (perm_parts _ h1 h2)
theorem mw_perm {G : lzG} {ad : Nat → Nat → Nat → Nat} {B : Nat → Nat → Int32} {wy : Nat → Int64} (is ir : List Nat) {L L' : List va_W} (h1 : (is ++ ir).map (fun i => (mwL G ad B wy)[i]?) = (L ++ L').map some) (h2 : (is ++ ir).Perm (List.range 13)) {wc : va_W} (hw : L.flatten = wc) : (MW G ad B wy).Perm (wc ++ L'.flatten) := by
  subst hw
  rw [← List.flatten_append]
  exact perm_flat (perm_parts _ h1 h2)
