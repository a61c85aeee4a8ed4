set_option maxHeartbeats 4000000 in
set_option maxRecDepth 100000 in
theorem c_X4_visitor_bad (l : Launch) (G : lzG) (m : Nat) (q : Nat → Nat) (S : Nat → Int32) (f : Nat → Int32) (a what : Int32) (hbad : (inR a 0 (f 3 - 1) && inR what 0 3) = false) : Met l yX4_visitor wsX4_visitor ({ frames := 2, cells := 0, slots := 0, locals := 46 }) (va_Pc [.ref m, .int a, .int what] (rwP G (lzM m q S ++ lzI G (q 5) 64 f))) (va_Qi (S := Unit) (fun (r : Int32) (_ : Unit) => r = -1000001) (rwB G (fun _ : Unit => (lzM m q (upd S 0 0) ++ lzI G (q 5) 64 f))) (lzA (lzM m q S ++ lzI G (q 5) 64 f))) 0 0 (lzA (lzM m q S ++ lzI G (q 5) 64 f)) := by
  have hbW : (inR a 0 (f 3 - 1) && inL what.toInt64 0 3) = false := by rw [show inL what.toInt64 0 3 = inR what 0 3 from inL_of what 0 3]; exact hbad
  refine rw_start (S := Unit) (cc := cX4_visitor) (maxL := 3) (ret := (some .int)) (by decide) rfl (Nat.le_of_ble_eq_true rfl) ?_
  intro pp ee ss mm bl me cd A hx hb hr hlk hml hts hown hP hK hD hAe hS ls hl
  have hA0 : ∀ zz : Nat, lzA (lzM m q S ++ lzI G (q 5) 64 f) zz → A zz := fun zz h9 => by rw [hAe]; exact h9
  rw [← hAe]
  clear hAe
  have hown : ss.vm.findClass RX4 = some mm.cls := hown
  have hw1 := hts (.fieldLink RX4 48 "LampSquaresModel" "thrown" "I") (List.mem_of_getElem? (i := 1) rfl)
  have hw2 := hts (.constantLong RX4 212 (3)) (List.mem_of_getElem? (i := 2) rfl)
  have hw4 := hts (.constant RX4 68 (-1000001)) (List.mem_of_getElem? (i := 4) rfl)
  have hu_wsX40 : ∀ w ∈ wsX40, w.before ([.ref m, .int a, .int what] : List Value).toArray ss = true := fun w h9 => hts w (List.mem_cons_of_mem _ (List.mem_append_right _ h9))
  have hl : lv_has ls 3 [(0, .ref m), (1, .int a), (2, .int what)] := hl
  refine lv_aload_n hx hb dX4_visitor_0 rfl (lv_at hl 0 rfl) ?_
  refine lv_iconst (v := 0) hx hb dX4_visitor_1 (by decide) ?_
  refine lz_put (G := G) (ci := 4) (C := RX4) (T := TX4) (N := 24) hx hb hu_wsX40 (fun _ h9 => h9) tyX4 tyX4_ok nmX4 hown hK hP hD hS 0 rfl rfl 0 (by decide) hw1 rfl rfl (by decide +kernel) (Nat.le_of_ble_eq_true rfl) dX4_visitor_2 (lzM m q (upd S 0 0) ++ lzI G (q 5) 64 f) rfl (fun H locs hP hD hS => ?_)
  refine lv_aload_n hx hb dX4_visitor_5 rfl (lv_at hl 0 rfl) ?_
  refine lv_iload_n hx hb dX4_visitor_6 rfl (lv_at hl 1 rfl) ?_
  refine ro_calli (va_runV (As := [.int a]) (rest := []) ⟨hx, hb, hml, hown, hts⟩ (c_X4_isVisitor l G m q (upd S 0 0) f a ) (cwV 1 hts gX4_visitor_X4_isVisitor rfl rfl rfl (by decide +kernel) ⟨Nat.le_of_ble_eq_true rfl, Nat.le_of_ble_eq_true rfl⟩) (ro_preV hK hP hP (ci := 4) (q0 := 0) rfl rfl) rfl rfl hl.1 rfl (lv_room (Nat.le_of_ble_eq_true rfl)) dX4_visitor_7 ⟨Nat.zero_le _, Nat.zero_le _⟩) (fun r_1 hr_1 => ?_)
  refine lv_if_eq (tgt := 37) hx hb dX4_visitor_10 (by decide) (fun c_10 => ?_) (fun c_10 => ?_)
  · skip
    have c_10 := b2_z hr_1 c_10
    refine lv_ldc hx hb hown hw4 dX4_visitor_37 ?_
    exact rw_iret (S := Unit) (G := G) (Wd := fun _ : Unit => (lzM m q (upd S 0 0) ++ lzI G (q 5) 64 f)) () hx hb hr hlk dX4_visitor_39 hS (hP) (rfl)
  · skip
    have c_10 := b2_n hr_1 c_10
    refine lv_iload_n hx hb dX4_visitor_13 rfl (lv_at hl 2 rfl) ?_
    refine lv_i2l hx hb dX4_visitor_14 rfl ?_
    refine lv_lconst (v := 0) hx hb dX4_visitor_15 (by decide) ?_
    refine lv_ldc2 hx hb hown hw2 dX4_visitor_16 ?_
    refine ro_calli (va_runS (As := [.long what.toInt64, .long 0, .long 3]) (rest := []) ⟨hx, hb, hml, hown, hts⟩ (c_X4_in l G what.toInt64 0 3 ) (cwS 3 hts gX4_visitor_X4_in rfl rfl rfl (by decide +kernel) ⟨Nat.le_of_ble_eq_true rfl, Nat.le_of_ble_eq_true rfl⟩) (ro_pre hK (fun k q h => by simp at h)) rfl rfl hl.1 rfl (lv_room (Nat.le_of_ble_eq_true rfl)) dX4_visitor_19 ⟨Nat.zero_le _, Nat.zero_le _⟩) (fun r_2 hr_2 => ?_)
    refine lv_if_eq (tgt := 37) hx hb dX4_visitor_22 (by decide) (fun c_22 => ?_) (fun c_22 => ?_)
    · skip
      have c_22 := b2_z hr_2 c_22
      refine lv_ldc hx hb hown hw4 dX4_visitor_37 ?_
      exact rw_iret (S := Unit) (G := G) (Wd := fun _ : Unit => (lzM m q (upd S 0 0) ++ lzI G (q 5) 64 f)) () hx hb hr hlk dX4_visitor_39 hS (hP) (rfl)
    · skip
      have c_22 := b2_n hr_2 c_22
      exact Bool.noConfusion (hbW.symm.trans (by rw [c_10, c_22] <;> rfl))
set_option maxHeartbeats 4000000 in
set_option maxRecDepth 100000 in
theorem c_X4_visitor_ok (l : Launch) (G : lzG) (m : Nat) (q : Nat → Nat) (S : Nat → Int32) (f : Nat → Int32) (v wt M : Nat) (hM : f 3 = nI M) (hM5 : M ≤ 5) (hv : v < M) (hw : wt < 4) : Met l yX4_visitor wsX4_visitor ({ frames := 2, cells := 0, slots := 0, locals := 46 }) (va_Pc [.ref m, .int (nI v), .int (nI wt)] (rwP G (lzM m q S ++ lzI G (q 5) 64 f))) (va_Qi (S := Unit) (fun (r : Int32) (_ : Unit) => r = f (44 + 4 * v + wt)) (rwB G (fun _ : Unit => (lzM m q (upd S 0 0) ++ lzI G (q 5) 64 f))) (lzA (lzM m q S ++ lzI G (q 5) 64 f))) 0 0 (lzA (lzM m q S ++ lzI G (q 5) 64 f)) := by
  have hA : inR (nI v) 0 (f 3 - 1) = true := inR_ok hM hv (by omega)
  have hwL : inL (nI wt).toInt64 0 3 = true := (by decide +kernel : ∀ k, k < 4 → inL (nI k).toInt64 0 3 = true) wt hw
  refine rw_start (S := Unit) (cc := cX4_visitor) (maxL := 3) (ret := (some .int)) (by decide) rfl (Nat.le_of_ble_eq_true rfl) ?_
  intro pp ee ss mm bl me cd A hx hb hr hlk hml hts hown hP hK hD hAe hS ls hl
  have hA0 : ∀ zz : Nat, lzA (lzM m q S ++ lzI G (q 5) 64 f) zz → A zz := fun zz h9 => by rw [hAe]; exact h9
  rw [← hAe]
  clear hAe
  have hown : ss.vm.findClass RX4 = some mm.cls := hown
  have hw1 := hts (.fieldLink RX4 48 "LampSquaresModel" "thrown" "I") (List.mem_of_getElem? (i := 1) rfl)
  have hw2 := hts (.constantLong RX4 212 (3)) (List.mem_of_getElem? (i := 2) rfl)
  have hw3 := hts (.fieldLink RX4 19 "LampSquaresModel" "door" "[I") (List.mem_of_getElem? (i := 3) rfl)
  have hu_wsX40 : ∀ w ∈ wsX40, w.before ([.ref m, .int (nI v), .int (nI wt)] : List Value).toArray ss = true := fun w h9 => hts w (List.mem_cons_of_mem _ (List.mem_append_right _ h9))
  have hl : lv_has ls 3 [(0, .ref m), (1, .int (nI v)), (2, .int (nI wt))] := hl
  refine lv_aload_n hx hb dX4_visitor_0 rfl (lv_at hl 0 rfl) ?_
  refine lv_iconst (v := 0) hx hb dX4_visitor_1 (by decide) ?_
  refine lz_put (G := G) (ci := 4) (C := RX4) (T := TX4) (N := 24) hx hb hu_wsX40 (fun _ h9 => h9) tyX4 tyX4_ok nmX4 hown hK hP hD hS 0 rfl rfl 0 (by decide) hw1 rfl rfl (by decide +kernel) (Nat.le_of_ble_eq_true rfl) dX4_visitor_2 (lzM m q (upd S 0 0) ++ lzI G (q 5) 64 f) rfl (fun H locs hP hD hS => ?_)
  refine lv_aload_n hx hb dX4_visitor_5 rfl (lv_at hl 0 rfl) ?_
  refine lv_iload_n hx hb dX4_visitor_6 rfl (lv_at hl 1 rfl) ?_
  refine ro_calli (va_runV (As := [.int (nI v)]) (rest := []) ⟨hx, hb, hml, hown, hts⟩ (c_X4_isVisitor l G m q (upd S 0 0) f (nI v) ) (cwV 1 hts gX4_visitor_X4_isVisitor rfl rfl rfl (by decide +kernel) ⟨Nat.le_of_ble_eq_true rfl, Nat.le_of_ble_eq_true rfl⟩) (ro_preV hK hP hP (ci := 4) (q0 := 0) rfl rfl) rfl rfl hl.1 rfl (lv_room (Nat.le_of_ble_eq_true rfl)) dX4_visitor_7 ⟨Nat.zero_le _, Nat.zero_le _⟩) (fun r_1 hr_1 => ?_)
  refine lv_if_eq (tgt := 37) hx hb dX4_visitor_10 (by decide) (fun c_10 => ?_) (fun c_10 => ?_)
  · skip
    have c_10 := b2_z hr_1 c_10
    exact Bool.noConfusion (hA.symm.trans c_10)
  · skip
    have c_10 := b2_n hr_1 c_10
    refine lv_iload_n hx hb dX4_visitor_13 rfl (lv_at hl 2 rfl) ?_
    refine lv_i2l hx hb dX4_visitor_14 rfl ?_
    refine lv_lconst (v := 0) hx hb dX4_visitor_15 (by decide) ?_
    refine lv_ldc2 hx hb hown hw2 dX4_visitor_16 ?_
    refine ro_calli (va_runS (As := [.long ((nI wt).toInt64), .long 0, .long 3]) (rest := []) ⟨hx, hb, hml, hown, hts⟩ (c_X4_in l G ((nI wt).toInt64) 0 3 ) (cwS 3 hts gX4_visitor_X4_in rfl rfl rfl (by decide +kernel) ⟨Nat.le_of_ble_eq_true rfl, Nat.le_of_ble_eq_true rfl⟩) (ro_pre hK (fun k q h => by simp at h)) rfl rfl hl.1 rfl (lv_room (Nat.le_of_ble_eq_true rfl)) dX4_visitor_19 ⟨Nat.zero_le _, Nat.zero_le _⟩) (fun r_2 hr_2 => ?_)
    refine lv_if_eq (tgt := 37) hx hb dX4_visitor_22 (by decide) (fun c_22 => ?_) (fun c_22 => ?_)
    · skip
      have c_22 := b2_z hr_2 c_22
      exact Bool.noConfusion (hwL.symm.trans c_22)
    · skip
      have c_22 := b2_n hr_2 c_22
      refine lv_aload_n hx hb dX4_visitor_25 rfl (lv_at hl 0 rfl) ?_
      refine lz_get (G := G) (ci := 4) (v := .ref (q 5)) (C := RX4) (T := TX4) (N := 24) hx hb hu_wsX40 (fun _ h9 => h9) hown hK hP 0 rfl rfl 5 (by decide) hw3 rfl rfl dX4_visitor_26 ?_
      refine lv_iload_n hx hb dX4_visitor_29 rfl (lv_at hl 1 rfl) ?_
      refine lv_iload_n hx hb dX4_visitor_30 rfl (lv_at hl 2 rfl) ?_
      have hPc := hP.sub (ws' := lzI G (q 5) 64 f) [1] rfl
      refine ro_calli (va_runS (As := [.ref (q 5), .int (nI v), .int (nI wt)]) (rest := []) ⟨hx, hb, hml, hown, hts⟩ (c_X4_guest l G (q 5) f v wt (by omega) (hw)) (cwS 3 hts gX4_visitor_X4_guest rfl rfl rfl (by decide +kernel) ⟨Nat.le_of_ble_eq_true rfl, Nat.le_of_ble_eq_true rfl⟩) (ro_pre hK hPc) rfl rfl hl.1 rfl (lv_room (Nat.le_of_ble_eq_true rfl)) dX4_visitor_31 ⟨Nat.zero_le _, Nat.zero_le _⟩) (fun r_3 hr_3 => ?_)
      refine lz_top (y := f (44 + 4 * v + wt)) hr_3 ?_
      refine lv_goto (tgt := 39) hx hb dX4_visitor_34 (by decide) ?_
      exact rw_iret (S := Unit) (G := G) (Wd := fun _ : Unit => (lzM m q (upd S 0 0) ++ lzI G (q 5) 64 f)) () hx hb hr hlk dX4_visitor_39 hS (hP) (rfl)
set_option maxHeartbeats 4000000 in
set_option maxRecDepth 100000 in
theorem c_X4_as_bad (l : Launch) (G : lzG) (m : Nat) (q : Nat → Nat) (S : Nat → Int32) (f : Nat → Int32) (a k : Int32) (hbad : (inR a 0 (f 2 - 1) && inR k 0 5) = false) : Met l yX4_as wsX4_as ({ frames := 2, cells := 0, slots := 0, locals := 46 }) (va_Pc [.ref m, .int a, .int k] (rwP G (lzM m q S ++ lzI G (q 5) 64 f))) (va_Qi (S := Unit) (fun (r : Int32) (_ : Unit) => r = -1000001) (rwB G (fun _ : Unit => (lzM m q (upd S 0 0) ++ lzI G (q 5) 64 f))) (lzA (lzM m q S ++ lzI G (q 5) 64 f))) 0 0 (lzA (lzM m q S ++ lzI G (q 5) 64 f)) := by
  have hbW : (inR a 0 (f 2 - 1) && inL k.toInt64 0 5) = false := by rw [show inL k.toInt64 0 5 = inR k 0 5 from inL_of k 0 5]; exact hbad
  refine rw_start (S := Unit) (cc := cX4_as) (maxL := 3) (ret := (some .int)) (by decide) rfl (Nat.le_of_ble_eq_true rfl) ?_
  intro pp ee ss mm bl me cd A hx hb hr hlk hml hts hown hP hK hD hAe hS ls hl
  have hA0 : ∀ zz : Nat, lzA (lzM m q S ++ lzI G (q 5) 64 f) zz → A zz := fun zz h9 => by rw [hAe]; exact h9
  rw [← hAe]
  clear hAe
  have hown : ss.vm.findClass RX4 = some mm.cls := hown
  have hw1 := hts (.fieldLink RX4 48 "LampSquaresModel" "thrown" "I") (List.mem_of_getElem? (i := 1) rfl)
  have hw2 := hts (.constantLong RX4 258 (5)) (List.mem_of_getElem? (i := 2) rfl)
  have hw3 := hts (.constant RX4 68 (-1000001)) (List.mem_of_getElem? (i := 3) rfl)
  have hu_wsX40 : ∀ w ∈ wsX40, w.before ([.ref m, .int a, .int k] : List Value).toArray ss = true := fun w h9 => hts w (List.mem_cons_of_mem _ (List.mem_append_right _ h9))
  have hl : lv_has ls 3 [(0, .ref m), (1, .int a), (2, .int k)] := hl
  refine lv_aload_n hx hb dX4_as_0 rfl (lv_at hl 0 rfl) ?_
  refine lv_iconst (v := 0) hx hb dX4_as_1 (by decide) ?_
  refine lz_put (G := G) (ci := 4) (C := RX4) (T := TX4) (N := 24) hx hb hu_wsX40 (fun _ h9 => h9) tyX4 tyX4_ok nmX4 hown hK hP hD hS 0 rfl rfl 0 (by decide) hw1 rfl rfl (by decide +kernel) (Nat.le_of_ble_eq_true rfl) dX4_as_2 (lzM m q (upd S 0 0) ++ lzI G (q 5) 64 f) rfl (fun H locs hP hD hS => ?_)
  refine lv_aload_n hx hb dX4_as_5 rfl (lv_at hl 0 rfl) ?_
  refine lv_iload_n hx hb dX4_as_6 rfl (lv_at hl 1 rfl) ?_
  refine ro_calli (va_runV (As := [.int a]) (rest := []) ⟨hx, hb, hml, hown, hts⟩ (c_X4_isSquare l G m q (upd S 0 0) f a ) (cwV 1 hts gX4_as_X4_isSquare rfl rfl rfl (by decide +kernel) ⟨Nat.le_of_ble_eq_true rfl, Nat.le_of_ble_eq_true rfl⟩) (ro_preV hK hP hP (ci := 4) (q0 := 0) rfl rfl) rfl rfl hl.1 rfl (lv_room (Nat.le_of_ble_eq_true rfl)) dX4_as_7 ⟨Nat.zero_le _, Nat.zero_le _⟩) (fun r_1 hr_1 => ?_)
  refine lv_if_eq (tgt := 25) hx hb dX4_as_10 (by decide) (fun c_10 => ?_) (fun c_10 => ?_)
  · skip
    have c_10 := b2_z hr_1 c_10
    refine lv_ldc hx hb hown hw3 dX4_as_25 ?_
    exact rw_iret (S := Unit) (G := G) (Wd := fun _ : Unit => (lzM m q (upd S 0 0) ++ lzI G (q 5) 64 f)) () hx hb hr hlk dX4_as_27 hS (hP) (rfl)
  · skip
    have c_10 := b2_n hr_1 c_10
    refine lv_iload_n hx hb dX4_as_13 rfl (lv_at hl 2 rfl) ?_
    refine lv_i2l hx hb dX4_as_14 rfl ?_
    refine lv_lconst (v := 0) hx hb dX4_as_15 (by decide) ?_
    refine lv_ldc2 hx hb hown hw2 dX4_as_16 ?_
    refine ro_calli (va_runS (As := [.long k.toInt64, .long 0, .long 5]) (rest := []) ⟨hx, hb, hml, hown, hts⟩ (c_X4_in l G k.toInt64 0 5 ) (cwS 3 hts gX4_as_X4_in rfl rfl rfl (by decide +kernel) ⟨Nat.le_of_ble_eq_true rfl, Nat.le_of_ble_eq_true rfl⟩) (ro_pre hK (fun k q h => by simp at h)) rfl rfl hl.1 rfl (lv_room (Nat.le_of_ble_eq_true rfl)) dX4_as_19 ⟨Nat.zero_le _, Nat.zero_le _⟩) (fun r_2 hr_2 => ?_)
    refine lv_if_ne (tgt := 28) hx hb dX4_as_22 (by decide) (fun c_22 => ?_) (fun c_22 => ?_)
    · skip
      have c_22 := b2_n hr_2 c_22
      exact Bool.noConfusion (hbW.symm.trans (by rw [c_10, c_22] <;> rfl))
    · skip
      have c_22 := b2_z hr_2 c_22
      refine lv_ldc hx hb hown hw3 dX4_as_25 ?_
      exact rw_iret (S := Unit) (G := G) (Wd := fun _ : Unit => (lzM m q (upd S 0 0) ++ lzI G (q 5) 64 f)) () hx hb hr hlk dX4_as_27 hS (hP) (rfl)
set_option maxHeartbeats 4000000 in
set_option maxRecDepth 100000 in
theorem c_X4_as_ok (l : Launch) (G : lzG) (m : Nat) (q : Nat → Nat) (S : Nat → Int32) (f : Nat → Int32) (s N : Nat) (k : Int32) (hN : f 2 = nI N) (hN8 : N ≤ 8) (hs : s < N) (hk : inR k 0 5 = true) : Met l yX4_as wsX4_as ({ frames := 2, cells := 0, slots := 0, locals := 46 }) (va_Pc [.ref m, .int (nI s), .int k] (rwP G (lzM m q S ++ lzI G (q 5) 64 f))) (va_Qi (S := Unit) (fun (r : Int32) (_ : Unit) => r = if isOfM (f (4 + 5 * s)) k = true then nI s else -1000013) (rwB G (fun _ : Unit => (lzM m q (upd (upd S 0 0) 1 (if isOfM (f (4 + 5 * s)) k = true then 0 else 3)) ++ lzI G (q 5) 64 f))) (lzA (lzM m q S ++ lzI G (q 5) 64 f))) 0 0 (lzA (lzM m q S ++ lzI G (q 5) 64 f)) := by
  have hB : inR (nI s) 0 (f 2 - 1) = true := inR_ok hN hs (by omega)
  have hkL : inL k.toInt64 0 5 = true := (inL_of k 0 5).trans hk
  refine rw_start (S := Unit) (cc := cX4_as) (maxL := 3) (ret := (some .int)) (by decide) rfl (Nat.le_of_ble_eq_true rfl) ?_
  intro pp ee ss mm bl me cd A hx hb hr hlk hml hts hown hP hK hD hAe hS ls hl
  have hA0 : ∀ zz : Nat, lzA (lzM m q S ++ lzI G (q 5) 64 f) zz → A zz := fun zz h9 => by rw [hAe]; exact h9
  rw [← hAe]
  clear hAe
  have hown : ss.vm.findClass RX4 = some mm.cls := hown
  have hw1 := hts (.fieldLink RX4 48 "LampSquaresModel" "thrown" "I") (List.mem_of_getElem? (i := 1) rfl)
  have hw2 := hts (.constantLong RX4 258 (5)) (List.mem_of_getElem? (i := 2) rfl)
  have hw4 := hts (.fieldLink RX4 52 "LampSquaresModel" "status" "I") (List.mem_of_getElem? (i := 4) rfl)
  have hw5 := hts (.fieldLink RX4 19 "LampSquaresModel" "door" "[I") (List.mem_of_getElem? (i := 5) rfl)
  have hu_wsX40 : ∀ w ∈ wsX40, w.before ([.ref m, .int (nI s), .int k] : List Value).toArray ss = true := fun w h9 => hts w (List.mem_cons_of_mem _ (List.mem_append_right _ h9))
  have hl : lv_has ls 3 [(0, .ref m), (1, .int (nI s)), (2, .int k)] := hl
  refine lv_aload_n hx hb dX4_as_0 rfl (lv_at hl 0 rfl) ?_
  refine lv_iconst (v := 0) hx hb dX4_as_1 (by decide) ?_
  refine lz_put (G := G) (ci := 4) (C := RX4) (T := TX4) (N := 24) hx hb hu_wsX40 (fun _ h9 => h9) tyX4 tyX4_ok nmX4 hown hK hP hD hS 0 rfl rfl 0 (by decide) hw1 rfl rfl (by decide +kernel) (Nat.le_of_ble_eq_true rfl) dX4_as_2 (lzM m q (upd S 0 0) ++ lzI G (q 5) 64 f) rfl (fun H locs hP hD hS => ?_)
  refine lv_aload_n hx hb dX4_as_5 rfl (lv_at hl 0 rfl) ?_
  refine lv_iload_n hx hb dX4_as_6 rfl (lv_at hl 1 rfl) ?_
  refine ro_calli (va_runV (As := [.int (nI s)]) (rest := []) ⟨hx, hb, hml, hown, hts⟩ (c_X4_isSquare l G m q (upd S 0 0) f (nI s) ) (cwV 1 hts gX4_as_X4_isSquare rfl rfl rfl (by decide +kernel) ⟨Nat.le_of_ble_eq_true rfl, Nat.le_of_ble_eq_true rfl⟩) (ro_preV hK hP hP (ci := 4) (q0 := 0) rfl rfl) rfl rfl hl.1 rfl (lv_room (Nat.le_of_ble_eq_true rfl)) dX4_as_7 ⟨Nat.zero_le _, Nat.zero_le _⟩) (fun r_1 hr_1 => ?_)
  refine lv_if_eq (tgt := 25) hx hb dX4_as_10 (by decide) (fun c_10 => ?_) (fun c_10 => ?_)
  · skip
    have c_10 := b2_z hr_1 c_10
    exact Bool.noConfusion (hB.symm.trans c_10)
  · skip
    have c_10 := b2_n hr_1 c_10
    refine lv_iload_n hx hb dX4_as_13 rfl (lv_at hl 2 rfl) ?_
    refine lv_i2l hx hb dX4_as_14 rfl ?_
    refine lv_lconst (v := 0) hx hb dX4_as_15 (by decide) ?_
    refine lv_ldc2 hx hb hown hw2 dX4_as_16 ?_
    refine ro_calli (va_runS (As := [.long k.toInt64, .long 0, .long 5]) (rest := []) ⟨hx, hb, hml, hown, hts⟩ (c_X4_in l G k.toInt64 0 5 ) (cwS 3 hts gX4_as_X4_in rfl rfl rfl (by decide +kernel) ⟨Nat.le_of_ble_eq_true rfl, Nat.le_of_ble_eq_true rfl⟩) (ro_pre hK (fun k q h => by simp at h)) rfl rfl hl.1 rfl (lv_room (Nat.le_of_ble_eq_true rfl)) dX4_as_19 ⟨Nat.zero_le _, Nat.zero_le _⟩) (fun r_2 hr_2 => ?_)
    refine lv_if_ne (tgt := 28) hx hb dX4_as_22 (by decide) (fun c_22 => ?_) (fun c_22 => ?_)
    · skip
      have c_22 := b2_n hr_2 c_22
      refine lv_aload_n hx hb dX4_as_28 rfl (lv_at hl 0 rfl) ?_
      refine lv_iconst (v := 0) hx hb dX4_as_29 (by decide) ?_
      refine lz_put (G := G) (ci := 4) (C := RX4) (T := TX4) (N := 24) hx hb hu_wsX40 (fun _ h9 => h9) tyX4 tyX4_ok nmX4 hown hK hP hD hS 0 rfl rfl 1 (by decide) hw4 rfl rfl (by decide +kernel) (Nat.le_of_ble_eq_true rfl) dX4_as_30 (lzM m q (upd (upd S 0 0) 1 0) ++ lzI G (q 5) 64 f) rfl (fun H locs hP hD hS => ?_)
      refine lv_aload_n hx hb dX4_as_33 rfl (lv_at hl 0 rfl) ?_
      refine lz_get (G := G) (ci := 4) (v := .ref (q 5)) (C := RX4) (T := TX4) (N := 24) hx hb hu_wsX40 (fun _ h9 => h9) hown hK hP 0 rfl rfl 5 (by decide) hw5 rfl rfl dX4_as_34 ?_
      refine lv_iload_n hx hb dX4_as_37 rfl (lv_at hl 1 rfl) ?_
      refine lv_iconst (v := 0) hx hb dX4_as_38 (by decide) ?_
      have hPc := hP.sub (ws' := lzI G (q 5) 64 f) [1] rfl
      refine ro_calli (va_runS (As := [.ref (q 5), .int (nI s), .int 0]) (rest := []) ⟨hx, hb, hml, hown, hts⟩ (c_X4_of l G (q 5) f s 0 (by omega) (by decide)) (cwS 3 hts gX4_as_X4_of rfl rfl rfl (by decide +kernel) ⟨Nat.le_of_ble_eq_true rfl, Nat.le_of_ble_eq_true rfl⟩) (ro_pre hK hPc) rfl rfl hl.1 rfl (lv_room (Nat.le_of_ble_eq_true rfl)) dX4_as_39 ⟨Nat.zero_le _, Nat.zero_le _⟩) (fun r_3 hr_3 => ?_)
      refine lz_top (y := f (4 + 5 * s)) hr_3 ?_
      refine lv_iload_n hx hb dX4_as_42 rfl (lv_at hl 2 rfl) ?_
      refine ro_calli (va_runS (As := [.int (f (4 + 5 * s)), .int k]) (rest := []) ⟨hx, hb, hml, hown, hts⟩ (c_X4_isOf l G (f (4 + 5 * s)) k ) (cwS 2 hts gX4_as_X4_isOf rfl rfl rfl (by decide +kernel) ⟨Nat.le_of_ble_eq_true rfl, Nat.le_of_ble_eq_true rfl⟩) (ro_pre hK (fun k q h => by simp at h)) rfl rfl hl.1 rfl (lv_room (Nat.le_of_ble_eq_true rfl)) dX4_as_43 ⟨Nat.zero_le _, Nat.zero_le _⟩) (fun r_4 hr_4 => ?_)
      refine lv_if_eq (tgt := 53) hx hb dX4_as_46 (by decide) (fun c_46 => ?_) (fun c_46 => ?_)
      · skip
        have c_46 := b2_z hr_4 c_46
        refine lv_aload_n hx hb dX4_as_53 rfl (lv_at hl 0 rfl) ?_
        refine lv_iconst (v := 3) hx hb dX4_as_54 (by decide) ?_
        have hPc := hP.sub (ws' := lzM m q (upd (upd S 0 0) 1 0)) [0] rfl
        have hDc := hD.sub (ws' := lzM m q (upd (upd S 0 0) 1 0)) [0] (by decide) rfl
        have hFc : ∀ zz : Nat, lzA (lzM m q (upd (upd S 0 0) 1 0)) zz → A zz := lz_free hD [0] rfl
        refine va_calli (va_runV (As := [.int 3]) (rest := []) ⟨hx, hb, hml, hown, hts⟩ (c_X4_finding l G m q (upd (upd S 0 0) 1 0) 3 ) (cwV 1 hts gX4_as_X4_finding rfl rfl rfl (by decide +kernel) ⟨Nat.le_of_ble_eq_true rfl, Nat.le_of_ble_eq_true rfl⟩) (rw_preV hK hPc hDc hP (ci := 4) (q0 := 0) rfl rfl) rfl rfl hl.1 rfl (lv_room (Nat.le_of_ble_eq_true rfl)) dX4_as_55 ⟨Nat.zero_le _, Nat.zero_le _⟩) hS (fun q _ h => hFc q h) hFc (fun r_5 u_6 t9 H1 locs ht hvm hr_5 hB hz1 hk1 hS => ?_)
        replace hB : va_P G.1 lzC _ t9.heap := hB
        rw [ht] at hB
        obtain ⟨hP, hD⟩ := lz_join (wc := lzM m q (upd (upd S 0 0) 1 0)) (wr := ([(q 5, .inl (G.2 0, 64, .inl f))] : va_W)) (w1 := lzM m q (upd (upd S 0 0) 1 3)) hP hD [0] [1] rfl rfl (by decide) (by decide) rfl hk1 hB
        replace hP := hP.sub (ws' := (lzM m q (upd (upd S 0 0) 1 3) ++ lzI G (q 5) 64 f)) [1, 0] rfl
        replace hD := hD.sub (ws' := (lzM m q (upd (upd S 0 0) 1 3) ++ lzI G (q 5) 64 f)) [1, 0] (by decide) rfl
        clear ht hvm hB hz1 hk1
        generalize H1 = H at hP hS ⊢
        refine lz_top (y := -1000010 - 3) hr_5 ?_
        exact rw_iret (S := Unit) (G := G) (Wd := fun _ : Unit => (lzM m q (upd (upd S 0 0) 1 (if isOfM (f (4 + 5 * s)) k = true then 0 else 3)) ++ lzI G (q 5) 64 f)) () hx hb hr hlk dX4_as_58 hS (by show va_P G.1 lzC (lzM m q (upd (upd S 0 0) 1 (if isOfM (f (4 + 5 * s)) k = true then 0 else 3)) ++ lzI G (q 5) 64 f) _; first | (rw [if_pos c_46]; exact hP) | (rw [if_neg (by rw [c_46]; decide)]; exact hP)) (by first | rw [if_pos c_46] | (rw [if_neg (by rw [c_46]; decide)]; rfl))
      · skip
        have c_46 := b2_n hr_4 c_46
        refine lv_iload_n hx hb dX4_as_49 rfl (lv_at hl 1 rfl) ?_
        refine lv_goto (tgt := 58) hx hb dX4_as_50 (by decide) ?_
        exact rw_iret (S := Unit) (G := G) (Wd := fun _ : Unit => (lzM m q (upd (upd S 0 0) 1 (if isOfM (f (4 + 5 * s)) k = true then 0 else 3)) ++ lzI G (q 5) 64 f)) () hx hb hr hlk dX4_as_58 hS (by show va_P G.1 lzC (lzM m q (upd (upd S 0 0) 1 (if isOfM (f (4 + 5 * s)) k = true then 0 else 3)) ++ lzI G (q 5) 64 f) _; first | (rw [if_pos c_46]; exact hP) | (rw [if_neg (by rw [c_46]; decide)]; exact hP)) (by first | rw [if_pos c_46] | (rw [if_neg (by rw [c_46]; decide)]; rfl))
    · skip
      have c_22 := b2_z hr_2 c_22
      exact Bool.noConfusion (hkL.symm.trans c_22)
set_option maxHeartbeats 4000000 in
set_option maxRecDepth 100000 in
theorem c_X4_harsh_state (l : Launch) (G : lzG) (m : Nat) (q : Nat → Nat) (S : Nat → Int32) (f : Nat → Int32) (want set : Int32) (hR : (decide (0 < f 0)) = false) : Met l yX4_harsh wsX4_harsh ({ frames := 1, cells := 0, slots := 0, locals := 20 }) (va_Pc [.ref m, .int want, .int set] (rwP G (lzM m q S ++ lzI G (q 5) 64 f))) (va_Qi (S := Unit) (fun (r : Int32) (_ : Unit) => r = -1000002) (rwB G (fun _ : Unit => (lzM m q (upd S 0 0) ++ lzI G (q 5) 64 f))) (lzA (lzM m q S ++ lzI G (q 5) 64 f))) 0 0 (lzA (lzM m q S ++ lzI G (q 5) 64 f)) := by
  refine rw_start (S := Unit) (cc := cX4_harsh) (maxL := 6) (ret := (some .int)) (by decide) rfl (Nat.le_of_ble_eq_true rfl) ?_
  intro pp ee ss mm bl me cd A hx hb hr hlk hml hts hown hP hK hD hAe hS ls hl
  have hA0 : ∀ zz : Nat, lzA (lzM m q S ++ lzI G (q 5) 64 f) zz → A zz := fun zz h9 => by rw [hAe]; exact h9
  rw [← hAe]
  clear hAe
  have hown : ss.vm.findClass RX4 = some mm.cls := hown
  have hw1 := hts (.fieldLink RX4 48 "LampSquaresModel" "thrown" "I") (List.mem_of_getElem? (i := 1) rfl)
  have hw2 := hts (.constant RX4 204 (-1000002)) (List.mem_of_getElem? (i := 2) rfl)
  have hu_wsX40 : ∀ w ∈ wsX40, w.before ([.ref m, .int want, .int set] : List Value).toArray ss = true := fun w h9 => hts w (List.mem_cons_of_mem _ (List.mem_append_right _ h9))
  have hl : lv_has ls 6 [(0, .ref m), (1, .int want), (2, .int set)] := hl
  refine lv_aload_n hx hb dX4_harsh_0 rfl (lv_at hl 0 rfl) ?_
  refine lv_iconst (v := 0) hx hb dX4_harsh_1 (by decide) ?_
  refine lz_put (G := G) (ci := 4) (C := RX4) (T := TX4) (N := 24) hx hb hu_wsX40 (fun _ h9 => h9) tyX4 tyX4_ok nmX4 hown hK hP hD hS 0 rfl rfl 0 (by decide) hw1 rfl rfl (by decide +kernel) (Nat.le_of_ble_eq_true rfl) dX4_harsh_2 (lzM m q (upd S 0 0) ++ lzI G (q 5) 64 f) rfl (fun H locs hP hD hS => ?_)
  refine lv_aload_n hx hb dX4_harsh_5 rfl (lv_at hl 0 rfl) ?_
  refine ro_calli (va_runV (As := []) (rest := []) ⟨hx, hb, hml, hown, hts⟩ (c_X4_isThere l G m q (upd S 0 0) f ) (cwV 0 hts gX4_harsh_X4_isThere rfl rfl rfl (by decide +kernel) ⟨Nat.le_of_ble_eq_true rfl, Nat.le_of_ble_eq_true rfl⟩) (ro_preV hK hP hP (ci := 4) (q0 := 0) rfl rfl) rfl rfl hl.1 rfl (lv_room (Nat.le_of_ble_eq_true rfl)) dX4_harsh_6 ⟨Nat.zero_le _, Nat.zero_le _⟩) (fun r_1 hr_1 => ?_)
  refine lv_if_ne (tgt := 15) hx hb dX4_harsh_9 (by decide) (fun c_9 => ?_) (fun c_9 => ?_)
  · skip
    have c_9 := b2_n hr_1 c_9
    exact Bool.noConfusion (hR.symm.trans c_9)
  · skip
    have c_9 := b2_z hr_1 c_9
    refine lv_ldc hx hb hown hw2 dX4_harsh_12 ?_
    exact rw_iret (S := Unit) (G := G) (Wd := fun _ : Unit => (lzM m q (upd S 0 0) ++ lzI G (q 5) 64 f)) () hx hb hr hlk dX4_harsh_14 hS (hP) (rfl)
set_option maxHeartbeats 4000000 in
set_option maxRecDepth 100000 in
theorem c_X4_harsh_bad (l : Launch) (G : lzG) (m : Nat) (q : Nat → Nat) (S : Nat → Int32) (f : Nat → Int32) (want set : Int32) (hR : (decide (0 < f 0)) = true) (hbad : (inR want 0 ((1 <<< (f 3 &&& 31)) - 1) && inR set 0 ((1 <<< (f 2 &&& 31)) - 1)) = false) : Met l yX4_harsh wsX4_harsh ({ frames := 2, cells := 0, slots := 0, locals := 46 }) (va_Pc [.ref m, .int want, .int set] (rwP G (lzM m q S ++ lzI G (q 5) 64 f))) (va_Qi (S := Unit) (fun (r : Int32) (_ : Unit) => r = -1000001) (rwB G (fun _ : Unit => (lzM m q (upd S 0 0) ++ lzI G (q 5) 64 f))) (lzA (lzM m q S ++ lzI G (q 5) 64 f))) 0 0 (lzA (lzM m q S ++ lzI G (q 5) 64 f)) := by
  refine rw_start (S := Unit) (cc := cX4_harsh) (maxL := 6) (ret := (some .int)) (by decide) rfl (Nat.le_of_ble_eq_true rfl) ?_
  intro pp ee ss mm bl me cd A hx hb hr hlk hml hts hown hP hK hD hAe hS ls hl
  have hA0 : ∀ zz : Nat, lzA (lzM m q S ++ lzI G (q 5) 64 f) zz → A zz := fun zz h9 => by rw [hAe]; exact h9
  rw [← hAe]
  clear hAe
  have hown : ss.vm.findClass RX4 = some mm.cls := hown
  have hw1 := hts (.fieldLink RX4 48 "LampSquaresModel" "thrown" "I") (List.mem_of_getElem? (i := 1) rfl)
  have hw3 := hts (.constant RX4 68 (-1000001)) (List.mem_of_getElem? (i := 3) rfl)
  have hu_wsX40 : ∀ w ∈ wsX40, w.before ([.ref m, .int want, .int set] : List Value).toArray ss = true := fun w h9 => hts w (List.mem_cons_of_mem _ (List.mem_append_right _ h9))
  have hl : lv_has ls 6 [(0, .ref m), (1, .int want), (2, .int set)] := hl
  refine lv_aload_n hx hb dX4_harsh_0 rfl (lv_at hl 0 rfl) ?_
  refine lv_iconst (v := 0) hx hb dX4_harsh_1 (by decide) ?_
  refine lz_put (G := G) (ci := 4) (C := RX4) (T := TX4) (N := 24) hx hb hu_wsX40 (fun _ h9 => h9) tyX4 tyX4_ok nmX4 hown hK hP hD hS 0 rfl rfl 0 (by decide) hw1 rfl rfl (by decide +kernel) (Nat.le_of_ble_eq_true rfl) dX4_harsh_2 (lzM m q (upd S 0 0) ++ lzI G (q 5) 64 f) rfl (fun H locs hP hD hS => ?_)
  refine lv_aload_n hx hb dX4_harsh_5 rfl (lv_at hl 0 rfl) ?_
  refine ro_calli (va_runV (As := []) (rest := []) ⟨hx, hb, hml, hown, hts⟩ (c_X4_isThere l G m q (upd S 0 0) f ) (cwV 0 hts gX4_harsh_X4_isThere rfl rfl rfl (by decide +kernel) ⟨Nat.le_of_ble_eq_true rfl, Nat.le_of_ble_eq_true rfl⟩) (ro_preV hK hP hP (ci := 4) (q0 := 0) rfl rfl) rfl rfl hl.1 rfl (lv_room (Nat.le_of_ble_eq_true rfl)) dX4_harsh_6 ⟨Nat.zero_le _, Nat.zero_le _⟩) (fun r_1 hr_1 => ?_)
  refine lv_if_ne (tgt := 15) hx hb dX4_harsh_9 (by decide) (fun c_9 => ?_) (fun c_9 => ?_)
  · skip
    have c_9 := b2_n hr_1 c_9
    refine lv_aload_n hx hb dX4_harsh_15 rfl (lv_at hl 0 rfl) ?_
    refine lv_iload_n hx hb dX4_harsh_16 rfl (lv_at hl 1 rfl) ?_
    refine ro_calli (va_runV (As := [.int want]) (rest := []) ⟨hx, hb, hml, hown, hts⟩ (c_X4_areVisitors l G m q (upd S 0 0) f want ) (cwV 1 hts gX4_harsh_X4_areVisitors rfl rfl rfl (by decide +kernel) ⟨Nat.le_of_ble_eq_true rfl, Nat.le_of_ble_eq_true rfl⟩) (ro_preV hK hP hP (ci := 4) (q0 := 0) rfl rfl) rfl rfl hl.1 rfl (lv_room (Nat.le_of_ble_eq_true rfl)) dX4_harsh_17 ⟨Nat.zero_le _, Nat.zero_le _⟩) (fun r_2 hr_2 => ?_)
    refine lv_if_eq (tgt := 31) hx hb dX4_harsh_20 (by decide) (fun c_20 => ?_) (fun c_20 => ?_)
    · skip
      have c_20 := b2_z hr_2 c_20
      refine lv_ldc hx hb hown hw3 dX4_harsh_31 ?_
      exact rw_iret (S := Unit) (G := G) (Wd := fun _ : Unit => (lzM m q (upd S 0 0) ++ lzI G (q 5) 64 f)) () hx hb hr hlk dX4_harsh_33 hS (hP) (rfl)
    · skip
      have c_20 := b2_n hr_2 c_20
      refine lv_aload_n hx hb dX4_harsh_23 rfl (lv_at hl 0 rfl) ?_
      refine lv_iload_n hx hb dX4_harsh_24 rfl (lv_at hl 2 rfl) ?_
      refine ro_calli (va_runV (As := [.int set]) (rest := []) ⟨hx, hb, hml, hown, hts⟩ (c_X4_areSquares l G m q (upd S 0 0) f set ) (cwV 1 hts gX4_harsh_X4_areSquares rfl rfl rfl (by decide +kernel) ⟨Nat.le_of_ble_eq_true rfl, Nat.le_of_ble_eq_true rfl⟩) (ro_preV hK hP hP (ci := 4) (q0 := 0) rfl rfl) rfl rfl hl.1 rfl (lv_room (Nat.le_of_ble_eq_true rfl)) dX4_harsh_25 ⟨Nat.zero_le _, Nat.zero_le _⟩) (fun r_3 hr_3 => ?_)
      refine lv_if_ne (tgt := 34) hx hb dX4_harsh_28 (by decide) (fun c_28 => ?_) (fun c_28 => ?_)
      · skip
        have c_28 := b2_n hr_3 c_28
        exact Bool.noConfusion (hbad.symm.trans (by rw [c_20, c_28] <;> rfl))
      · skip
        have c_28 := b2_z hr_3 c_28
        refine lv_ldc hx hb hown hw3 dX4_harsh_31 ?_
        exact rw_iret (S := Unit) (G := G) (Wd := fun _ : Unit => (lzM m q (upd S 0 0) ++ lzI G (q 5) 64 f)) () hx hb hr hlk dX4_harsh_33 hS (hP) (rfl)
  · skip
    have c_9 := b2_z hr_1 c_9
    exact Bool.noConfusion (hR.symm.trans c_9)
set_option maxHeartbeats 4000000 in
set_option maxRecDepth 100000 in
theorem c_X4_harsh_ok (l : Launch) (G : lzG) (m : Nat) (q : Nat → Nat) (S : Nat → Int32) (f : Nat → Int32) (want set : Int32) (N M : Nat) (hN : f 2 = nI N) (hN8 : N ≤ 8) (hM : f 3 = nI M) (hM5 : M ≤ 5) (hR : (decide (0 < f 0)) = true) (hvs : inR want 0 ((1 <<< (f 3 &&& 31)) - 1) = true) (hset : inR set 0 ((1 <<< (f 2 &&& 31)) - 1) = true) : Met l yX4_harsh wsX4_harsh ({ frames := 5, cells := 0, slots := 0, locals := 114 }) (va_Pc [.ref m, .int want, .int set] (rwP G (lzM m q S ++ lzI G (q 5) 64 f))) (va_Qi (S := Unit) (fun (r : Int32) (_ : Unit) => r = maxM (fun v => hasI want v) (fun v => wrgN f v set N) M) (rwB G (fun _ : Unit => (lzM m q (upd S 0 0) ++ lzI G (q 5) 64 f))) (lzA (lzM m q S ++ lzI G (q 5) 64 f))) 0 0 (lzA (lzM m q S ++ lzI G (q 5) 64 f)) := by
  refine rw_start (S := Unit) (cc := cX4_harsh) (maxL := 6) (ret := (some .int)) (by decide) rfl (Nat.le_of_ble_eq_true rfl) ?_
  intro pp ee ss mm bl me cd A hx hb hr hlk hml hts hown hP hK hD hAe hS ls hl
  have hA0 : ∀ zz : Nat, lzA (lzM m q S ++ lzI G (q 5) 64 f) zz → A zz := fun zz h9 => by rw [hAe]; exact h9
  rw [← hAe]
  clear hAe
  have hown : ss.vm.findClass RX4 = some mm.cls := hown
  have hw1 := hts (.fieldLink RX4 48 "LampSquaresModel" "thrown" "I") (List.mem_of_getElem? (i := 1) rfl)
  have hw4 := hts (.fieldLink RX4 19 "LampSquaresModel" "door" "[I") (List.mem_of_getElem? (i := 4) rfl)
  have hu_wsX40 : ∀ w ∈ wsX40, w.before ([.ref m, .int want, .int set] : List Value).toArray ss = true := fun w h9 => hts w (List.mem_cons_of_mem _ (List.mem_append_right _ h9))
  have hl : lv_has ls 6 [(0, .ref m), (1, .int want), (2, .int set)] := hl
  refine lv_aload_n hx hb dX4_harsh_0 rfl (lv_at hl 0 rfl) ?_
  refine lv_iconst (v := 0) hx hb dX4_harsh_1 (by decide) ?_
  refine lz_put (G := G) (ci := 4) (C := RX4) (T := TX4) (N := 24) hx hb hu_wsX40 (fun _ h9 => h9) tyX4 tyX4_ok nmX4 hown hK hP hD hS 0 rfl rfl 0 (by decide) hw1 rfl rfl (by decide +kernel) (Nat.le_of_ble_eq_true rfl) dX4_harsh_2 (lzM m q (upd S 0 0) ++ lzI G (q 5) 64 f) rfl (fun H locs hP hD hS => ?_)
  refine lv_aload_n hx hb dX4_harsh_5 rfl (lv_at hl 0 rfl) ?_
  refine ro_calli (va_runV (As := []) (rest := []) ⟨hx, hb, hml, hown, hts⟩ (c_X4_isThere l G m q (upd S 0 0) f ) (cwV 0 hts gX4_harsh_X4_isThere rfl rfl rfl (by decide +kernel) ⟨Nat.le_of_ble_eq_true rfl, Nat.le_of_ble_eq_true rfl⟩) (ro_preV hK hP hP (ci := 4) (q0 := 0) rfl rfl) rfl rfl hl.1 rfl (lv_room (Nat.le_of_ble_eq_true rfl)) dX4_harsh_6 ⟨Nat.zero_le _, Nat.zero_le _⟩) (fun r_1 hr_1 => ?_)
  refine lv_if_ne (tgt := 15) hx hb dX4_harsh_9 (by decide) (fun c_9 => ?_) (fun c_9 => ?_)
  · skip
    have c_9 := b2_n hr_1 c_9
    refine lv_aload_n hx hb dX4_harsh_15 rfl (lv_at hl 0 rfl) ?_
    refine lv_iload_n hx hb dX4_harsh_16 rfl (lv_at hl 1 rfl) ?_
    refine ro_calli (va_runV (As := [.int want]) (rest := []) ⟨hx, hb, hml, hown, hts⟩ (c_X4_areVisitors l G m q (upd S 0 0) f want ) (cwV 1 hts gX4_harsh_X4_areVisitors rfl rfl rfl (by decide +kernel) ⟨Nat.le_of_ble_eq_true rfl, Nat.le_of_ble_eq_true rfl⟩) (ro_preV hK hP hP (ci := 4) (q0 := 0) rfl rfl) rfl rfl hl.1 rfl (lv_room (Nat.le_of_ble_eq_true rfl)) dX4_harsh_17 ⟨Nat.zero_le _, Nat.zero_le _⟩) (fun r_2 hr_2 => ?_)
    refine lv_if_eq (tgt := 31) hx hb dX4_harsh_20 (by decide) (fun c_20 => ?_) (fun c_20 => ?_)
    · skip
      have c_20 := b2_z hr_2 c_20
      exact Bool.noConfusion (hvs.symm.trans c_20)
    · skip
      have c_20 := b2_n hr_2 c_20
      refine lv_aload_n hx hb dX4_harsh_23 rfl (lv_at hl 0 rfl) ?_
      refine lv_iload_n hx hb dX4_harsh_24 rfl (lv_at hl 2 rfl) ?_
      refine ro_calli (va_runV (As := [.int set]) (rest := []) ⟨hx, hb, hml, hown, hts⟩ (c_X4_areSquares l G m q (upd S 0 0) f set ) (cwV 1 hts gX4_harsh_X4_areSquares rfl rfl rfl (by decide +kernel) ⟨Nat.le_of_ble_eq_true rfl, Nat.le_of_ble_eq_true rfl⟩) (ro_preV hK hP hP (ci := 4) (q0 := 0) rfl rfl) rfl rfl hl.1 rfl (lv_room (Nat.le_of_ble_eq_true rfl)) dX4_harsh_25 ⟨Nat.zero_le _, Nat.zero_le _⟩) (fun r_3 hr_3 => ?_)
      refine lv_if_ne (tgt := 34) hx hb dX4_harsh_28 (by decide) (fun c_28 => ?_) (fun c_28 => ?_)
      · skip
        have c_28 := b2_n hr_3 c_28
        refine lv_iconst (v := 0) hx hb dX4_harsh_34 (by decide) ?_
        refine lv_istore_n (lv' := [(3, .int 0), (0, .ref m), (1, .int want), (2, .int set)]) hx hb dX4_harsh_35 rfl hl (by decide) rfl (fun ls hl => ?_)
        refine lv_iconst (v := 0) hx hb dX4_harsh_36 (by decide) ?_
        refine lv_istore (lv' := [(4, .int 0), (3, .int 0), (0, .ref m), (1, .int want), (2, .int set)]) hx hb dX4_harsh_37 hl (by decide) rfl (fun ls hl => ?_)
        have J_39 : ∀ (n9 : Nat), ∀ (k : Nat), (k ≤ M) → M - k < n9 → ∀ (H : Heap) (locs : List Loc), va_P G.1 lzC (lzM m q (upd S 0 0) ++ lzI G (q 5) 64 f) H → va_D A (lzM m q (upd S 0 0) ++ lzI G (q 5) 64 f) → va_S A ss.heap H locs → ∀ ls : Array Slot, lv_has ls 6 [(3, .int (maxM (fun v => hasI want v) (fun v => wrgN f v set N) k)), (4, .int (nI k)), (0, .ref m), (1, .int want), (2, .int set)] → W pp l ee ({ frames := 5, cells := 0, slots := 0, locals := 114 }) ss mm ([.ref m, .int want, .int set] : List Value).toArray bl me cd H locs 0 0 (MQ bl (va_Qi (S := Unit) (fun (r : Int32) (_ : Unit) => r = maxM (fun v => hasI want v) (fun v => wrgN f v set N) M) (rwB G (fun _ : Unit => (lzM m q (upd S 0 0) ++ lzI G (q 5) 64 f))) A) ([.ref m, .int want, .int set] : List Value).toArray ss 0 0 A) (F0 mm 39 ls []) := by
          intro n9
          induction n9 with
          | zero => intro k hk hn; exact absurd hn (Nat.not_lt_zero _)
          | succ n9 ih_39 =>
            intro k hk hn_39 H locs hP hD hS ls hl
            refine lv_iload hx hb dX4_harsh_39 (lv_at hl 1 rfl) ?_
            refine lv_aload_n hx hb dX4_harsh_41 rfl (lv_at hl 2 rfl) ?_
            refine lz_get (G := G) (ci := 4) (v := .ref (q 5)) (C := RX4) (T := TX4) (N := 24) hx hb hu_wsX40 (fun _ h9 => h9) hown hK hP 0 rfl rfl 5 (by decide) hw4 rfl rfl dX4_harsh_42 ?_
            refine lv_iconst (v := 3) hx hb dX4_harsh_45 (by decide) ?_
            refine lz_iald (f := f) hx hb hK hP 1 rfl 3 (by omega) (Nat.le_of_ble_eq_true rfl) dX4_harsh_46 ?_
            refine lv_icmp_ge (tgt := 94) hx hb dX4_harsh_47 (by decide) (fun c_47 => ?_) (fun c_47 => ?_)
            · skip
              have c_47' := Int32.not_lt.mpr c_47
              have hk2 : M ≤ k := lz_ge hM c_47 (by omega) (by omega)
              obtain rfl : k = M := by omega
              refine lv_iload_n hx hb dX4_harsh_94 rfl (lv_at hl 0 rfl) ?_
              exact rw_iret (S := Unit) (G := G) (Wd := fun _ : Unit => (lzM m q (upd S 0 0) ++ lzI G (q 5) 64 f)) () hx hb hr hlk dX4_harsh_95 hS (hP) (rfl)
            · skip
              have c_47' := Int32.not_le.mp c_47
              have hk2 : k < M := lz_lt hM c_47 (by omega) (by omega)
              refine lv_iload_n hx hb dX4_harsh_50 rfl (lv_at hl 3 rfl) ?_
              refine lv_iload hx hb dX4_harsh_51 (lv_at hl 1 rfl) ?_
              refine ro_calli (va_runS (As := [.int want, .int (nI k)]) (rest := []) ⟨hx, hb, hml, hown, hts⟩ (c_X4_has l G want k ) (cwS 2 hts gX4_harsh_X4_has rfl rfl rfl (by decide +kernel) ⟨Nat.le_of_ble_eq_true rfl, Nat.le_of_ble_eq_true rfl⟩) (ro_pre hK (fun k q h => by simp at h)) rfl rfl hl.1 rfl (lv_room (Nat.le_of_ble_eq_true rfl)) dX4_harsh_53 ⟨Nat.zero_le _, Nat.zero_le _⟩) (fun r_4 hr_4 => ?_)
              refine lv_if_eq (tgt := 72) hx hb dX4_harsh_56 (by decide) (fun c_56 => ?_) (fun c_56 => ?_)
              · skip
                have c_56 := b2_z hr_4 c_56
                refine lv_iconst (v := 0) hx hb dX4_harsh_72 (by decide) ?_
                refine lv_istore (lv' := [(5, .int 0), (3, .int (maxM (fun v => hasI want v) (fun v => wrgN f v set N) k)), (4, .int (nI k)), (0, .ref m), (1, .int want), (2, .int set)]) hx hb dX4_harsh_73 hl (by decide) rfl (fun ls hl => ?_)
                refine lv_iload hx hb dX4_harsh_75 (lv_at hl 0 rfl) ?_
                refine lv_iload_n hx hb dX4_harsh_77 rfl (lv_at hl 1 rfl) ?_
                refine lv_icmp_le (tgt := 86) hx hb dX4_harsh_78 (by decide) (fun c_78 => ?_) (fun c_78 => ?_)
                · skip
                  have c_78' := Int32.not_lt.mpr c_78
                  refine lv_iload_n hx hb dX4_harsh_86 rfl (lv_at hl 1 rfl) ?_
                  refine lv_topi (fun x_5 ex_5 => ?_)
                  refine lv_istore_n (lv' := [(3, .int x_5), (5, .int 0), (4, .int (nI k)), (0, .ref m), (1, .int want), (2, .int set)]) hx hb dX4_harsh_87 rfl hl (by decide) rfl (fun ls hl => ?_)
                  refine lv_iinc (v := nI (k + 1)) (lv' := [(4, .int (nI (k + 1))), (3, .int x_5), (5, .int 0), (0, .ref m), (1, .int want), (2, .int set)]) hx hb dX4_harsh_88 hl (k := 2) rfl (nI_1 _) (by decide) rfl (fun ls hl => ?_)
                  refine lv_goto (tgt := 39) hx hb dX4_harsh_91 (by decide) ?_
                  obtain rfl : x_5 = maxM (fun v => hasI want v) (fun v => wrgN f v set N) (k + 1) := by rw [ex_5]; simp [maxM, c_9, c_20, c_28, c_47, c_47', c_56, c_78, c_78']
                  exact ih_39 (k + 1) (by omega) (by omega) _ _ hP hD hS _ (lv_sub hl [1, 0, 3, 4, 5] rfl)
                · skip
                  have c_78' := Int32.not_le.mp c_78
                  refine lv_iload hx hb dX4_harsh_81 (lv_at hl 0 rfl) ?_
                  refine lv_goto (tgt := 87) hx hb dX4_harsh_83 (by decide) ?_
                  refine lv_istore_n (lv' := [(3, .int 0), (5, .int 0), (4, .int (nI k)), (0, .ref m), (1, .int want), (2, .int set)]) hx hb dX4_harsh_87 rfl hl (by decide) rfl (fun ls hl => ?_)
                  refine lv_iinc (v := nI (k + 1)) (lv' := [(4, .int (nI (k + 1))), (3, .int 0), (5, .int 0), (0, .ref m), (1, .int want), (2, .int set)]) hx hb dX4_harsh_88 hl (k := 2) rfl (nI_1 _) (by decide) rfl (fun ls hl => ?_)
                  refine lv_goto (tgt := 39) hx hb dX4_harsh_91 (by decide) ?_
                  rw [show (0 : Int32) = maxM (fun v => hasI want v) (fun v => wrgN f v set N) (k + 1) from by simp [maxM, c_9, c_20, c_28, c_47, c_47', c_56, c_78, c_78']] at hl
                  exact ih_39 (k + 1) (by omega) (by omega) _ _ hP hD hS _ (lv_sub hl [1, 0, 3, 4, 5] rfl)
              · skip
                have c_56 := b2_n hr_4 c_56
                refine lv_aload_n hx hb dX4_harsh_59 rfl (lv_at hl 2 rfl) ?_
                refine lz_get (G := G) (ci := 4) (v := .ref (q 5)) (C := RX4) (T := TX4) (N := 24) hx hb hu_wsX40 (fun _ h9 => h9) hown hK hP 0 rfl rfl 5 (by decide) hw4 rfl rfl dX4_harsh_60 ?_
                refine lv_iload hx hb dX4_harsh_63 (lv_at hl 1 rfl) ?_
                refine lv_iload_n hx hb dX4_harsh_65 rfl (lv_at hl 4 rfl) ?_
                have hPc := hP.sub (ws' := lzI G (q 5) 64 f) [1] rfl
                refine ro_calli (va_runS (As := [.ref (q 5), .int (nI k), .int set]) (rest := []) ⟨hx, hb, hml, hown, hts⟩ (c_X4_wrongOf l G (q 5) f k set N (by omega) (hN) (hN8)) (cwS 3 hts gX4_harsh_X4_wrongOf rfl rfl rfl (by decide +kernel) ⟨Nat.le_of_ble_eq_true rfl, Nat.le_of_ble_eq_true rfl⟩) (ro_pre hK hPc) rfl rfl hl.1 rfl (lv_room (Nat.le_of_ble_eq_true rfl)) dX4_harsh_66 ⟨Nat.zero_le _, Nat.zero_le _⟩) (fun r_6 hr_6 => ?_)
                refine lz_top (y := wrgN f k set N) hr_6 ?_
                refine lv_goto (tgt := 73) hx hb dX4_harsh_69 (by decide) ?_
                refine lv_istore (lv' := [(5, .int (wrgN f k set N)), (3, .int (maxM (fun v => hasI want v) (fun v => wrgN f v set N) k)), (4, .int (nI k)), (0, .ref m), (1, .int want), (2, .int set)]) hx hb dX4_harsh_73 hl (by decide) rfl (fun ls hl => ?_)
                refine lv_iload hx hb dX4_harsh_75 (lv_at hl 0 rfl) ?_
                refine lv_iload_n hx hb dX4_harsh_77 rfl (lv_at hl 1 rfl) ?_
                refine lv_icmp_le (tgt := 86) hx hb dX4_harsh_78 (by decide) (fun c_78 => ?_) (fun c_78 => ?_)
                · skip
                  have c_78' := Int32.not_lt.mpr c_78
                  refine lv_iload_n hx hb dX4_harsh_86 rfl (lv_at hl 1 rfl) ?_
                  refine lv_topi (fun x_7 ex_7 => ?_)
                  refine lv_istore_n (lv' := [(3, .int x_7), (5, .int (wrgN f k set N)), (4, .int (nI k)), (0, .ref m), (1, .int want), (2, .int set)]) hx hb dX4_harsh_87 rfl hl (by decide) rfl (fun ls hl => ?_)
                  refine lv_iinc (v := nI (k + 1)) (lv' := [(4, .int (nI (k + 1))), (3, .int x_7), (5, .int (wrgN f k set N)), (0, .ref m), (1, .int want), (2, .int set)]) hx hb dX4_harsh_88 hl (k := 2) rfl (nI_1 _) (by decide) rfl (fun ls hl => ?_)
                  refine lv_goto (tgt := 39) hx hb dX4_harsh_91 (by decide) ?_
                  obtain rfl : x_7 = maxM (fun v => hasI want v) (fun v => wrgN f v set N) (k + 1) := by rw [ex_7]; simp [maxM, c_9, c_20, c_28, c_47, c_47', c_56, c_78, c_78']
                  exact ih_39 (k + 1) (by omega) (by omega) _ _ hP hD hS _ (lv_sub hl [1, 0, 3, 4, 5] rfl)
                · skip
                  have c_78' := Int32.not_le.mp c_78
                  refine lv_iload hx hb dX4_harsh_81 (lv_at hl 0 rfl) ?_
                  refine lv_goto (tgt := 87) hx hb dX4_harsh_83 (by decide) ?_
                  refine lv_topi (fun x_8 ex_8 => ?_)
                  refine lv_istore_n (lv' := [(3, .int x_8), (5, .int (wrgN f k set N)), (4, .int (nI k)), (0, .ref m), (1, .int want), (2, .int set)]) hx hb dX4_harsh_87 rfl hl (by decide) rfl (fun ls hl => ?_)
                  refine lv_iinc (v := nI (k + 1)) (lv' := [(4, .int (nI (k + 1))), (3, .int x_8), (5, .int (wrgN f k set N)), (0, .ref m), (1, .int want), (2, .int set)]) hx hb dX4_harsh_88 hl (k := 2) rfl (nI_1 _) (by decide) rfl (fun ls hl => ?_)
                  refine lv_goto (tgt := 39) hx hb dX4_harsh_91 (by decide) ?_
                  obtain rfl : x_8 = maxM (fun v => hasI want v) (fun v => wrgN f v set N) (k + 1) := by rw [ex_8]; simp [maxM, c_9, c_20, c_28, c_47, c_47', c_56, c_78, c_78']
                  exact ih_39 (k + 1) (by omega) (by omega) _ _ hP hD hS _ (lv_sub hl [1, 0, 3, 4, 5] rfl)
        exact J_39 _ 0 (by omega) (Nat.lt_succ_self _) _ _ hP hD hS _ (lv_sub hl [1, 0, 2, 3, 4] rfl)
      · skip
        have c_28 := b2_z hr_3 c_28
        exact Bool.noConfusion (hset.symm.trans c_28)
  · skip
    have c_9 := b2_z hr_1 c_9
    exact Bool.noConfusion (hR.symm.trans c_9)
set_option maxHeartbeats 4000000 in
set_option maxRecDepth 100000 in
theorem c_X4_keen_state (l : Launch) (G : lzG) (m : Nat) (q : Nat → Nat) (S : Nat → Int32) (f : Nat → Int32) (what : Int32) (hR : (decide (0 < f 0)) = false) : Met l yX4_keen wsX4_keen ({ frames := 1, cells := 0, slots := 0, locals := 20 }) (va_Pc [.ref m, .int what] (rwP G (lzM m q S ++ lzI G (q 5) 64 f))) (va_Qi (S := Unit) (fun (r : Int32) (_ : Unit) => r = -1000002) (rwB G (fun _ : Unit => (lzM m q (upd S 0 0) ++ lzI G (q 5) 64 f))) (lzA (lzM m q S ++ lzI G (q 5) 64 f))) 0 0 (lzA (lzM m q S ++ lzI G (q 5) 64 f)) := by
  refine rw_start (S := Unit) (cc := cX4_keen) (maxL := 7) (ret := (some .int)) (by decide) rfl (Nat.le_of_ble_eq_true rfl) ?_
  intro pp ee ss mm bl me cd A hx hb hr hlk hml hts hown hP hK hD hAe hS ls hl
  have hA0 : ∀ zz : Nat, lzA (lzM m q S ++ lzI G (q 5) 64 f) zz → A zz := fun zz h9 => by rw [hAe]; exact h9
  rw [← hAe]
  clear hAe
  have hown : ss.vm.findClass RX4 = some mm.cls := hown
  have hw1 := hts (.fieldLink RX4 48 "LampSquaresModel" "thrown" "I") (List.mem_of_getElem? (i := 1) rfl)
  have hw2 := hts (.constant RX4 204 (-1000002)) (List.mem_of_getElem? (i := 2) rfl)
  have hu_wsX40 : ∀ w ∈ wsX40, w.before ([.ref m, .int what] : List Value).toArray ss = true := fun w h9 => hts w (List.mem_cons_of_mem _ (List.mem_append_right _ h9))
  have hl : lv_has ls 7 [(0, .ref m), (1, .int what)] := hl
  refine lv_aload_n hx hb dX4_keen_0 rfl (lv_at hl 0 rfl) ?_
  refine lv_iconst (v := 0) hx hb dX4_keen_1 (by decide) ?_
  refine lz_put (G := G) (ci := 4) (C := RX4) (T := TX4) (N := 24) hx hb hu_wsX40 (fun _ h9 => h9) tyX4 tyX4_ok nmX4 hown hK hP hD hS 0 rfl rfl 0 (by decide) hw1 rfl rfl (by decide +kernel) (Nat.le_of_ble_eq_true rfl) dX4_keen_2 (lzM m q (upd S 0 0) ++ lzI G (q 5) 64 f) rfl (fun H locs hP hD hS => ?_)
  refine lv_aload_n hx hb dX4_keen_5 rfl (lv_at hl 0 rfl) ?_
  refine ro_calli (va_runV (As := []) (rest := []) ⟨hx, hb, hml, hown, hts⟩ (c_X4_isThere l G m q (upd S 0 0) f ) (cwV 0 hts gX4_keen_X4_isThere rfl rfl rfl (by decide +kernel) ⟨Nat.le_of_ble_eq_true rfl, Nat.le_of_ble_eq_true rfl⟩) (ro_preV hK hP hP (ci := 4) (q0 := 0) rfl rfl) rfl rfl hl.1 rfl (lv_room (Nat.le_of_ble_eq_true rfl)) dX4_keen_6 ⟨Nat.zero_le _, Nat.zero_le _⟩) (fun r_1 hr_1 => ?_)
  refine lv_if_ne (tgt := 15) hx hb dX4_keen_9 (by decide) (fun c_9 => ?_) (fun c_9 => ?_)
  · skip
    have c_9 := b2_n hr_1 c_9
    exact Bool.noConfusion (hR.symm.trans c_9)
  · skip
    have c_9 := b2_z hr_1 c_9
    refine lv_ldc hx hb hown hw2 dX4_keen_12 ?_
    exact rw_iret (S := Unit) (G := G) (Wd := fun _ : Unit => (lzM m q (upd S 0 0) ++ lzI G (q 5) 64 f)) () hx hb hr hlk dX4_keen_14 hS (hP) (rfl)
set_option maxHeartbeats 4000000 in
set_option maxRecDepth 100000 in
theorem c_X4_keen_bad (l : Launch) (G : lzG) (m : Nat) (q : Nat → Nat) (S : Nat → Int32) (f : Nat → Int32) (what : Int32) (hR : (decide (0 < f 0)) = true) (hbad : inR what 0 1 = false) : Met l yX4_keen wsX4_keen ({ frames := 1, cells := 0, slots := 0, locals := 25 }) (va_Pc [.ref m, .int what] (rwP G (lzM m q S ++ lzI G (q 5) 64 f))) (va_Qi (S := Unit) (fun (r : Int32) (_ : Unit) => r = -1000001) (rwB G (fun _ : Unit => (lzM m q (upd S 0 0) ++ lzI G (q 5) 64 f))) (lzA (lzM m q S ++ lzI G (q 5) 64 f))) 0 0 (lzA (lzM m q S ++ lzI G (q 5) 64 f)) := by
  have hbL : inL what.toInt64 0 1 = false := (inL_of what 0 1).trans hbad
  refine rw_start (S := Unit) (cc := cX4_keen) (maxL := 7) (ret := (some .int)) (by decide) rfl (Nat.le_of_ble_eq_true rfl) ?_
  intro pp ee ss mm bl me cd A hx hb hr hlk hml hts hown hP hK hD hAe hS ls hl
  have hA0 : ∀ zz : Nat, lzA (lzM m q S ++ lzI G (q 5) 64 f) zz → A zz := fun zz h9 => by rw [hAe]; exact h9
  rw [← hAe]
  clear hAe
  have hown : ss.vm.findClass RX4 = some mm.cls := hown
  have hw1 := hts (.fieldLink RX4 48 "LampSquaresModel" "thrown" "I") (List.mem_of_getElem? (i := 1) rfl)
  have hw3 := hts (.constant RX4 68 (-1000001)) (List.mem_of_getElem? (i := 3) rfl)
  have hu_wsX40 : ∀ w ∈ wsX40, w.before ([.ref m, .int what] : List Value).toArray ss = true := fun w h9 => hts w (List.mem_cons_of_mem _ (List.mem_append_right _ h9))
  have hl : lv_has ls 7 [(0, .ref m), (1, .int what)] := hl
  refine lv_aload_n hx hb dX4_keen_0 rfl (lv_at hl 0 rfl) ?_
  refine lv_iconst (v := 0) hx hb dX4_keen_1 (by decide) ?_
  refine lz_put (G := G) (ci := 4) (C := RX4) (T := TX4) (N := 24) hx hb hu_wsX40 (fun _ h9 => h9) tyX4 tyX4_ok nmX4 hown hK hP hD hS 0 rfl rfl 0 (by decide) hw1 rfl rfl (by decide +kernel) (Nat.le_of_ble_eq_true rfl) dX4_keen_2 (lzM m q (upd S 0 0) ++ lzI G (q 5) 64 f) rfl (fun H locs hP hD hS => ?_)
  refine lv_aload_n hx hb dX4_keen_5 rfl (lv_at hl 0 rfl) ?_
  refine ro_calli (va_runV (As := []) (rest := []) ⟨hx, hb, hml, hown, hts⟩ (c_X4_isThere l G m q (upd S 0 0) f ) (cwV 0 hts gX4_keen_X4_isThere rfl rfl rfl (by decide +kernel) ⟨Nat.le_of_ble_eq_true rfl, Nat.le_of_ble_eq_true rfl⟩) (ro_preV hK hP hP (ci := 4) (q0 := 0) rfl rfl) rfl rfl hl.1 rfl (lv_room (Nat.le_of_ble_eq_true rfl)) dX4_keen_6 ⟨Nat.zero_le _, Nat.zero_le _⟩) (fun r_1 hr_1 => ?_)
  refine lv_if_ne (tgt := 15) hx hb dX4_keen_9 (by decide) (fun c_9 => ?_) (fun c_9 => ?_)
  · skip
    have c_9 := b2_n hr_1 c_9
    refine lv_iload_n hx hb dX4_keen_15 rfl (lv_at hl 1 rfl) ?_
    refine lv_i2l hx hb dX4_keen_16 rfl ?_
    refine lv_lconst (v := 0) hx hb dX4_keen_17 (by decide) ?_
    refine lv_lconst (v := 1) hx hb dX4_keen_18 (by decide) ?_
    refine ro_calli (va_runS (As := [.long what.toInt64, .long 0, .long 1]) (rest := []) ⟨hx, hb, hml, hown, hts⟩ (c_X4_in l G what.toInt64 0 1 ) (cwS 3 hts gX4_keen_X4_in rfl rfl rfl (by decide +kernel) ⟨Nat.le_of_ble_eq_true rfl, Nat.le_of_ble_eq_true rfl⟩) (ro_pre hK (fun k q h => by simp at h)) rfl rfl hl.1 rfl (lv_room (Nat.le_of_ble_eq_true rfl)) dX4_keen_19 ⟨Nat.zero_le _, Nat.zero_le _⟩) (fun r_2 hr_2 => ?_)
    refine lv_if_ne (tgt := 28) hx hb dX4_keen_22 (by decide) (fun c_22 => ?_) (fun c_22 => ?_)
    · skip
      have c_22 := b2_n hr_2 c_22
      exact Bool.noConfusion (hbL.symm.trans c_22)
    · skip
      have c_22 := b2_z hr_2 c_22
      refine lv_ldc hx hb hown hw3 dX4_keen_25 ?_
      exact rw_iret (S := Unit) (G := G) (Wd := fun _ : Unit => (lzM m q (upd S 0 0) ++ lzI G (q 5) 64 f)) () hx hb hr hlk dX4_keen_27 hS (hP) (rfl)
  · skip
    have c_9 := b2_z hr_1 c_9
    exact Bool.noConfusion (hR.symm.trans c_9)
set_option maxHeartbeats 4000000 in
set_option maxRecDepth 100000 in
theorem c_X4_keen_ok (l : Launch) (G : lzG) (m : Nat) (q : Nat → Nat) (S : Nat → Int32) (f : Nat → Int32) (what : Int32) (N M : Nat) (hN : f 2 = nI N) (hN8 : N ≤ 8) (hM : f 3 = nI M) (hM5 : M ≤ 5) (hR : (decide (0 < f 0)) = true) (hw : inR what 0 1 = true) : Met l yX4_keen wsX4_keen ({ frames := 4, cells := 0, slots := 0, locals := 90 }) (va_Pc [.ref m, .int what] (rwP G (lzM m q S ++ lzI G (q 5) 64 f))) (va_Qi (S := Unit) (fun (r : Int32) (_ : Unit) => r = if what = 0 then (keenM f M N).1 else (keenM f M N).2) (rwB G (fun _ : Unit => (lzM m q (upd S 0 0) ++ lzI G (q 5) 64 f))) (lzA (lzM m q S ++ lzI G (q 5) 64 f))) 0 0 (lzA (lzM m q S ++ lzI G (q 5) 64 f)) := by
  have hwL : inL what.toInt64 0 1 = true := (inL_of what 0 1).trans hw
  refine rw_start (S := Unit) (cc := cX4_keen) (maxL := 7) (ret := (some .int)) (by decide) rfl (Nat.le_of_ble_eq_true rfl) ?_
  intro pp ee ss mm bl me cd A hx hb hr hlk hml hts hown hP hK hD hAe hS ls hl
  have hA0 : ∀ zz : Nat, lzA (lzM m q S ++ lzI G (q 5) 64 f) zz → A zz := fun zz h9 => by rw [hAe]; exact h9
  rw [← hAe]
  clear hAe
  have hown : ss.vm.findClass RX4 = some mm.cls := hown
  have hw1 := hts (.fieldLink RX4 48 "LampSquaresModel" "thrown" "I") (List.mem_of_getElem? (i := 1) rfl)
  have hw4 := hts (.constant RX4 91 (-1000000)) (List.mem_of_getElem? (i := 4) rfl)
  have hw5 := hts (.fieldLink RX4 19 "LampSquaresModel" "door" "[I") (List.mem_of_getElem? (i := 5) rfl)
  have hu_wsX40 : ∀ w ∈ wsX40, w.before ([.ref m, .int what] : List Value).toArray ss = true := fun w h9 => hts w (List.mem_cons_of_mem _ (List.mem_append_right _ h9))
  have hl : lv_has ls 7 [(0, .ref m), (1, .int what)] := hl
  refine lv_aload_n hx hb dX4_keen_0 rfl (lv_at hl 0 rfl) ?_
  refine lv_iconst (v := 0) hx hb dX4_keen_1 (by decide) ?_
  refine lz_put (G := G) (ci := 4) (C := RX4) (T := TX4) (N := 24) hx hb hu_wsX40 (fun _ h9 => h9) tyX4 tyX4_ok nmX4 hown hK hP hD hS 0 rfl rfl 0 (by decide) hw1 rfl rfl (by decide +kernel) (Nat.le_of_ble_eq_true rfl) dX4_keen_2 (lzM m q (upd S 0 0) ++ lzI G (q 5) 64 f) rfl (fun H locs hP hD hS => ?_)
  refine lv_aload_n hx hb dX4_keen_5 rfl (lv_at hl 0 rfl) ?_
  refine ro_calli (va_runV (As := []) (rest := []) ⟨hx, hb, hml, hown, hts⟩ (c_X4_isThere l G m q (upd S 0 0) f ) (cwV 0 hts gX4_keen_X4_isThere rfl rfl rfl (by decide +kernel) ⟨Nat.le_of_ble_eq_true rfl, Nat.le_of_ble_eq_true rfl⟩) (ro_preV hK hP hP (ci := 4) (q0 := 0) rfl rfl) rfl rfl hl.1 rfl (lv_room (Nat.le_of_ble_eq_true rfl)) dX4_keen_6 ⟨Nat.zero_le _, Nat.zero_le _⟩) (fun r_1 hr_1 => ?_)
  refine lv_if_ne (tgt := 15) hx hb dX4_keen_9 (by decide) (fun c_9 => ?_) (fun c_9 => ?_)
  · skip
    have c_9 := b2_n hr_1 c_9
    refine lv_iload_n hx hb dX4_keen_15 rfl (lv_at hl 1 rfl) ?_
    refine lv_i2l hx hb dX4_keen_16 rfl ?_
    refine lv_lconst (v := 0) hx hb dX4_keen_17 (by decide) ?_
    refine lv_lconst (v := 1) hx hb dX4_keen_18 (by decide) ?_
    refine ro_calli (va_runS (As := [.long what.toInt64, .long 0, .long 1]) (rest := []) ⟨hx, hb, hml, hown, hts⟩ (c_X4_in l G what.toInt64 0 1 ) (cwS 3 hts gX4_keen_X4_in rfl rfl rfl (by decide +kernel) ⟨Nat.le_of_ble_eq_true rfl, Nat.le_of_ble_eq_true rfl⟩) (ro_pre hK (fun k q h => by simp at h)) rfl rfl hl.1 rfl (lv_room (Nat.le_of_ble_eq_true rfl)) dX4_keen_19 ⟨Nat.zero_le _, Nat.zero_le _⟩) (fun r_2 hr_2 => ?_)
    refine lv_if_ne (tgt := 28) hx hb dX4_keen_22 (by decide) (fun c_22 => ?_) (fun c_22 => ?_)
    · skip
      have c_22 := b2_n hr_2 c_22
      refine lv_ldc hx hb hown hw4 dX4_keen_28 ?_
      refine lv_istore_n (lv' := [(2, .int (-1000000)), (0, .ref m), (1, .int what)]) hx hb dX4_keen_30 rfl hl (by decide) rfl (fun ls hl => ?_)
      refine lv_ldc hx hb hown hw4 dX4_keen_31 ?_
      refine lv_istore_n (lv' := [(3, .int (-1000000)), (2, .int (-1000000)), (0, .ref m), (1, .int what)]) hx hb dX4_keen_33 rfl hl (by decide) rfl (fun ls hl => ?_)
      refine lv_iconst (v := 0) hx hb dX4_keen_34 (by decide) ?_
      refine lv_istore (lv' := [(4, .int 0), (3, .int (-1000000)), (2, .int (-1000000)), (0, .ref m), (1, .int what)]) hx hb dX4_keen_35 hl (by decide) rfl (fun ls hl => ?_)
      have J_37 : ∀ (n9 : Nat), ∀ (k : Nat), (k ≤ N) → N - k < n9 → ∀ (H : Heap) (locs : List Loc), va_P G.1 lzC (lzM m q (upd S 0 0) ++ lzI G (q 5) 64 f) H → va_D A (lzM m q (upd S 0 0) ++ lzI G (q 5) 64 f) → va_S A ss.heap H locs → ∀ ls : Array Slot, lv_has ls 7 [(2, .int ((keenM f M k).1)), (3, .int ((keenM f M k).2)), (4, .int (nI k)), (0, .ref m), (1, .int what)] → W pp l ee ({ frames := 4, cells := 0, slots := 0, locals := 90 }) ss mm ([.ref m, .int what] : List Value).toArray bl me cd H locs 0 0 (MQ bl (va_Qi (S := Unit) (fun (r : Int32) (_ : Unit) => r = if what = 0 then (keenM f M N).1 else (keenM f M N).2) (rwB G (fun _ : Unit => (lzM m q (upd S 0 0) ++ lzI G (q 5) 64 f))) A) ([.ref m, .int what] : List Value).toArray ss 0 0 A) (F0 mm 37 ls []) := by
        intro n9
        induction n9 with
        | zero => intro k hk hn; exact absurd hn (Nat.not_lt_zero _)
        | succ n9 ih_37 =>
          intro k hk hn_37 H locs hP hD hS ls hl
          refine lv_iload hx hb dX4_keen_37 (lv_at hl 2 rfl) ?_
          refine lv_aload_n hx hb dX4_keen_39 rfl (lv_at hl 3 rfl) ?_
          refine lz_get (G := G) (ci := 4) (v := .ref (q 5)) (C := RX4) (T := TX4) (N := 24) hx hb hu_wsX40 (fun _ h9 => h9) hown hK hP 0 rfl rfl 5 (by decide) hw5 rfl rfl dX4_keen_40 ?_
          refine lv_iconst (v := 2) hx hb dX4_keen_43 (by decide) ?_
          refine lz_iald (f := f) hx hb hK hP 1 rfl 2 (by omega) (Nat.le_of_ble_eq_true rfl) dX4_keen_44 ?_
          refine lv_icmp_ge (tgt := 171) hx hb dX4_keen_45 (by decide) (fun c_45 => ?_) (fun c_45 => ?_)
          · skip
            have c_45' := Int32.not_lt.mpr c_45
            have hk2 : N ≤ k := lz_ge hN c_45 (by omega) (by omega)
            obtain rfl : k = N := by omega
            refine lv_iload_n hx hb dX4_keen_171 rfl (lv_at hl 4 rfl) ?_
            refine lv_if_ne (tgt := 179) hx hb dX4_keen_172 (by decide) (fun c_172 => ?_) (fun c_172 => ?_)
            · skip
              refine lv_iload_n hx hb dX4_keen_179 rfl (lv_at hl 1 rfl) ?_
              exact rw_iret (S := Unit) (G := G) (Wd := fun _ : Unit => (lzM m q (upd S 0 0) ++ lzI G (q 5) 64 f)) () hx hb hr hlk dX4_keen_180 hS (hP) (by first | rw [if_pos c_172] | rw [if_neg c_172])
            · skip
              refine lv_iload_n hx hb dX4_keen_175 rfl (lv_at hl 0 rfl) ?_
              refine lv_goto (tgt := 180) hx hb dX4_keen_176 (by decide) ?_
              exact rw_iret (S := Unit) (G := G) (Wd := fun _ : Unit => (lzM m q (upd S 0 0) ++ lzI G (q 5) 64 f)) () hx hb hr hlk dX4_keen_180 hS (hP) (by first | rw [if_pos c_172] | rw [if_neg c_172])
          · skip
            have c_45' := Int32.not_le.mp c_45
            have hk2 : k < N := lz_lt hN c_45 (by omega) (by omega)
            refine lv_iconst (v := 0) hx hb dX4_keen_48 (by decide) ?_
            refine lv_istore (lv' := [(5, .int 0), (2, .int ((keenM f M k).1)), (3, .int ((keenM f M k).2)), (4, .int (nI k)), (0, .ref m), (1, .int what)]) hx hb dX4_keen_49 hl (by decide) rfl (fun ls hl => ?_)
            refine lv_iconst (v := 0) hx hb dX4_keen_51 (by decide) ?_
            refine lv_istore (lv' := [(6, .int 0), (5, .int 0), (2, .int ((keenM f M k).1)), (3, .int ((keenM f M k).2)), (4, .int (nI k)), (0, .ref m), (1, .int what)]) hx hb dX4_keen_52 hl (by decide) rfl (fun ls hl => ?_)
            have J_54 : ∀ (n9 : Nat), ∀ (d : Nat), (d ≤ M) → M - d < n9 → ∀ (H : Heap) (locs : List Loc), va_P G.1 lzC (lzM m q (upd S 0 0) ++ lzI G (q 5) 64 f) H → va_D A (lzM m q (upd S 0 0) ++ lzI G (q 5) 64 f) → va_S A ss.heap H locs → ∀ ls : Array Slot, lv_has ls 7 [(5, .int (sumI (fun v => bif wrgM f v k then 1 else -1) d)), (6, .int (nI d)), (2, .int ((keenM f M k).1)), (3, .int ((keenM f M k).2)), (4, .int (nI k)), (0, .ref m), (1, .int what)] → W pp l ee ({ frames := 4, cells := 0, slots := 0, locals := 90 }) ss mm ([.ref m, .int what] : List Value).toArray bl me cd H locs 0 0 (MQ bl (va_Qi (S := Unit) (fun (r : Int32) (_ : Unit) => r = if what = 0 then (keenM f M N).1 else (keenM f M N).2) (rwB G (fun _ : Unit => (lzM m q (upd S 0 0) ++ lzI G (q 5) 64 f))) A) ([.ref m, .int what] : List Value).toArray ss 0 0 A) (F0 mm 54 ls []) := by
              intro n9
              induction n9 with
              | zero => intro d hd hn; exact absurd hn (Nat.not_lt_zero _)
              | succ n9 ih_54 =>
                intro d hd hn_54 H locs hP hD hS ls hl
                refine lv_iload hx hb dX4_keen_54 (lv_at hl 1 rfl) ?_
                refine lv_aload_n hx hb dX4_keen_56 rfl (lv_at hl 5 rfl) ?_
                refine lz_get (G := G) (ci := 4) (v := .ref (q 5)) (C := RX4) (T := TX4) (N := 24) hx hb hu_wsX40 (fun _ h9 => h9) hown hK hP 0 rfl rfl 5 (by decide) hw5 rfl rfl dX4_keen_57 ?_
                refine lv_iconst (v := 3) hx hb dX4_keen_60 (by decide) ?_
                refine lz_iald (f := f) hx hb hK hP 1 rfl 3 (by omega) (Nat.le_of_ble_eq_true rfl) dX4_keen_61 ?_
                refine lv_icmp_ge (tgt := 95) hx hb dX4_keen_62 (by decide) (fun c_62 => ?_) (fun c_62 => ?_)
                · skip
                  have c_62' := Int32.not_lt.mpr c_62
                  have hd2 : M ≤ d := lz_ge hM c_62 (by omega) (by omega)
                  have hd3 : d = M := by omega
                  refine lv_iload hx hb dX4_keen_95 (lv_at hl 0 rfl) ?_
                  refine lv_if_ge (tgt := 106) hx hb dX4_keen_97 (by decide) (fun c_97 => ?_) (fun c_97 => ?_)
                  · skip
                    have c_97' := Int32.not_lt.mpr c_97
                    refine lv_iload hx hb dX4_keen_106 (lv_at hl 0 rfl) ?_
                    refine lv_istore (lv' := [(5, .int (sumI (fun v => bif wrgM f v k then 1 else -1) d)), (6, .int (nI d)), (2, .int ((keenM f M k).1)), (3, .int ((keenM f M k).2)), (4, .int (nI k)), (0, .ref m), (1, .int what)]) hx hb dX4_keen_108 hl (by decide) rfl (fun ls hl => ?_)
                    refine lv_aload_n hx hb dX4_keen_110 rfl (lv_at hl 5 rfl) ?_
                    refine lz_get (G := G) (ci := 4) (v := .ref (q 5)) (C := RX4) (T := TX4) (N := 24) hx hb hu_wsX40 (fun _ h9 => h9) hown hK hP 0 rfl rfl 5 (by decide) hw5 rfl rfl dX4_keen_111 ?_
                    refine lv_iload hx hb dX4_keen_114 (lv_at hl 4 rfl) ?_
                    have hPc := hP.sub (ws' := lzI G (q 5) 64 f) [1] rfl
                    refine ro_calli (va_runS (As := [.ref (q 5), .int (nI k)]) (rest := []) ⟨hx, hb, hml, hown, hts⟩ (c_X4_counts l G (q 5) f k (by omega)) (cwS 2 hts gX4_keen_X4_counts rfl rfl rfl (by decide +kernel) ⟨Nat.le_of_ble_eq_true rfl, Nat.le_of_ble_eq_true rfl⟩) (ro_pre hK hPc) rfl rfl hl.1 rfl (lv_room (Nat.le_of_ble_eq_true rfl)) dX4_keen_116 ⟨Nat.zero_le _, Nat.zero_le _⟩) (fun r_3 hr_3 => ?_)
                    refine lv_if_eq (tgt := 138) hx hb dX4_keen_119 (by decide) (fun c_119 => ?_) (fun c_119 => ?_)
                    · skip
                      have c_119 := b2_z hr_3 c_119
                      refine lv_iconst (v := 0) hx hb dX4_keen_138 (by decide) ?_
                      refine lv_istore (lv' := [(6, .int 0), (5, .int (sumI (fun v => bif wrgM f v k then 1 else -1) d)), (2, .int ((keenM f M k).1)), (3, .int ((keenM f M k).2)), (4, .int (nI k)), (0, .ref m), (1, .int what)]) hx hb dX4_keen_139 hl (by decide) rfl (fun ls hl => ?_)
                      refine lv_iload hx hb dX4_keen_141 (lv_at hl 0 rfl) ?_
                      refine lv_if_eq (tgt := 151) hx hb dX4_keen_143 (by decide) (fun c_143 => ?_) (fun c_143 => ?_)
                      · skip
                        refine lv_iload_n hx hb dX4_keen_151 rfl (lv_at hl 2 rfl) ?_
                        refine lv_topi (fun x_4 ex_4 => ?_)
                        refine lv_istore_n (lv' := [(2, .int x_4), (6, .int 0), (5, .int (sumI (fun v => bif wrgM f v k then 1 else -1) d)), (3, .int ((keenM f M k).2)), (4, .int (nI k)), (0, .ref m), (1, .int what)]) hx hb dX4_keen_152 rfl hl (by decide) rfl (fun ls hl => ?_)
                        refine lv_iload hx hb dX4_keen_153 (lv_at hl 1 rfl) ?_
                        refine lv_if_eq (tgt := 163) hx hb dX4_keen_155 (by decide) (fun c_155 => ?_) (fun c_155 => ?_)
                        · skip
                          refine lv_iload_n hx hb dX4_keen_163 rfl (lv_at hl 3 rfl) ?_
                          refine lv_topi (fun x_5 ex_5 => ?_)
                          refine lv_istore_n (lv' := [(3, .int x_5), (2, .int x_4), (6, .int 0), (5, .int (sumI (fun v => bif wrgM f v k then 1 else -1) d)), (4, .int (nI k)), (0, .ref m), (1, .int what)]) hx hb dX4_keen_164 rfl hl (by decide) rfl (fun ls hl => ?_)
                          refine lv_iinc (v := nI (k + 1)) (lv' := [(4, .int (nI (k + 1))), (3, .int x_5), (2, .int x_4), (6, .int 0), (5, .int (sumI (fun v => bif wrgM f v k then 1 else -1) d)), (0, .ref m), (1, .int what)]) hx hb dX4_keen_165 hl (k := 4) rfl (nI_1 _) (by decide) rfl (fun ls hl => ?_)
                          refine lv_goto (tgt := 37) hx hb dX4_keen_168 (by decide) ?_
                          obtain rfl : x_4 = (keenM f M (k + 1)).1 := by rw [ex_4]; subst hd3; simp [keenM, absM, aprM, c_9, c_22, c_45, c_45', c_62, c_62', c_97, c_97', c_119]
                          obtain rfl : x_5 = (keenM f M (k + 1)).2 := by rw [ex_5]; subst hd3; simp [keenM, absM, aprM, c_9, c_22, c_45, c_45', c_62, c_62', c_97, c_97', c_119]
                          exact ih_37 (k + 1) (by omega) (by omega) _ _ hP hD hS _ (lv_sub hl [2, 1, 0, 5, 6] rfl)
                        · skip
                          exact False.elim (by revert c_155; decide)
                      · skip
                        exact False.elim (by revert c_143; decide)
                    · skip
                      have c_119 := b2_n hr_3 c_119
                      refine lv_iload_n hx hb dX4_keen_122 rfl (lv_at hl 2 rfl) ?_
                      refine lv_ldc hx hb hown hw4 dX4_keen_123 ?_
                      refine lv_icmp_eq (tgt := 134) hx hb dX4_keen_125 (by decide) (fun c_125 => ?_) (fun c_125 => ?_)
                      · skip
                        refine lv_iconst (v := 1) hx hb dX4_keen_134 (by decide) ?_
                        refine lv_goto (tgt := 139) hx hb dX4_keen_135 (by decide) ?_
                        refine lv_istore (lv' := [(6, .int 1), (5, .int (sumI (fun v => bif wrgM f v k then 1 else -1) d)), (2, .int ((keenM f M k).1)), (3, .int ((keenM f M k).2)), (4, .int (nI k)), (0, .ref m), (1, .int what)]) hx hb dX4_keen_139 hl (by decide) rfl (fun ls hl => ?_)
                        refine lv_iload hx hb dX4_keen_141 (lv_at hl 0 rfl) ?_
                        refine lv_if_eq (tgt := 151) hx hb dX4_keen_143 (by decide) (fun c_143 => ?_) (fun c_143 => ?_)
                        · skip
                          exact False.elim (by revert c_143; decide)
                        · skip
                          refine lv_iload hx hb dX4_keen_146 (lv_at hl 4 rfl) ?_
                          refine lv_goto (tgt := 152) hx hb dX4_keen_148 (by decide) ?_
                          refine lv_istore_n (lv' := [(2, .int (nI k)), (6, .int 1), (5, .int (sumI (fun v => bif wrgM f v k then 1 else -1) d)), (3, .int ((keenM f M k).2)), (4, .int (nI k)), (0, .ref m), (1, .int what)]) hx hb dX4_keen_152 rfl hl (by decide) rfl (fun ls hl => ?_)
                          refine lv_iload hx hb dX4_keen_153 (lv_at hl 1 rfl) ?_
                          refine lv_if_eq (tgt := 163) hx hb dX4_keen_155 (by decide) (fun c_155 => ?_) (fun c_155 => ?_)
                          · skip
                            exact False.elim (by revert c_155; decide)
                          · skip
                            refine lv_iload hx hb dX4_keen_158 (lv_at hl 2 rfl) ?_
                            refine lv_goto (tgt := 164) hx hb dX4_keen_160 (by decide) ?_
                            refine lv_topi (fun x_6 ex_6 => ?_)
                            refine lv_istore_n (lv' := [(3, .int x_6), (2, .int (nI k)), (6, .int 1), (5, .int (sumI (fun v => bif wrgM f v k then 1 else -1) d)), (4, .int (nI k)), (0, .ref m), (1, .int what)]) hx hb dX4_keen_164 rfl hl (by decide) rfl (fun ls hl => ?_)
                            refine lv_iinc (v := nI (k + 1)) (lv' := [(4, .int (nI (k + 1))), (3, .int x_6), (2, .int (nI k)), (6, .int 1), (5, .int (sumI (fun v => bif wrgM f v k then 1 else -1) d)), (0, .ref m), (1, .int what)]) hx hb dX4_keen_165 hl (k := 4) rfl (nI_1 _) (by decide) rfl (fun ls hl => ?_)
                            refine lv_goto (tgt := 37) hx hb dX4_keen_168 (by decide) ?_
                            rw [show (nI k : Int32) = (keenM f M (k + 1)).1 from by subst hd3; simp [keenM, absM, aprM, c_9, c_22, c_45, c_45', c_62, c_62', c_97, c_97', c_119, c_125]] at hl
                            obtain rfl : x_6 = (keenM f M (k + 1)).2 := by rw [ex_6]; subst hd3; simp [keenM, absM, aprM, c_9, c_22, c_45, c_45', c_62, c_62', c_97, c_97', c_119, c_125]
                            exact ih_37 (k + 1) (by omega) (by omega) _ _ hP hD hS _ (lv_sub hl [2, 1, 0, 5, 6] rfl)
                      · skip
                        refine lv_iload hx hb dX4_keen_128 (lv_at hl 0 rfl) ?_
                        refine lv_iload_n hx hb dX4_keen_130 rfl (lv_at hl 3 rfl) ?_
                        refine lv_icmp_ge (tgt := 138) hx hb dX4_keen_131 (by decide) (fun c_131 => ?_) (fun c_131 => ?_)
                        · skip
                          have c_131' := Int32.not_lt.mpr c_131
                          refine lv_iconst (v := 0) hx hb dX4_keen_138 (by decide) ?_
                          refine lv_istore (lv' := [(6, .int 0), (5, .int (sumI (fun v => bif wrgM f v k then 1 else -1) d)), (2, .int ((keenM f M k).1)), (3, .int ((keenM f M k).2)), (4, .int (nI k)), (0, .ref m), (1, .int what)]) hx hb dX4_keen_139 hl (by decide) rfl (fun ls hl => ?_)
                          refine lv_iload hx hb dX4_keen_141 (lv_at hl 0 rfl) ?_
                          refine lv_if_eq (tgt := 151) hx hb dX4_keen_143 (by decide) (fun c_143 => ?_) (fun c_143 => ?_)
                          · skip
                            refine lv_iload_n hx hb dX4_keen_151 rfl (lv_at hl 2 rfl) ?_
                            refine lv_topi (fun x_7 ex_7 => ?_)
                            refine lv_istore_n (lv' := [(2, .int x_7), (6, .int 0), (5, .int (sumI (fun v => bif wrgM f v k then 1 else -1) d)), (3, .int ((keenM f M k).2)), (4, .int (nI k)), (0, .ref m), (1, .int what)]) hx hb dX4_keen_152 rfl hl (by decide) rfl (fun ls hl => ?_)
                            refine lv_iload hx hb dX4_keen_153 (lv_at hl 1 rfl) ?_
                            refine lv_if_eq (tgt := 163) hx hb dX4_keen_155 (by decide) (fun c_155 => ?_) (fun c_155 => ?_)
                            · skip
                              refine lv_iload_n hx hb dX4_keen_163 rfl (lv_at hl 3 rfl) ?_
                              refine lv_topi (fun x_8 ex_8 => ?_)
                              refine lv_istore_n (lv' := [(3, .int x_8), (2, .int x_7), (6, .int 0), (5, .int (sumI (fun v => bif wrgM f v k then 1 else -1) d)), (4, .int (nI k)), (0, .ref m), (1, .int what)]) hx hb dX4_keen_164 rfl hl (by decide) rfl (fun ls hl => ?_)
                              refine lv_iinc (v := nI (k + 1)) (lv' := [(4, .int (nI (k + 1))), (3, .int x_8), (2, .int x_7), (6, .int 0), (5, .int (sumI (fun v => bif wrgM f v k then 1 else -1) d)), (0, .ref m), (1, .int what)]) hx hb dX4_keen_165 hl (k := 4) rfl (nI_1 _) (by decide) rfl (fun ls hl => ?_)
                              refine lv_goto (tgt := 37) hx hb dX4_keen_168 (by decide) ?_
                              obtain rfl : x_7 = (keenM f M (k + 1)).1 := by rw [ex_7]; subst hd3; simp [keenM, absM, aprM, c_9, c_22, c_45, c_45', c_62, c_62', c_97, c_97', c_119, c_125, c_131, c_131']
                              obtain rfl : x_8 = (keenM f M (k + 1)).2 := by rw [ex_8]; subst hd3; simp [keenM, absM, aprM, c_9, c_22, c_45, c_45', c_62, c_62', c_97, c_97', c_119, c_125, c_131, c_131']
                              exact ih_37 (k + 1) (by omega) (by omega) _ _ hP hD hS _ (lv_sub hl [2, 1, 0, 5, 6] rfl)
                            · skip
                              exact False.elim (by revert c_155; decide)
                          · skip
                            exact False.elim (by revert c_143; decide)
                        · skip
                          have c_131' := Int32.not_le.mp c_131
                          refine lv_iconst (v := 1) hx hb dX4_keen_134 (by decide) ?_
                          refine lv_goto (tgt := 139) hx hb dX4_keen_135 (by decide) ?_
                          refine lv_istore (lv' := [(6, .int 1), (5, .int (sumI (fun v => bif wrgM f v k then 1 else -1) d)), (2, .int ((keenM f M k).1)), (3, .int ((keenM f M k).2)), (4, .int (nI k)), (0, .ref m), (1, .int what)]) hx hb dX4_keen_139 hl (by decide) rfl (fun ls hl => ?_)
                          refine lv_iload hx hb dX4_keen_141 (lv_at hl 0 rfl) ?_
                          refine lv_if_eq (tgt := 151) hx hb dX4_keen_143 (by decide) (fun c_143 => ?_) (fun c_143 => ?_)
                          · skip
                            exact False.elim (by revert c_143; decide)
                          · skip
                            refine lv_iload hx hb dX4_keen_146 (lv_at hl 4 rfl) ?_
                            refine lv_goto (tgt := 152) hx hb dX4_keen_148 (by decide) ?_
                            refine lv_istore_n (lv' := [(2, .int (nI k)), (6, .int 1), (5, .int (sumI (fun v => bif wrgM f v k then 1 else -1) d)), (3, .int ((keenM f M k).2)), (4, .int (nI k)), (0, .ref m), (1, .int what)]) hx hb dX4_keen_152 rfl hl (by decide) rfl (fun ls hl => ?_)
                            refine lv_iload hx hb dX4_keen_153 (lv_at hl 1 rfl) ?_
                            refine lv_if_eq (tgt := 163) hx hb dX4_keen_155 (by decide) (fun c_155 => ?_) (fun c_155 => ?_)
                            · skip
                              exact False.elim (by revert c_155; decide)
                            · skip
                              refine lv_iload hx hb dX4_keen_158 (lv_at hl 2 rfl) ?_
                              refine lv_goto (tgt := 164) hx hb dX4_keen_160 (by decide) ?_
                              refine lv_topi (fun x_9 ex_9 => ?_)
                              refine lv_istore_n (lv' := [(3, .int x_9), (2, .int (nI k)), (6, .int 1), (5, .int (sumI (fun v => bif wrgM f v k then 1 else -1) d)), (4, .int (nI k)), (0, .ref m), (1, .int what)]) hx hb dX4_keen_164 rfl hl (by decide) rfl (fun ls hl => ?_)
                              refine lv_iinc (v := nI (k + 1)) (lv' := [(4, .int (nI (k + 1))), (3, .int x_9), (2, .int (nI k)), (6, .int 1), (5, .int (sumI (fun v => bif wrgM f v k then 1 else -1) d)), (0, .ref m), (1, .int what)]) hx hb dX4_keen_165 hl (k := 4) rfl (nI_1 _) (by decide) rfl (fun ls hl => ?_)
                              refine lv_goto (tgt := 37) hx hb dX4_keen_168 (by decide) ?_
                              rw [show (nI k : Int32) = (keenM f M (k + 1)).1 from by subst hd3; simp [keenM, absM, aprM, c_9, c_22, c_45, c_45', c_62, c_62', c_97, c_97', c_119, c_125, c_131, c_131']] at hl
                              obtain rfl : x_9 = (keenM f M (k + 1)).2 := by rw [ex_9]; subst hd3; simp [keenM, absM, aprM, c_9, c_22, c_45, c_45', c_62, c_62', c_97, c_97', c_119, c_125, c_131, c_131']
                              exact ih_37 (k + 1) (by omega) (by omega) _ _ hP hD hS _ (lv_sub hl [2, 1, 0, 5, 6] rfl)
                  · skip
                    have c_97' := Int32.not_le.mp c_97
                    refine lv_iload hx hb dX4_keen_100 (lv_at hl 0 rfl) ?_
                    refine lv_ineg hx hb dX4_keen_102 ?_
                    refine lv_goto (tgt := 108) hx hb dX4_keen_103 (by decide) ?_
                    refine lv_istore (lv' := [(5, .int (-(sumI (fun v => bif wrgM f v k then 1 else -1) d))), (6, .int (nI d)), (2, .int ((keenM f M k).1)), (3, .int ((keenM f M k).2)), (4, .int (nI k)), (0, .ref m), (1, .int what)]) hx hb dX4_keen_108 hl (by decide) rfl (fun ls hl => ?_)
                    refine lv_aload_n hx hb dX4_keen_110 rfl (lv_at hl 5 rfl) ?_
                    refine lz_get (G := G) (ci := 4) (v := .ref (q 5)) (C := RX4) (T := TX4) (N := 24) hx hb hu_wsX40 (fun _ h9 => h9) hown hK hP 0 rfl rfl 5 (by decide) hw5 rfl rfl dX4_keen_111 ?_
                    refine lv_iload hx hb dX4_keen_114 (lv_at hl 4 rfl) ?_
                    have hPc := hP.sub (ws' := lzI G (q 5) 64 f) [1] rfl
                    refine ro_calli (va_runS (As := [.ref (q 5), .int (nI k)]) (rest := []) ⟨hx, hb, hml, hown, hts⟩ (c_X4_counts l G (q 5) f k (by omega)) (cwS 2 hts gX4_keen_X4_counts rfl rfl rfl (by decide +kernel) ⟨Nat.le_of_ble_eq_true rfl, Nat.le_of_ble_eq_true rfl⟩) (ro_pre hK hPc) rfl rfl hl.1 rfl (lv_room (Nat.le_of_ble_eq_true rfl)) dX4_keen_116 ⟨Nat.zero_le _, Nat.zero_le _⟩) (fun r_10 hr_10 => ?_)
                    refine lv_if_eq (tgt := 138) hx hb dX4_keen_119 (by decide) (fun c_119 => ?_) (fun c_119 => ?_)
                    · skip
                      have c_119 := b2_z hr_10 c_119
                      refine lv_iconst (v := 0) hx hb dX4_keen_138 (by decide) ?_
                      refine lv_istore (lv' := [(6, .int 0), (5, .int (-(sumI (fun v => bif wrgM f v k then 1 else -1) d))), (2, .int ((keenM f M k).1)), (3, .int ((keenM f M k).2)), (4, .int (nI k)), (0, .ref m), (1, .int what)]) hx hb dX4_keen_139 hl (by decide) rfl (fun ls hl => ?_)
                      refine lv_iload hx hb dX4_keen_141 (lv_at hl 0 rfl) ?_
                      refine lv_if_eq (tgt := 151) hx hb dX4_keen_143 (by decide) (fun c_143 => ?_) (fun c_143 => ?_)
                      · skip
                        refine lv_iload_n hx hb dX4_keen_151 rfl (lv_at hl 2 rfl) ?_
                        refine lv_topi (fun x_11 ex_11 => ?_)
                        refine lv_istore_n (lv' := [(2, .int x_11), (6, .int 0), (5, .int (-(sumI (fun v => bif wrgM f v k then 1 else -1) d))), (3, .int ((keenM f M k).2)), (4, .int (nI k)), (0, .ref m), (1, .int what)]) hx hb dX4_keen_152 rfl hl (by decide) rfl (fun ls hl => ?_)
                        refine lv_iload hx hb dX4_keen_153 (lv_at hl 1 rfl) ?_
                        refine lv_if_eq (tgt := 163) hx hb dX4_keen_155 (by decide) (fun c_155 => ?_) (fun c_155 => ?_)
                        · skip
                          refine lv_iload_n hx hb dX4_keen_163 rfl (lv_at hl 3 rfl) ?_
                          refine lv_topi (fun x_12 ex_12 => ?_)
                          refine lv_istore_n (lv' := [(3, .int x_12), (2, .int x_11), (6, .int 0), (5, .int (-(sumI (fun v => bif wrgM f v k then 1 else -1) d))), (4, .int (nI k)), (0, .ref m), (1, .int what)]) hx hb dX4_keen_164 rfl hl (by decide) rfl (fun ls hl => ?_)
                          refine lv_iinc (v := nI (k + 1)) (lv' := [(4, .int (nI (k + 1))), (3, .int x_12), (2, .int x_11), (6, .int 0), (5, .int (-(sumI (fun v => bif wrgM f v k then 1 else -1) d))), (0, .ref m), (1, .int what)]) hx hb dX4_keen_165 hl (k := 4) rfl (nI_1 _) (by decide) rfl (fun ls hl => ?_)
                          refine lv_goto (tgt := 37) hx hb dX4_keen_168 (by decide) ?_
                          obtain rfl : x_11 = (keenM f M (k + 1)).1 := by rw [ex_11]; subst hd3; simp [keenM, absM, aprM, c_9, c_22, c_45, c_45', c_62, c_62', c_97, c_97', c_119]
                          obtain rfl : x_12 = (keenM f M (k + 1)).2 := by rw [ex_12]; subst hd3; simp [keenM, absM, aprM, c_9, c_22, c_45, c_45', c_62, c_62', c_97, c_97', c_119]
                          exact ih_37 (k + 1) (by omega) (by omega) _ _ hP hD hS _ (lv_sub hl [2, 1, 0, 5, 6] rfl)
                        · skip
                          exact False.elim (by revert c_155; decide)
                      · skip
                        exact False.elim (by revert c_143; decide)
                    · skip
                      have c_119 := b2_n hr_10 c_119
                      refine lv_iload_n hx hb dX4_keen_122 rfl (lv_at hl 2 rfl) ?_
                      refine lv_ldc hx hb hown hw4 dX4_keen_123 ?_
                      refine lv_icmp_eq (tgt := 134) hx hb dX4_keen_125 (by decide) (fun c_125 => ?_) (fun c_125 => ?_)
                      · skip
                        refine lv_iconst (v := 1) hx hb dX4_keen_134 (by decide) ?_
                        refine lv_goto (tgt := 139) hx hb dX4_keen_135 (by decide) ?_
                        refine lv_istore (lv' := [(6, .int 1), (5, .int (-(sumI (fun v => bif wrgM f v k then 1 else -1) d))), (2, .int ((keenM f M k).1)), (3, .int ((keenM f M k).2)), (4, .int (nI k)), (0, .ref m), (1, .int what)]) hx hb dX4_keen_139 hl (by decide) rfl (fun ls hl => ?_)
                        refine lv_iload hx hb dX4_keen_141 (lv_at hl 0 rfl) ?_
                        refine lv_if_eq (tgt := 151) hx hb dX4_keen_143 (by decide) (fun c_143 => ?_) (fun c_143 => ?_)
                        · skip
                          exact False.elim (by revert c_143; decide)
                        · skip
                          refine lv_iload hx hb dX4_keen_146 (lv_at hl 4 rfl) ?_
                          refine lv_goto (tgt := 152) hx hb dX4_keen_148 (by decide) ?_
                          refine lv_istore_n (lv' := [(2, .int (nI k)), (6, .int 1), (5, .int (-(sumI (fun v => bif wrgM f v k then 1 else -1) d))), (3, .int ((keenM f M k).2)), (4, .int (nI k)), (0, .ref m), (1, .int what)]) hx hb dX4_keen_152 rfl hl (by decide) rfl (fun ls hl => ?_)
                          refine lv_iload hx hb dX4_keen_153 (lv_at hl 1 rfl) ?_
                          refine lv_if_eq (tgt := 163) hx hb dX4_keen_155 (by decide) (fun c_155 => ?_) (fun c_155 => ?_)
                          · skip
                            exact False.elim (by revert c_155; decide)
                          · skip
                            refine lv_iload hx hb dX4_keen_158 (lv_at hl 2 rfl) ?_
                            refine lv_goto (tgt := 164) hx hb dX4_keen_160 (by decide) ?_
                            refine lv_topi (fun x_13 ex_13 => ?_)
                            refine lv_istore_n (lv' := [(3, .int x_13), (2, .int (nI k)), (6, .int 1), (5, .int (-(sumI (fun v => bif wrgM f v k then 1 else -1) d))), (4, .int (nI k)), (0, .ref m), (1, .int what)]) hx hb dX4_keen_164 rfl hl (by decide) rfl (fun ls hl => ?_)
                            refine lv_iinc (v := nI (k + 1)) (lv' := [(4, .int (nI (k + 1))), (3, .int x_13), (2, .int (nI k)), (6, .int 1), (5, .int (-(sumI (fun v => bif wrgM f v k then 1 else -1) d))), (0, .ref m), (1, .int what)]) hx hb dX4_keen_165 hl (k := 4) rfl (nI_1 _) (by decide) rfl (fun ls hl => ?_)
                            refine lv_goto (tgt := 37) hx hb dX4_keen_168 (by decide) ?_
                            rw [show (nI k : Int32) = (keenM f M (k + 1)).1 from by subst hd3; simp [keenM, absM, aprM, c_9, c_22, c_45, c_45', c_62, c_62', c_97, c_97', c_119, c_125]] at hl
                            obtain rfl : x_13 = (keenM f M (k + 1)).2 := by rw [ex_13]; subst hd3; simp [keenM, absM, aprM, c_9, c_22, c_45, c_45', c_62, c_62', c_97, c_97', c_119, c_125]
                            exact ih_37 (k + 1) (by omega) (by omega) _ _ hP hD hS _ (lv_sub hl [2, 1, 0, 5, 6] rfl)
                      · skip
                        refine lv_iload hx hb dX4_keen_128 (lv_at hl 0 rfl) ?_
                        refine lv_iload_n hx hb dX4_keen_130 rfl (lv_at hl 3 rfl) ?_
                        refine lv_icmp_ge (tgt := 138) hx hb dX4_keen_131 (by decide) (fun c_131 => ?_) (fun c_131 => ?_)
                        · skip
                          have c_131' := Int32.not_lt.mpr c_131
                          refine lv_iconst (v := 0) hx hb dX4_keen_138 (by decide) ?_
                          refine lv_istore (lv' := [(6, .int 0), (5, .int (-(sumI (fun v => bif wrgM f v k then 1 else -1) d))), (2, .int ((keenM f M k).1)), (3, .int ((keenM f M k).2)), (4, .int (nI k)), (0, .ref m), (1, .int what)]) hx hb dX4_keen_139 hl (by decide) rfl (fun ls hl => ?_)
                          refine lv_iload hx hb dX4_keen_141 (lv_at hl 0 rfl) ?_
                          refine lv_if_eq (tgt := 151) hx hb dX4_keen_143 (by decide) (fun c_143 => ?_) (fun c_143 => ?_)
                          · skip
                            refine lv_iload_n hx hb dX4_keen_151 rfl (lv_at hl 2 rfl) ?_
                            refine lv_topi (fun x_14 ex_14 => ?_)
                            refine lv_istore_n (lv' := [(2, .int x_14), (6, .int 0), (5, .int (-(sumI (fun v => bif wrgM f v k then 1 else -1) d))), (3, .int ((keenM f M k).2)), (4, .int (nI k)), (0, .ref m), (1, .int what)]) hx hb dX4_keen_152 rfl hl (by decide) rfl (fun ls hl => ?_)
                            refine lv_iload hx hb dX4_keen_153 (lv_at hl 1 rfl) ?_
                            refine lv_if_eq (tgt := 163) hx hb dX4_keen_155 (by decide) (fun c_155 => ?_) (fun c_155 => ?_)
                            · skip
                              refine lv_iload_n hx hb dX4_keen_163 rfl (lv_at hl 3 rfl) ?_
                              refine lv_topi (fun x_15 ex_15 => ?_)
                              refine lv_istore_n (lv' := [(3, .int x_15), (2, .int x_14), (6, .int 0), (5, .int (-(sumI (fun v => bif wrgM f v k then 1 else -1) d))), (4, .int (nI k)), (0, .ref m), (1, .int what)]) hx hb dX4_keen_164 rfl hl (by decide) rfl (fun ls hl => ?_)
                              refine lv_iinc (v := nI (k + 1)) (lv' := [(4, .int (nI (k + 1))), (3, .int x_15), (2, .int x_14), (6, .int 0), (5, .int (-(sumI (fun v => bif wrgM f v k then 1 else -1) d))), (0, .ref m), (1, .int what)]) hx hb dX4_keen_165 hl (k := 4) rfl (nI_1 _) (by decide) rfl (fun ls hl => ?_)
                              refine lv_goto (tgt := 37) hx hb dX4_keen_168 (by decide) ?_
                              obtain rfl : x_14 = (keenM f M (k + 1)).1 := by rw [ex_14]; subst hd3; simp [keenM, absM, aprM, c_9, c_22, c_45, c_45', c_62, c_62', c_97, c_97', c_119, c_125, c_131, c_131']
                              obtain rfl : x_15 = (keenM f M (k + 1)).2 := by rw [ex_15]; subst hd3; simp [keenM, absM, aprM, c_9, c_22, c_45, c_45', c_62, c_62', c_97, c_97', c_119, c_125, c_131, c_131']
                              exact ih_37 (k + 1) (by omega) (by omega) _ _ hP hD hS _ (lv_sub hl [2, 1, 0, 5, 6] rfl)
                            · skip
                              exact False.elim (by revert c_155; decide)
                          · skip
                            exact False.elim (by revert c_143; decide)
                        · skip
                          have c_131' := Int32.not_le.mp c_131
                          refine lv_iconst (v := 1) hx hb dX4_keen_134 (by decide) ?_
                          refine lv_goto (tgt := 139) hx hb dX4_keen_135 (by decide) ?_
                          refine lv_istore (lv' := [(6, .int 1), (5, .int (-(sumI (fun v => bif wrgM f v k then 1 else -1) d))), (2, .int ((keenM f M k).1)), (3, .int ((keenM f M k).2)), (4, .int (nI k)), (0, .ref m), (1, .int what)]) hx hb dX4_keen_139 hl (by decide) rfl (fun ls hl => ?_)
                          refine lv_iload hx hb dX4_keen_141 (lv_at hl 0 rfl) ?_
                          refine lv_if_eq (tgt := 151) hx hb dX4_keen_143 (by decide) (fun c_143 => ?_) (fun c_143 => ?_)
                          · skip
                            exact False.elim (by revert c_143; decide)
                          · skip
                            refine lv_iload hx hb dX4_keen_146 (lv_at hl 4 rfl) ?_
                            refine lv_goto (tgt := 152) hx hb dX4_keen_148 (by decide) ?_
                            refine lv_istore_n (lv' := [(2, .int (nI k)), (6, .int 1), (5, .int (-(sumI (fun v => bif wrgM f v k then 1 else -1) d))), (3, .int ((keenM f M k).2)), (4, .int (nI k)), (0, .ref m), (1, .int what)]) hx hb dX4_keen_152 rfl hl (by decide) rfl (fun ls hl => ?_)
                            refine lv_iload hx hb dX4_keen_153 (lv_at hl 1 rfl) ?_
                            refine lv_if_eq (tgt := 163) hx hb dX4_keen_155 (by decide) (fun c_155 => ?_) (fun c_155 => ?_)
                            · skip
                              exact False.elim (by revert c_155; decide)
                            · skip
                              refine lv_iload hx hb dX4_keen_158 (lv_at hl 2 rfl) ?_
                              refine lv_goto (tgt := 164) hx hb dX4_keen_160 (by decide) ?_
                              refine lv_topi (fun x_16 ex_16 => ?_)
                              refine lv_istore_n (lv' := [(3, .int x_16), (2, .int (nI k)), (6, .int 1), (5, .int (-(sumI (fun v => bif wrgM f v k then 1 else -1) d))), (4, .int (nI k)), (0, .ref m), (1, .int what)]) hx hb dX4_keen_164 rfl hl (by decide) rfl (fun ls hl => ?_)
                              refine lv_iinc (v := nI (k + 1)) (lv' := [(4, .int (nI (k + 1))), (3, .int x_16), (2, .int (nI k)), (6, .int 1), (5, .int (-(sumI (fun v => bif wrgM f v k then 1 else -1) d))), (0, .ref m), (1, .int what)]) hx hb dX4_keen_165 hl (k := 4) rfl (nI_1 _) (by decide) rfl (fun ls hl => ?_)
                              refine lv_goto (tgt := 37) hx hb dX4_keen_168 (by decide) ?_
                              rw [show (nI k : Int32) = (keenM f M (k + 1)).1 from by subst hd3; simp [keenM, absM, aprM, c_9, c_22, c_45, c_45', c_62, c_62', c_97, c_97', c_119, c_125, c_131, c_131']] at hl
                              obtain rfl : x_16 = (keenM f M (k + 1)).2 := by rw [ex_16]; subst hd3; simp [keenM, absM, aprM, c_9, c_22, c_45, c_45', c_62, c_62', c_97, c_97', c_119, c_125, c_131, c_131']
                              exact ih_37 (k + 1) (by omega) (by omega) _ _ hP hD hS _ (lv_sub hl [2, 1, 0, 5, 6] rfl)
                · skip
                  have c_62' := Int32.not_le.mp c_62
                  have hd2 : d < M := lz_lt hM c_62 (by omega) (by omega)
                  refine lv_iload hx hb dX4_keen_65 (lv_at hl 0 rfl) ?_
                  refine lv_aload_n hx hb dX4_keen_67 rfl (lv_at hl 5 rfl) ?_
                  refine lz_get (G := G) (ci := 4) (v := .ref (q 5)) (C := RX4) (T := TX4) (N := 24) hx hb hu_wsX40 (fun _ h9 => h9) hown hK hP 0 rfl rfl 5 (by decide) hw5 rfl rfl dX4_keen_68 ?_
                  refine lv_iload hx hb dX4_keen_71 (lv_at hl 1 rfl) ?_
                  refine lv_iload hx hb dX4_keen_73 (lv_at hl 4 rfl) ?_
                  have hPc := hP.sub (ws' := lzI G (q 5) 64 f) [1] rfl
                  refine ro_calli (va_runS (As := [.ref (q 5), .int (nI d), .int (nI k)]) (rest := [.int (sumI (fun v => bif wrgM f v k then 1 else -1) d)]) ⟨hx, hb, hml, hown, hts⟩ (c_X4_isWrong l G (q 5) f d k (by omega) (by omega)) (cwS 3 hts gX4_keen_X4_isWrong rfl rfl rfl (by decide +kernel) ⟨Nat.le_of_ble_eq_true rfl, Nat.le_of_ble_eq_true rfl⟩) (ro_pre hK hPc) rfl rfl hl.1 rfl (lv_room (Nat.le_of_ble_eq_true rfl)) dX4_keen_75 ⟨Nat.zero_le _, Nat.zero_le _⟩) (fun r_17 hr_17 => ?_)
                  refine lv_if_eq (tgt := 85) hx hb dX4_keen_78 (by decide) (fun c_78 => ?_) (fun c_78 => ?_)
                  · skip
                    have c_78 := b2_z hr_17 c_78
                    refine lv_iconst (v := (-1)) hx hb dX4_keen_85 (by decide) ?_
                    refine lv_iadd hx hb dX4_keen_86 ?_
                    refine lv_topi (fun x_18 ex_18 => ?_)
                    refine lv_istore (lv' := [(5, .int x_18), (6, .int (nI d)), (2, .int ((keenM f M k).1)), (3, .int ((keenM f M k).2)), (4, .int (nI k)), (0, .ref m), (1, .int what)]) hx hb dX4_keen_87 hl (by decide) rfl (fun ls hl => ?_)
                    refine lv_iinc (v := nI (d + 1)) (lv' := [(6, .int (nI (d + 1))), (5, .int x_18), (2, .int ((keenM f M k).1)), (3, .int ((keenM f M k).2)), (4, .int (nI k)), (0, .ref m), (1, .int what)]) hx hb dX4_keen_89 hl (k := 1) rfl (nI_1 _) (by decide) rfl (fun ls hl => ?_)
                    refine lv_goto (tgt := 54) hx hb dX4_keen_92 (by decide) ?_
                    obtain rfl : x_18 = sumI (fun v => bif wrgM f v k then 1 else -1) (d + 1) := by rw [ex_18]; simp [sumI, c_9, c_22, c_45, c_45', c_62, c_62', c_78]
                    exact ih_54 (d + 1) (by omega) (by omega) _ _ hP hD hS _ (lv_sub hl [1, 0, 2, 3, 4, 5, 6] rfl)
                  · skip
                    have c_78 := b2_n hr_17 c_78
                    refine lv_iconst (v := 1) hx hb dX4_keen_81 (by decide) ?_
                    refine lv_goto (tgt := 86) hx hb dX4_keen_82 (by decide) ?_
                    refine lv_iadd hx hb dX4_keen_86 ?_
                    refine lv_topi (fun x_19 ex_19 => ?_)
                    refine lv_istore (lv' := [(5, .int x_19), (6, .int (nI d)), (2, .int ((keenM f M k).1)), (3, .int ((keenM f M k).2)), (4, .int (nI k)), (0, .ref m), (1, .int what)]) hx hb dX4_keen_87 hl (by decide) rfl (fun ls hl => ?_)
                    refine lv_iinc (v := nI (d + 1)) (lv' := [(6, .int (nI (d + 1))), (5, .int x_19), (2, .int ((keenM f M k).1)), (3, .int ((keenM f M k).2)), (4, .int (nI k)), (0, .ref m), (1, .int what)]) hx hb dX4_keen_89 hl (k := 1) rfl (nI_1 _) (by decide) rfl (fun ls hl => ?_)
                    refine lv_goto (tgt := 54) hx hb dX4_keen_92 (by decide) ?_
                    obtain rfl : x_19 = sumI (fun v => bif wrgM f v k then 1 else -1) (d + 1) := by rw [ex_19]; simp [sumI, c_9, c_22, c_45, c_45', c_62, c_62', c_78]
                    exact ih_54 (d + 1) (by omega) (by omega) _ _ hP hD hS _ (lv_sub hl [1, 0, 2, 3, 4, 5, 6] rfl)
            exact J_54 _ 0 (by omega) (Nat.lt_succ_self _) _ _ hP hD hS _ (lv_sub hl [1, 0, 2, 3, 4, 5, 6] rfl)
      exact J_37 _ 0 (by omega) (Nat.lt_succ_self _) _ _ hP hD hS _ (lv_sub hl [2, 1, 0, 3, 4] rfl)
    · skip
      have c_22 := b2_z hr_2 c_22
      exact Bool.noConfusion (hwL.symm.trans c_22)
  · skip
    have c_9 := b2_z hr_1 c_9
    exact Bool.noConfusion (hR.symm.trans c_9)
set_option maxHeartbeats 4000000 in
set_option maxRecDepth 100000 in
theorem c_X4_drop_bad (l : Launch) (G : lzG) (m : Nat) (q : Nat → Nat) (S : Nat → Int32) (ln mn : Nat → Int32) (a : Int32) (hbad : inR a 0 7 = false) : Met l yX4_drop wsX4_drop ({ frames := 2, cells := 0, slots := 0, locals := 45 }) (va_Pc [.ref m, .int a] (rwP G (lzM m q S ++ (lzI G (q 2) 8 ln ++ (lzI G (q 3) 8 mn))))) (va_Qi (S := Unit) (fun (r : Int32) (_ : Unit) => r = -1000001) (rwB G (fun _ : Unit => (lzM m q (upd S 0 0) ++ (lzI G (q 2) 8 ln ++ (lzI G (q 3) 8 mn))))) (lzA (lzM m q S ++ (lzI G (q 2) 8 ln ++ (lzI G (q 3) 8 mn))))) 0 0 (lzA (lzM m q S ++ (lzI G (q 2) 8 ln ++ (lzI G (q 3) 8 mn)))) := by
  refine rw_start (S := Unit) (cc := cX4_drop) (maxL := 2) (ret := (some .int)) (by decide) rfl (Nat.le_of_ble_eq_true rfl) ?_
  intro pp ee ss mm bl me cd A hx hb hr hlk hml hts hown hP hK hD hAe hS ls hl
  have hA0 : ∀ zz : Nat, lzA (lzM m q S ++ (lzI G (q 2) 8 ln ++ (lzI G (q 3) 8 mn))) zz → A zz := fun zz h9 => by rw [hAe]; exact h9
  rw [← hAe]
  clear hAe
  have hown : ss.vm.findClass RX4 = some mm.cls := hown
  have hw1 := hts (.fieldLink RX4 48 "LampSquaresModel" "thrown" "I") (List.mem_of_getElem? (i := 1) rfl)
  have hw2 := hts (.constant RX4 68 (-1000001)) (List.mem_of_getElem? (i := 2) rfl)
  have hu_wsX40 : ∀ w ∈ wsX40, w.before ([.ref m, .int a] : List Value).toArray ss = true := fun w h9 => hts w (List.mem_cons_of_mem _ (List.mem_append_right _ h9))
  have hl : lv_has ls 2 [(0, .ref m), (1, .int a)] := hl
  refine lv_aload_n hx hb dX4_drop_0 rfl (lv_at hl 0 rfl) ?_
  refine lv_iconst (v := 0) hx hb dX4_drop_1 (by decide) ?_
  refine lz_put (G := G) (ci := 4) (C := RX4) (T := TX4) (N := 24) hx hb hu_wsX40 (fun _ h9 => h9) tyX4 tyX4_ok nmX4 hown hK hP hD hS 0 rfl rfl 0 (by decide) hw1 rfl rfl (by decide +kernel) (Nat.le_of_ble_eq_true rfl) dX4_drop_2 (lzM m q (upd S 0 0) ++ (lzI G (q 2) 8 ln ++ (lzI G (q 3) 8 mn))) rfl (fun H locs hP hD hS => ?_)
  refine lv_iload_n hx hb dX4_drop_5 rfl (lv_at hl 1 rfl) ?_
  refine ro_calli (va_runS (As := [.int a]) (rest := []) ⟨hx, hb, hml, hown, hts⟩ (c_X4_isRow l G a ) (cwS 1 hts gX4_drop_X4_isRow rfl rfl rfl (by decide +kernel) ⟨Nat.le_of_ble_eq_true rfl, Nat.le_of_ble_eq_true rfl⟩) (ro_pre hK (fun k q h => by simp at h)) rfl rfl hl.1 rfl (lv_room (Nat.le_of_ble_eq_true rfl)) dX4_drop_6 ⟨Nat.zero_le _, Nat.zero_le _⟩) (fun r_1 hr_1 => ?_)
  refine lv_if_ne (tgt := 15) hx hb dX4_drop_9 (by decide) (fun c_9 => ?_) (fun c_9 => ?_)
  · skip
    have c_9 := b2_n hr_1 c_9
    exact Bool.noConfusion (hbad.symm.trans c_9)
  · skip
    have c_9 := b2_z hr_1 c_9
    refine lv_ldc hx hb hown hw2 dX4_drop_12 ?_
    exact rw_iret (S := Unit) (G := G) (Wd := fun _ : Unit => (lzM m q (upd S 0 0) ++ (lzI G (q 2) 8 ln ++ (lzI G (q 3) 8 mn)))) () hx hb hr hlk dX4_drop_14 hS (hP) (rfl)
set_option maxHeartbeats 4000000 in
set_option maxRecDepth 100000 in
theorem c_X4_drop_null (l : Launch) (G : lzG) (m : Nat) (q : Nat → Nat) (S : Nat → Int32) (ln mn : Nat → Int32) (rr : Nat) (hrw : rr < 8) (hm : ln rr < 0) : Met l yX4_drop wsX4_drop ({ frames := 2, cells := 0, slots := 0, locals := 45 }) (va_Pc [.ref m, .int (nI rr)] (rwP G (lzM m q S ++ (lzI G (q 2) 8 ln ++ (lzI G (q 3) 8 mn))))) (va_Qi (S := Unit) (fun (r : Int32) (_ : Unit) => r = -1000011) (rwB G (fun _ : Unit => (lzM m q (upd (upd S 0 0) 1 1) ++ (lzI G (q 2) 8 ln ++ (lzI G (q 3) 8 mn))))) (lzA (lzM m q S ++ (lzI G (q 2) 8 ln ++ (lzI G (q 3) 8 mn))))) 0 0 (lzA (lzM m q S ++ (lzI G (q 2) 8 ln ++ (lzI G (q 3) 8 mn)))) := by
  have hA : inR (nI rr) 0 7 = true := inR_row hrw
  refine rw_start (S := Unit) (cc := cX4_drop) (maxL := 2) (ret := (some .int)) (by decide) rfl (Nat.le_of_ble_eq_true rfl) ?_
  intro pp ee ss mm bl me cd A hx hb hr hlk hml hts hown hP hK hD hAe hS ls hl
  have hA0 : ∀ zz : Nat, lzA (lzM m q S ++ (lzI G (q 2) 8 ln ++ (lzI G (q 3) 8 mn))) zz → A zz := fun zz h9 => by rw [hAe]; exact h9
  rw [← hAe]
  clear hAe
  have hown : ss.vm.findClass RX4 = some mm.cls := hown
  have hw1 := hts (.fieldLink RX4 48 "LampSquaresModel" "thrown" "I") (List.mem_of_getElem? (i := 1) rfl)
  have hw3 := hts (.fieldLink RX4 52 "LampSquaresModel" "status" "I") (List.mem_of_getElem? (i := 3) rfl)
  have hw4 := hts (.fieldLink RX4 7 "LampSquaresModel" "lane" "[I") (List.mem_of_getElem? (i := 4) rfl)
  have hu_wsX40 : ∀ w ∈ wsX40, w.before ([.ref m, .int (nI rr)] : List Value).toArray ss = true := fun w h9 => hts w (List.mem_cons_of_mem _ (List.mem_append_right _ h9))
  have hl : lv_has ls 2 [(0, .ref m), (1, .int (nI rr))] := hl
  refine lv_aload_n hx hb dX4_drop_0 rfl (lv_at hl 0 rfl) ?_
  refine lv_iconst (v := 0) hx hb dX4_drop_1 (by decide) ?_
  refine lz_put (G := G) (ci := 4) (C := RX4) (T := TX4) (N := 24) hx hb hu_wsX40 (fun _ h9 => h9) tyX4 tyX4_ok nmX4 hown hK hP hD hS 0 rfl rfl 0 (by decide) hw1 rfl rfl (by decide +kernel) (Nat.le_of_ble_eq_true rfl) dX4_drop_2 (lzM m q (upd S 0 0) ++ (lzI G (q 2) 8 ln ++ (lzI G (q 3) 8 mn))) rfl (fun H locs hP hD hS => ?_)
  refine lv_iload_n hx hb dX4_drop_5 rfl (lv_at hl 1 rfl) ?_
  refine ro_calli (va_runS (As := [.int (nI rr)]) (rest := []) ⟨hx, hb, hml, hown, hts⟩ (c_X4_isRow l G (nI rr) ) (cwS 1 hts gX4_drop_X4_isRow rfl rfl rfl (by decide +kernel) ⟨Nat.le_of_ble_eq_true rfl, Nat.le_of_ble_eq_true rfl⟩) (ro_pre hK (fun k q h => by simp at h)) rfl rfl hl.1 rfl (lv_room (Nat.le_of_ble_eq_true rfl)) dX4_drop_6 ⟨Nat.zero_le _, Nat.zero_le _⟩) (fun r_1 hr_1 => ?_)
  refine lv_if_ne (tgt := 15) hx hb dX4_drop_9 (by decide) (fun c_9 => ?_) (fun c_9 => ?_)
  · skip
    have c_9 := b2_n hr_1 c_9
    refine lv_aload_n hx hb dX4_drop_15 rfl (lv_at hl 0 rfl) ?_
    refine lv_iconst (v := 0) hx hb dX4_drop_16 (by decide) ?_
    refine lz_put (G := G) (ci := 4) (C := RX4) (T := TX4) (N := 24) hx hb hu_wsX40 (fun _ h9 => h9) tyX4 tyX4_ok nmX4 hown hK hP hD hS 0 rfl rfl 1 (by decide) hw3 rfl rfl (by decide +kernel) (Nat.le_of_ble_eq_true rfl) dX4_drop_17 (lzM m q (upd (upd S 0 0) 1 0) ++ (lzI G (q 2) 8 ln ++ (lzI G (q 3) 8 mn))) rfl (fun H locs hP hD hS => ?_)
    refine lv_aload_n hx hb dX4_drop_20 rfl (lv_at hl 0 rfl) ?_
    refine lz_get (G := G) (ci := 4) (v := .ref (q 2)) (C := RX4) (T := TX4) (N := 24) hx hb hu_wsX40 (fun _ h9 => h9) hown hK hP 0 rfl rfl 2 (by decide) hw4 rfl rfl dX4_drop_21 ?_
    refine lv_iload_n hx hb dX4_drop_24 rfl (lv_at hl 1 rfl) ?_
    refine lz_iald (f := ln) hx hb hK hP 1 rfl rr (by omega) (Nat.le_of_ble_eq_true rfl) dX4_drop_25 ?_
    refine lv_if_ge (tgt := 35) hx hb dX4_drop_26 (by decide) (fun c_26 => ?_) (fun c_26 => ?_)
    · skip
      have c_26' := Int32.not_lt.mpr c_26
      exact absurd hm (Int32.not_lt.mpr c_26)
    · skip
      have c_26' := Int32.not_le.mp c_26
      refine lv_aload_n hx hb dX4_drop_29 rfl (lv_at hl 0 rfl) ?_
      refine lv_iconst (v := 1) hx hb dX4_drop_30 (by decide) ?_
      have hPc := hP.sub (ws' := lzM m q (upd (upd S 0 0) 1 0)) [0] rfl
      have hDc := hD.sub (ws' := lzM m q (upd (upd S 0 0) 1 0)) [0] (by decide) rfl
      have hFc : ∀ zz : Nat, lzA (lzM m q (upd (upd S 0 0) 1 0)) zz → A zz := lz_free hD [0] rfl
      refine va_calli (va_runV (As := [.int 1]) (rest := []) ⟨hx, hb, hml, hown, hts⟩ (c_X4_finding l G m q (upd (upd S 0 0) 1 0) 1 ) (cwV 1 hts gX4_drop_X4_finding rfl rfl rfl (by decide +kernel) ⟨Nat.le_of_ble_eq_true rfl, Nat.le_of_ble_eq_true rfl⟩) (rw_preV hK hPc hDc hP (ci := 4) (q0 := 0) rfl rfl) rfl rfl hl.1 rfl (lv_room (Nat.le_of_ble_eq_true rfl)) dX4_drop_31 ⟨Nat.zero_le _, Nat.zero_le _⟩) hS (fun q _ h => hFc q h) hFc (fun r_2 u_3 t9 H1 locs ht hvm hr_2 hB hz1 hk1 hS => ?_)
      replace hB : va_P G.1 lzC _ t9.heap := hB
      rw [ht] at hB
      obtain ⟨hP, hD⟩ := lz_join (wc := lzM m q (upd (upd S 0 0) 1 0)) (wr := ([(q 2, .inl (G.2 0, 8, .inl ln)), (q 3, .inl (G.2 0, 8, .inl mn))] : va_W)) (w1 := lzM m q (upd (upd S 0 0) 1 1)) hP hD [0] [1, 2] rfl rfl (by decide) (by decide) rfl hk1 hB
      replace hP := hP.sub (ws' := (lzM m q (upd (upd S 0 0) 1 1) ++ (lzI G (q 2) 8 ln ++ (lzI G (q 3) 8 mn)))) [2, 0, 1] rfl
      replace hD := hD.sub (ws' := (lzM m q (upd (upd S 0 0) 1 1) ++ (lzI G (q 2) 8 ln ++ (lzI G (q 3) 8 mn)))) [2, 0, 1] (by decide) rfl
      clear ht hvm hB hz1 hk1
      generalize H1 = H at hP hS ⊢
      refine lz_top (y := -1000010 - 1) hr_2 ?_
      exact rw_iret (S := Unit) (G := G) (Wd := fun _ : Unit => (lzM m q (upd (upd S 0 0) 1 1) ++ (lzI G (q 2) 8 ln ++ (lzI G (q 3) 8 mn)))) () hx hb hr hlk dX4_drop_34 hS (hP) (rfl)
  · skip
    have c_9 := b2_z hr_1 c_9
    exact Bool.noConfusion (hA.symm.trans c_9)
set_option maxHeartbeats 4000000 in
set_option maxRecDepth 100000 in
theorem c_X4_drop_ok (l : Launch) (G : lzG) (m : Nat) (q : Nat → Nat) (S : Nat → Int32) (ln mn : Nat → Int32) (rr : Nat) (hrw : rr < 8) (hm : 0 ≤ ln rr) : Met l yX4_drop wsX4_drop ({ frames := 2, cells := 0, slots := 0, locals := 45 }) (va_Pc [.ref m, .int (nI rr)] (rwP G (lzM m q S ++ (lzI G (q 2) 8 ln ++ (lzI G (q 3) 8 mn))))) (va_Qi (S := Unit) (fun (r : Int32) (_ : Unit) => r = mn rr) (rwB G (fun _ : Unit => (lzM m q (upd (upd S 0 0) 1 0) ++ (lzI G (q 2) 8 (upd ln rr (-1)) ++ (lzI G (q 3) 8 mn))))) (lzA (lzM m q S ++ (lzI G (q 2) 8 ln ++ (lzI G (q 3) 8 mn))))) 0 0 (lzA (lzM m q S ++ (lzI G (q 2) 8 ln ++ (lzI G (q 3) 8 mn)))) := by
  have hA : inR (nI rr) 0 7 = true := inR_row hrw
  refine rw_start (S := Unit) (cc := cX4_drop) (maxL := 2) (ret := (some .int)) (by decide) rfl (Nat.le_of_ble_eq_true rfl) ?_
  intro pp ee ss mm bl me cd A hx hb hr hlk hml hts hown hP hK hD hAe hS ls hl
  have hA0 : ∀ zz : Nat, lzA (lzM m q S ++ (lzI G (q 2) 8 ln ++ (lzI G (q 3) 8 mn))) zz → A zz := fun zz h9 => by rw [hAe]; exact h9
  rw [← hAe]
  clear hAe
  have hown : ss.vm.findClass RX4 = some mm.cls := hown
  have hw1 := hts (.fieldLink RX4 48 "LampSquaresModel" "thrown" "I") (List.mem_of_getElem? (i := 1) rfl)
  have hw3 := hts (.fieldLink RX4 52 "LampSquaresModel" "status" "I") (List.mem_of_getElem? (i := 3) rfl)
  have hw4 := hts (.fieldLink RX4 7 "LampSquaresModel" "lane" "[I") (List.mem_of_getElem? (i := 4) rfl)
  have hw5 := hts (.fieldLink RX4 13 "LampSquaresModel" "many" "[I") (List.mem_of_getElem? (i := 5) rfl)
  have hu_wsX40 : ∀ w ∈ wsX40, w.before ([.ref m, .int (nI rr)] : List Value).toArray ss = true := fun w h9 => hts w (List.mem_cons_of_mem _ (List.mem_append_right _ h9))
  have hl : lv_has ls 2 [(0, .ref m), (1, .int (nI rr))] := hl
  refine lv_aload_n hx hb dX4_drop_0 rfl (lv_at hl 0 rfl) ?_
  refine lv_iconst (v := 0) hx hb dX4_drop_1 (by decide) ?_
  refine lz_put (G := G) (ci := 4) (C := RX4) (T := TX4) (N := 24) hx hb hu_wsX40 (fun _ h9 => h9) tyX4 tyX4_ok nmX4 hown hK hP hD hS 0 rfl rfl 0 (by decide) hw1 rfl rfl (by decide +kernel) (Nat.le_of_ble_eq_true rfl) dX4_drop_2 (lzM m q (upd S 0 0) ++ (lzI G (q 2) 8 ln ++ (lzI G (q 3) 8 mn))) rfl (fun H locs hP hD hS => ?_)
  refine lv_iload_n hx hb dX4_drop_5 rfl (lv_at hl 1 rfl) ?_
  refine ro_calli (va_runS (As := [.int (nI rr)]) (rest := []) ⟨hx, hb, hml, hown, hts⟩ (c_X4_isRow l G (nI rr) ) (cwS 1 hts gX4_drop_X4_isRow rfl rfl rfl (by decide +kernel) ⟨Nat.le_of_ble_eq_true rfl, Nat.le_of_ble_eq_true rfl⟩) (ro_pre hK (fun k q h => by simp at h)) rfl rfl hl.1 rfl (lv_room (Nat.le_of_ble_eq_true rfl)) dX4_drop_6 ⟨Nat.zero_le _, Nat.zero_le _⟩) (fun r_1 hr_1 => ?_)
  refine lv_if_ne (tgt := 15) hx hb dX4_drop_9 (by decide) (fun c_9 => ?_) (fun c_9 => ?_)
  · skip
    have c_9 := b2_n hr_1 c_9
    refine lv_aload_n hx hb dX4_drop_15 rfl (lv_at hl 0 rfl) ?_
    refine lv_iconst (v := 0) hx hb dX4_drop_16 (by decide) ?_
    refine lz_put (G := G) (ci := 4) (C := RX4) (T := TX4) (N := 24) hx hb hu_wsX40 (fun _ h9 => h9) tyX4 tyX4_ok nmX4 hown hK hP hD hS 0 rfl rfl 1 (by decide) hw3 rfl rfl (by decide +kernel) (Nat.le_of_ble_eq_true rfl) dX4_drop_17 (lzM m q (upd (upd S 0 0) 1 0) ++ (lzI G (q 2) 8 ln ++ (lzI G (q 3) 8 mn))) rfl (fun H locs hP hD hS => ?_)
    refine lv_aload_n hx hb dX4_drop_20 rfl (lv_at hl 0 rfl) ?_
    refine lz_get (G := G) (ci := 4) (v := .ref (q 2)) (C := RX4) (T := TX4) (N := 24) hx hb hu_wsX40 (fun _ h9 => h9) hown hK hP 0 rfl rfl 2 (by decide) hw4 rfl rfl dX4_drop_21 ?_
    refine lv_iload_n hx hb dX4_drop_24 rfl (lv_at hl 1 rfl) ?_
    refine lz_iald (f := ln) hx hb hK hP 1 rfl rr (by omega) (Nat.le_of_ble_eq_true rfl) dX4_drop_25 ?_
    refine lv_if_ge (tgt := 35) hx hb dX4_drop_26 (by decide) (fun c_26 => ?_) (fun c_26 => ?_)
    · skip
      have c_26' := Int32.not_lt.mpr c_26
      refine lv_aload_n hx hb dX4_drop_35 rfl (lv_at hl 0 rfl) ?_
      refine lz_get (G := G) (ci := 4) (v := .ref (q 2)) (C := RX4) (T := TX4) (N := 24) hx hb hu_wsX40 (fun _ h9 => h9) hown hK hP 0 rfl rfl 2 (by decide) hw4 rfl rfl dX4_drop_36 ?_
      refine lv_iload_n hx hb dX4_drop_39 rfl (lv_at hl 1 rfl) ?_
      refine lv_iconst (v := (-1)) hx hb dX4_drop_40 (by decide) ?_
      refine lz_iast (f := ln) hx hb hK hP hD hS 1 rfl rr (by omega) (Nat.le_of_ble_eq_true rfl) dX4_drop_41 (lzM m q (upd (upd S 0 0) 1 0) ++ (lzI G (q 2) 8 (upd ln rr (-1)) ++ (lzI G (q 3) 8 mn))) rfl (fun H locs hP hD hS => ?_)
      refine lv_aload_n hx hb dX4_drop_42 rfl (lv_at hl 0 rfl) ?_
      refine lz_get (G := G) (ci := 4) (v := .ref (q 3)) (C := RX4) (T := TX4) (N := 24) hx hb hu_wsX40 (fun _ h9 => h9) hown hK hP 0 rfl rfl 3 (by decide) hw5 rfl rfl dX4_drop_43 ?_
      refine lv_iload_n hx hb dX4_drop_46 rfl (lv_at hl 1 rfl) ?_
      refine lz_iald (f := mn) hx hb hK hP 2 rfl rr (by omega) (Nat.le_of_ble_eq_true rfl) dX4_drop_47 ?_
      exact rw_iret (S := Unit) (G := G) (Wd := fun _ : Unit => (lzM m q (upd (upd S 0 0) 1 0) ++ (lzI G (q 2) 8 (upd ln rr (-1)) ++ (lzI G (q 3) 8 mn)))) () hx hb hr hlk dX4_drop_48 hS (hP) (rfl)
    · skip
      have c_26' := Int32.not_le.mp c_26
      exact absurd hm c_26
  · skip
    have c_9 := b2_z hr_1 c_9
    exact Bool.noConfusion (hA.symm.trans c_9)
set_option maxHeartbeats 4000000 in
set_option maxRecDepth 100000 in
theorem c_X4_feed_bad (l : Launch) (G : lzG) (m : Nat) (q : Nat → Nat) (S : Nat → Int32) (tb : Nat → Int32) (x : Int32) (hbad : inR x 0 255 = false) : Met l yX4_feed wsX4_feed ({ frames := 1, cells := 0, slots := 0, locals := 25 }) (va_Pc [.ref m, .int x] (rwP G (lzM m q S ++ lzI G (q 10) 120 tb))) (va_Qi (S := Unit) (fun (r : Int32) (_ : Unit) => r = -1000001) (rwB G (fun _ : Unit => (lzM m q (upd S 0 0) ++ lzI G (q 10) 120 tb))) (lzA (lzM m q S ++ lzI G (q 10) 120 tb))) 0 0 (lzA (lzM m q S ++ lzI G (q 10) 120 tb)) := by
  have hbL : inL x.toInt64 0 255 = false := (inL_of x 0 255).trans hbad
  refine rw_start (S := Unit) (cc := cX4_feed) (maxL := 2) (ret := (some .int)) (by decide) rfl (Nat.le_of_ble_eq_true rfl) ?_
  intro pp ee ss mm bl me cd A hx hb hr hlk hml hts hown hP hK hD hAe hS ls hl
  have hA0 : ∀ zz : Nat, lzA (lzM m q S ++ lzI G (q 10) 120 tb) zz → A zz := fun zz h9 => by rw [hAe]; exact h9
  rw [← hAe]
  clear hAe
  have hown : ss.vm.findClass RX4 = some mm.cls := hown
  have hw1 := hts (.fieldLink RX4 48 "LampSquaresModel" "thrown" "I") (List.mem_of_getElem? (i := 1) rfl)
  have hw2 := hts (.constantLong RX4 73 (255)) (List.mem_of_getElem? (i := 2) rfl)
  have hw3 := hts (.constant RX4 68 (-1000001)) (List.mem_of_getElem? (i := 3) rfl)
  have hu_wsX40 : ∀ w ∈ wsX40, w.before ([.ref m, .int x] : List Value).toArray ss = true := fun w h9 => hts w (List.mem_cons_of_mem _ (List.mem_append_right _ h9))
  have hl : lv_has ls 2 [(0, .ref m), (1, .int x)] := hl
  refine lv_aload_n hx hb dX4_feed_0 rfl (lv_at hl 0 rfl) ?_
  refine lv_iconst (v := 0) hx hb dX4_feed_1 (by decide) ?_
  refine lz_put (G := G) (ci := 4) (C := RX4) (T := TX4) (N := 24) hx hb hu_wsX40 (fun _ h9 => h9) tyX4 tyX4_ok nmX4 hown hK hP hD hS 0 rfl rfl 0 (by decide) hw1 rfl rfl (by decide +kernel) (Nat.le_of_ble_eq_true rfl) dX4_feed_2 (lzM m q (upd S 0 0) ++ lzI G (q 10) 120 tb) rfl (fun H locs hP hD hS => ?_)
  refine lv_iload_n hx hb dX4_feed_5 rfl (lv_at hl 1 rfl) ?_
  refine lv_i2l hx hb dX4_feed_6 rfl ?_
  refine lv_lconst (v := 0) hx hb dX4_feed_7 (by decide) ?_
  refine lv_ldc2 hx hb hown hw2 dX4_feed_8 ?_
  refine ro_calli (va_runS (As := [.long x.toInt64, .long 0, .long 255]) (rest := []) ⟨hx, hb, hml, hown, hts⟩ (c_X4_in l G x.toInt64 0 255 ) (cwS 3 hts gX4_feed_X4_in rfl rfl rfl (by decide +kernel) ⟨Nat.le_of_ble_eq_true rfl, Nat.le_of_ble_eq_true rfl⟩) (ro_pre hK (fun k q h => by simp at h)) rfl rfl hl.1 rfl (lv_room (Nat.le_of_ble_eq_true rfl)) dX4_feed_11 ⟨Nat.zero_le _, Nat.zero_le _⟩) (fun r_1 hr_1 => ?_)
  refine lv_if_ne (tgt := 20) hx hb dX4_feed_14 (by decide) (fun c_14 => ?_) (fun c_14 => ?_)
  · skip
    have c_14 := b2_n hr_1 c_14
    exact Bool.noConfusion (hbL.symm.trans c_14)
  · skip
    have c_14 := b2_z hr_1 c_14
    refine lv_ldc hx hb hown hw3 dX4_feed_17 ?_
    exact rw_iret (S := Unit) (G := G) (Wd := fun _ : Unit => (lzM m q (upd S 0 0) ++ lzI G (q 10) 120 tb)) () hx hb hr hlk dX4_feed_19 hS (hP) (rfl)
set_option maxHeartbeats 4000000 in
set_option maxRecDepth 100000 in
theorem c_X4_feed_full (l : Launch) (G : lzG) (m : Nat) (q : Nat → Nat) (S : Nat → Int32) (tb : Nat → Int32) (x : Int32) (hx : inR x 0 255 = true) (hL : S 11 = 120) : Met l yX4_feed wsX4_feed ({ frames := 1, cells := 0, slots := 0, locals := 25 }) (va_Pc [.ref m, .int x] (rwP G (lzM m q S ++ lzI G (q 10) 120 tb))) (va_Qi (S := Unit) (fun (r : Int32) (_ : Unit) => r = -1000003) (rwB G (fun _ : Unit => (lzM m q (upd S 0 0) ++ lzI G (q 10) 120 tb))) (lzA (lzM m q S ++ lzI G (q 10) 120 tb))) 0 0 (lzA (lzM m q S ++ lzI G (q 10) 120 tb)) := by
  have hbL : inL x.toInt64 0 255 = true := (inL_of x 0 255).trans hx
  refine rw_start (S := Unit) (cc := cX4_feed) (maxL := 2) (ret := (some .int)) (by decide) rfl (Nat.le_of_ble_eq_true rfl) ?_
  intro pp ee ss mm bl me cd A hx hb hr hlk hml hts hown hP hK hD hAe hS ls hl
  have hA0 : ∀ zz : Nat, lzA (lzM m q S ++ lzI G (q 10) 120 tb) zz → A zz := fun zz h9 => by rw [hAe]; exact h9
  rw [← hAe]
  clear hAe
  have hown : ss.vm.findClass RX4 = some mm.cls := hown
  have hw1 := hts (.fieldLink RX4 48 "LampSquaresModel" "thrown" "I") (List.mem_of_getElem? (i := 1) rfl)
  have hw2 := hts (.constantLong RX4 73 (255)) (List.mem_of_getElem? (i := 2) rfl)
  have hw4 := hts (.fieldLink RX4 75 "LampSquaresModel" "taped" "I") (List.mem_of_getElem? (i := 4) rfl)
  have hw5 := hts (.constant RX4 78 (-1000003)) (List.mem_of_getElem? (i := 5) rfl)
  have hu_wsX40 : ∀ w ∈ wsX40, w.before ([.ref m, .int x] : List Value).toArray ss = true := fun w h9 => hts w (List.mem_cons_of_mem _ (List.mem_append_right _ h9))
  have hl : lv_has ls 2 [(0, .ref m), (1, .int x)] := hl
  refine lv_aload_n hx hb dX4_feed_0 rfl (lv_at hl 0 rfl) ?_
  refine lv_iconst (v := 0) hx hb dX4_feed_1 (by decide) ?_
  refine lz_put (G := G) (ci := 4) (C := RX4) (T := TX4) (N := 24) hx hb hu_wsX40 (fun _ h9 => h9) tyX4 tyX4_ok nmX4 hown hK hP hD hS 0 rfl rfl 0 (by decide) hw1 rfl rfl (by decide +kernel) (Nat.le_of_ble_eq_true rfl) dX4_feed_2 (lzM m q (upd S 0 0) ++ lzI G (q 10) 120 tb) rfl (fun H locs hP hD hS => ?_)
  refine lv_iload_n hx hb dX4_feed_5 rfl (lv_at hl 1 rfl) ?_
  refine lv_i2l hx hb dX4_feed_6 rfl ?_
  refine lv_lconst (v := 0) hx hb dX4_feed_7 (by decide) ?_
  refine lv_ldc2 hx hb hown hw2 dX4_feed_8 ?_
  refine ro_calli (va_runS (As := [.long x.toInt64, .long 0, .long 255]) (rest := []) ⟨hx, hb, hml, hown, hts⟩ (c_X4_in l G x.toInt64 0 255 ) (cwS 3 hts gX4_feed_X4_in rfl rfl rfl (by decide +kernel) ⟨Nat.le_of_ble_eq_true rfl, Nat.le_of_ble_eq_true rfl⟩) (ro_pre hK (fun k q h => by simp at h)) rfl rfl hl.1 rfl (lv_room (Nat.le_of_ble_eq_true rfl)) dX4_feed_11 ⟨Nat.zero_le _, Nat.zero_le _⟩) (fun r_1 hr_1 => ?_)
  refine lv_if_ne (tgt := 20) hx hb dX4_feed_14 (by decide) (fun c_14 => ?_) (fun c_14 => ?_)
  · skip
    have c_14 := b2_n hr_1 c_14
    refine lv_aload_n hx hb dX4_feed_20 rfl (lv_at hl 0 rfl) ?_
    refine lz_get (G := G) (ci := 4) (v := .int (S 11)) (C := RX4) (T := TX4) (N := 24) hx hb hu_wsX40 (fun _ h9 => h9) hown hK hP 0 rfl rfl 11 (by decide) hw4 rfl rfl dX4_feed_21 ?_
    refine lv_bipush (v := 120) hx hb dX4_feed_24 (by decide) ?_
    refine lv_icmp_ne (tgt := 32) hx hb dX4_feed_26 (by decide) (fun c_26 => ?_) (fun c_26 => ?_)
    · skip
      exact absurd hL c_26
    · skip
      refine lv_ldc hx hb hown hw5 dX4_feed_29 ?_
      exact rw_iret (S := Unit) (G := G) (Wd := fun _ : Unit => (lzM m q (upd S 0 0) ++ lzI G (q 10) 120 tb)) () hx hb hr hlk dX4_feed_31 hS (hP) (rfl)
  · skip
    have c_14 := b2_z hr_1 c_14
    exact Bool.noConfusion (hbL.symm.trans c_14)
set_option maxHeartbeats 4000000 in
set_option maxRecDepth 100000 in
theorem c_X4_feed_ok (l : Launch) (G : lzG) (m : Nat) (q : Nat → Nat) (S : Nat → Int32) (tb : Nat → Int32) (x : Int32) (L : Nat) (hx : inR x 0 255 = true) (hL : S 11 = nI L) (hL1 : L < 120) : Met l yX4_feed wsX4_feed ({ frames := 1, cells := 0, slots := 0, locals := 25 }) (va_Pc [.ref m, .int x] (rwP G (lzM m q S ++ lzI G (q 10) 120 tb))) (va_Qi (S := Unit) (fun (r : Int32) (_ : Unit) => r = nI (L + 1)) (rwB G (fun _ : Unit => (lzM m q (upd (upd S 0 0) 11 (nI (L + 1))) ++ lzI G (q 10) 120 (upd tb L x)))) (lzA (lzM m q S ++ lzI G (q 10) 120 tb))) 0 0 (lzA (lzM m q S ++ lzI G (q 10) 120 tb)) := by
  have hbL : inL x.toInt64 0 255 = true := (inL_of x 0 255).trans hx
  refine rw_start (S := Unit) (cc := cX4_feed) (maxL := 2) (ret := (some .int)) (by decide) rfl (Nat.le_of_ble_eq_true rfl) ?_
  intro pp ee ss mm bl me cd A hx hb hr hlk hml hts hown hP hK hD hAe hS ls hl
  have hA0 : ∀ zz : Nat, lzA (lzM m q S ++ lzI G (q 10) 120 tb) zz → A zz := fun zz h9 => by rw [hAe]; exact h9
  rw [← hAe]
  clear hAe
  have hown : ss.vm.findClass RX4 = some mm.cls := hown
  have hw1 := hts (.fieldLink RX4 48 "LampSquaresModel" "thrown" "I") (List.mem_of_getElem? (i := 1) rfl)
  have hw2 := hts (.constantLong RX4 73 (255)) (List.mem_of_getElem? (i := 2) rfl)
  have hw4 := hts (.fieldLink RX4 75 "LampSquaresModel" "taped" "I") (List.mem_of_getElem? (i := 4) rfl)
  have hw6 := hts (.fieldLink RX4 31 "LampSquaresModel" "tape" "[I") (List.mem_of_getElem? (i := 6) rfl)
  have hu_wsX40 : ∀ w ∈ wsX40, w.before ([.ref m, .int x] : List Value).toArray ss = true := fun w h9 => hts w (List.mem_cons_of_mem _ (List.mem_append_right _ h9))
  have hl : lv_has ls 2 [(0, .ref m), (1, .int x)] := hl
  refine lv_aload_n hx hb dX4_feed_0 rfl (lv_at hl 0 rfl) ?_
  refine lv_iconst (v := 0) hx hb dX4_feed_1 (by decide) ?_
  refine lz_put (G := G) (ci := 4) (C := RX4) (T := TX4) (N := 24) hx hb hu_wsX40 (fun _ h9 => h9) tyX4 tyX4_ok nmX4 hown hK hP hD hS 0 rfl rfl 0 (by decide) hw1 rfl rfl (by decide +kernel) (Nat.le_of_ble_eq_true rfl) dX4_feed_2 (lzM m q (upd S 0 0) ++ lzI G (q 10) 120 tb) rfl (fun H locs hP hD hS => ?_)
  refine lv_iload_n hx hb dX4_feed_5 rfl (lv_at hl 1 rfl) ?_
  refine lv_i2l hx hb dX4_feed_6 rfl ?_
  refine lv_lconst (v := 0) hx hb dX4_feed_7 (by decide) ?_
  refine lv_ldc2 hx hb hown hw2 dX4_feed_8 ?_
  refine ro_calli (va_runS (As := [.long x.toInt64, .long 0, .long 255]) (rest := []) ⟨hx, hb, hml, hown, hts⟩ (c_X4_in l G x.toInt64 0 255 ) (cwS 3 hts gX4_feed_X4_in rfl rfl rfl (by decide +kernel) ⟨Nat.le_of_ble_eq_true rfl, Nat.le_of_ble_eq_true rfl⟩) (ro_pre hK (fun k q h => by simp at h)) rfl rfl hl.1 rfl (lv_room (Nat.le_of_ble_eq_true rfl)) dX4_feed_11 ⟨Nat.zero_le _, Nat.zero_le _⟩) (fun r_1 hr_1 => ?_)
  refine lv_if_ne (tgt := 20) hx hb dX4_feed_14 (by decide) (fun c_14 => ?_) (fun c_14 => ?_)
  · skip
    have c_14 := b2_n hr_1 c_14
    refine lv_aload_n hx hb dX4_feed_20 rfl (lv_at hl 0 rfl) ?_
    refine lz_get (G := G) (ci := 4) (v := .int (S 11)) (C := RX4) (T := TX4) (N := 24) hx hb hu_wsX40 (fun _ h9 => h9) hown hK hP 0 rfl rfl 11 (by decide) hw4 rfl rfl dX4_feed_21 ?_
    refine lv_bipush (v := 120) hx hb dX4_feed_24 (by decide) ?_
    refine lv_icmp_ne (tgt := 32) hx hb dX4_feed_26 (by decide) (fun c_26 => ?_) (fun c_26 => ?_)
    · skip
      refine lv_aload_n hx hb dX4_feed_32 rfl (lv_at hl 0 rfl) ?_
      refine lz_get (G := G) (ci := 4) (v := .ref (q 10)) (C := RX4) (T := TX4) (N := 24) hx hb hu_wsX40 (fun _ h9 => h9) hown hK hP 0 rfl rfl 10 (by decide) hw6 rfl rfl dX4_feed_33 ?_
      refine lv_aload_n hx hb dX4_feed_36 rfl (lv_at hl 0 rfl) ?_
      refine lz_get (G := G) (ci := 4) (v := .int (S 11)) (C := RX4) (T := TX4) (N := 24) hx hb hu_wsX40 (fun _ h9 => h9) hown hK hP 0 rfl rfl 11 (by decide) hw4 rfl rfl dX4_feed_37 ?_
      refine lz_top (y := nI L) (hL) ?_
      refine lv_iload_n hx hb dX4_feed_40 rfl (lv_at hl 1 rfl) ?_
      refine lz_iast (f := tb) hx hb hK hP hD hS 1 rfl L (by omega) (Nat.le_of_ble_eq_true rfl) dX4_feed_41 (lzM m q (upd S 0 0) ++ lzI G (q 10) 120 (upd tb L x)) rfl (fun H locs hP hD hS => ?_)
      refine lv_aload_n hx hb dX4_feed_42 rfl (lv_at hl 0 rfl) ?_
      refine lv_dup hx hb dX4_feed_43 rfl ?_
      refine lz_get (G := G) (ci := 4) (v := .int (S 11)) (C := RX4) (T := TX4) (N := 24) hx hb hu_wsX40 (fun _ h9 => h9) hown hK hP 0 rfl rfl 11 (by decide) hw4 rfl rfl dX4_feed_44 ?_
      refine lv_iconst (v := 1) hx hb dX4_feed_47 (by decide) ?_
      refine lv_iadd hx hb dX4_feed_48 ?_
      refine lz_top (y := nI (L + 1)) (by rw [hL]; exact nI_1 L) ?_
      refine lz_put (G := G) (ci := 4) (C := RX4) (T := TX4) (N := 24) hx hb hu_wsX40 (fun _ h9 => h9) tyX4 tyX4_ok nmX4 hown hK hP hD hS 0 rfl rfl 11 (by decide) hw4 rfl rfl (by decide +kernel) (Nat.le_of_ble_eq_true rfl) dX4_feed_49 (lzM m q (upd (upd S 0 0) 11 (nI (L + 1))) ++ lzI G (q 10) 120 (upd tb L x)) rfl (fun H locs hP hD hS => ?_)
      refine lv_aload_n hx hb dX4_feed_52 rfl (lv_at hl 0 rfl) ?_
      refine lz_get (G := G) (ci := 4) (v := .int (nI (L + 1))) (C := RX4) (T := TX4) (N := 24) hx hb hu_wsX40 (fun _ h9 => h9) hown hK hP 0 rfl rfl 11 (by decide) hw4 rfl rfl dX4_feed_53 ?_
      exact rw_iret (S := Unit) (G := G) (Wd := fun _ : Unit => (lzM m q (upd (upd S 0 0) 11 (nI (L + 1))) ++ lzI G (q 10) 120 (upd tb L x))) () hx hb hr hlk dX4_feed_56 hS (hP) (rfl)
    · skip
      exact absurd ((nI_eq (by omega) (by decide)).mp (hL.symm.trans (show S 11 = nI 120 from c_26))) (by omega)
  · skip
    have c_14 := b2_z hr_1 c_14
    exact Bool.noConfusion (hbL.symm.trans c_14)
set_option maxHeartbeats 4000000 in
set_option maxRecDepth 100000 in
theorem c_X4_keep (l : Launch) (G : lzG) (m : Nat) (q : Nat → Nat) (S : Nat → Int32) (g f : Nat → Int32) (K : Nat) (hAc : S 9 = nI K) (hK24 : K ≤ 24) : Met l yX4_keep wsX4_keep ({ frames := 0, cells := 0, slots := 0, locals := 0 }) (va_Pc [.ref m] (rwP G (lzM m q S ++ (lzI G (q 8) 1536 g ++ (lzI G (q 5) 64 f))))) (va_Qv (S := Unit) (fun _ : Unit => True) (rwB G (fun _ : Unit => (lzM m q (upd S 9 (nI (kpK K + 1))) ++ (lzI G (q 8) 1536 (kpW g f K) ++ (lzI G (q 5) 64 f))))) (lzA (lzM m q S ++ (lzI G (q 8) 1536 g ++ (lzI G (q 5) 64 f))))) 0 0 (lzA (lzM m q S ++ (lzI G (q 8) 1536 g ++ (lzI G (q 5) 64 f)))) := by
  refine rw_start (S := Unit) (cc := cX4_keep) (maxL := 2) (ret := none) (by decide) rfl (Nat.le_of_ble_eq_true rfl) ?_
  intro pp ee ss mm bl me cd A hx hb hr hlk hml hts hown hP hK hD hAe hS ls hl
  have hA0 : ∀ zz : Nat, lzA (lzM m q S ++ (lzI G (q 8) 1536 g ++ (lzI G (q 5) 64 f))) zz → A zz := fun zz h9 => by rw [hAe]; exact h9
  rw [← hAe]
  clear hAe
  have hown : ss.vm.findClass RX4 = some mm.cls := hown
  have hw1 := hts (.fieldLink RX4 150 "LampSquaresModel" "acts" "I") (List.mem_of_getElem? (i := 1) rfl)
  have hw2 := hts (.fieldLink RX4 28 "LampSquaresModel" "was" "[I") (List.mem_of_getElem? (i := 2) rfl)
  have hw3 := hts (.fieldLink RX4 19 "LampSquaresModel" "door" "[I") (List.mem_of_getElem? (i := 3) rfl)
  have hu_wsX40 : ∀ w ∈ wsX40, w.before ([.ref m] : List Value).toArray ss = true := fun w h9 => hts w (List.mem_cons_of_mem _ (List.mem_append_right _ h9))
  have hl : lv_has ls 2 [(0, .ref m)] := hl
  refine lv_aload_n hx hb dX4_keep_0 rfl (lv_at hl 0 rfl) ?_
  refine lz_get (G := G) (ci := 4) (v := .int (S 9)) (C := RX4) (T := TX4) (N := 24) hx hb hu_wsX40 (fun _ h9 => h9) hown hK hP 0 rfl rfl 9 (by decide) hw1 rfl rfl dX4_keep_1 ?_
  refine lv_bipush (v := 24) hx hb dX4_keep_4 (by decide) ?_
  refine lv_icmp_ne (tgt := 49) hx hb dX4_keep_6 (by decide) (fun c_6 => ?_) (fun c_6 => ?_)
  · skip
    have hKn : ¬ K = 24 := fun h9 => c_6 (by rw [hAc, h9]; rfl)
    refine lv_iconst (v := 0) hx hb dX4_keep_49 (by decide) ?_
    refine lv_istore_n (lv' := [(1, .int 0), (0, .ref m)]) hx hb dX4_keep_50 rfl hl (by decide) rfl (fun ls hl => ?_)
    have J_51 : ∀ (n9 : Nat), ∀ (j : Nat), (j ≤ 64) → 64 - j < n9 → ∀ (H : Heap) (locs : List Loc), va_P G.1 lzC (lzM m q (upd S 9 (nI (kpK K))) ++ (lzI G (q 8) 1536 (putW (kpB g K) f (kpK K) j) ++ (lzI G (q 5) 64 f))) H → va_D A (lzM m q (upd S 9 (nI (kpK K))) ++ (lzI G (q 8) 1536 (putW (kpB g K) f (kpK K) j) ++ (lzI G (q 5) 64 f))) → va_S A ss.heap H locs → ∀ ls : Array Slot, lv_has ls 2 [(1, .int (nI j)), (0, .ref m)] → W pp l ee ({ frames := 0, cells := 0, slots := 0, locals := 0 }) ss mm ([.ref m] : List Value).toArray bl me cd H locs 0 0 (MQ bl (va_Qv (S := Unit) (fun _ : Unit => True) (rwB G (fun _ : Unit => (lzM m q (upd S 9 (nI (kpK K + 1))) ++ (lzI G (q 8) 1536 (kpW g f K) ++ (lzI G (q 5) 64 f))))) A) ([.ref m] : List Value).toArray ss 0 0 A) (F0 mm 51 ls []) := by
      intro n9
      induction n9 with
      | zero => intro j hj hn; exact absurd hn (Nat.not_lt_zero _)
      | succ n9 ih_51 =>
        intro j hj hn_51 H locs hP hD hS ls hl
        refine lv_iload_n hx hb dX4_keep_51 rfl (lv_at hl 0 rfl) ?_
        refine lv_bipush (v := 64) hx hb dX4_keep_52 (by decide) ?_
        refine lv_icmp_ge (tgt := 83) hx hb dX4_keep_54 (by decide) (fun c_54 => ?_) (fun c_54 => ?_)
        · skip
          have c_54' := Int32.not_lt.mpr c_54
          have hj2 : 64 ≤ j := lz_ge (N := 64) rfl c_54 (by omega) (by omega)
          have hj3 : j = 64 := by omega
          refine lv_aload_n hx hb dX4_keep_83 rfl (lv_at hl 1 rfl) ?_
          refine lv_dup hx hb dX4_keep_84 rfl ?_
          refine lz_get (G := G) (ci := 4) (v := .int (nI (kpK K))) (C := RX4) (T := TX4) (N := 24) hx hb hu_wsX40 (fun _ h9 => h9) hown hK hP 0 rfl rfl 9 (by decide) hw1 rfl rfl dX4_keep_85 ?_
          refine lv_iconst (v := 1) hx hb dX4_keep_88 (by decide) ?_
          refine lv_iadd hx hb dX4_keep_89 ?_
          refine lz_top (y := nI (kpK K + 1)) (nI_1 _) ?_
          refine lz_put (G := G) (ci := 4) (C := RX4) (T := TX4) (N := 24) hx hb hu_wsX40 (fun _ h9 => h9) tyX4 tyX4_ok nmX4 hown hK hP hD hS 0 rfl rfl 9 (by decide) hw1 rfl rfl (by decide +kernel) (Nat.le_of_ble_eq_true rfl) dX4_keep_90 (lzM m q (upd S 9 (nI (kpK K + 1))) ++ (lzI G (q 8) 1536 (putW (kpB g K) f (kpK K) j) ++ (lzI G (q 5) 64 f))) rfl (fun H locs hP hD hS => ?_)
          exact rw_vret (S := Unit) (G := G) (Wd := fun _ : Unit => (lzM m q (upd S 9 (nI (kpK K + 1))) ++ (lzI G (q 8) 1536 (kpW g f K) ++ (lzI G (q 5) 64 f)))) () hx hb hr hlk dX4_keep_93 hS (by rw [hj3] at hP; exact hP) (trivial)
        · skip
          have c_54' := Int32.not_le.mp c_54
          have hj2 : j < 64 := lz_lt (N := 64) rfl c_54 (by omega) (by omega)
          have hKL := kpK_lt hK24
          refine lv_aload_n hx hb dX4_keep_57 rfl (lv_at hl 1 rfl) ?_
          refine lz_get (G := G) (ci := 4) (v := .ref (q 8)) (C := RX4) (T := TX4) (N := 24) hx hb hu_wsX40 (fun _ h9 => h9) hown hK hP 0 rfl rfl 8 (by decide) hw2 rfl rfl dX4_keep_58 ?_
          refine lv_bipush (v := 64) hx hb dX4_keep_61 (by decide) ?_
          refine lv_aload_n hx hb dX4_keep_63 rfl (lv_at hl 1 rfl) ?_
          refine lz_get (G := G) (ci := 4) (v := .int (nI (kpK K))) (C := RX4) (T := TX4) (N := 24) hx hb hu_wsX40 (fun _ h9 => h9) hown hK hP 0 rfl rfl 9 (by decide) hw1 rfl rfl dX4_keep_64 ?_
          refine lv_imul hx hb dX4_keep_67 ?_
          refine lv_iload_n hx hb dX4_keep_68 rfl (lv_at hl 0 rfl) ?_
          refine lv_iadd hx hb dX4_keep_69 ?_
          refine lz_top (y := nI (64 * kpK K + j)) (by simp only [fa_lit, pk_mul, nI_add]) ?_
          refine lv_aload_n hx hb dX4_keep_70 rfl (lv_at hl 1 rfl) ?_
          refine lz_get (G := G) (ci := 4) (v := .ref (q 5)) (C := RX4) (T := TX4) (N := 24) hx hb hu_wsX40 (fun _ h9 => h9) hown hK hP 0 rfl rfl 5 (by decide) hw3 rfl rfl dX4_keep_71 ?_
          refine lv_iload_n hx hb dX4_keep_74 rfl (lv_at hl 0 rfl) ?_
          refine lz_iald (f := f) hx hb hK hP 2 rfl j (by omega) (Nat.le_of_ble_eq_true rfl) dX4_keep_75 ?_
          refine lz_iast (f := putW (kpB g K) f (kpK K) j) hx hb hK hP hD hS 1 rfl (64 * kpK K + j) (by omega) (Nat.le_of_ble_eq_true rfl) dX4_keep_76 (lzM m q (upd S 9 (nI (kpK K))) ++ (lzI G (q 8) 1536 (upd (putW (kpB g K) f (kpK K) j) (64 * kpK K + j) (f j)) ++ (lzI G (q 5) 64 f))) rfl (fun H locs hP hD hS => ?_)
          refine lv_iinc (v := nI (j + 1)) (lv' := [(1, .int (nI (j + 1))), (0, .ref m)]) hx hb dX4_keep_77 hl (k := 0) rfl (nI_1 _) (by decide) rfl (fun ls hl => ?_)
          refine lv_goto (tgt := 51) hx hb dX4_keep_80 (by decide) ?_
          have hE_1 : upd (putW (kpB g K) f (kpK K) j) (64 * kpK K + j) (f j) = putW (kpB g K) f (kpK K) (j + 1) := putW_s _ _ _ _
          replace hP : va_P G.1 lzC (lzM m q (upd S 9 (nI (kpK K))) ++ (lzI G (q 8) 1536 (putW (kpB g K) f (kpK K) (j + 1)) ++ (lzI G (q 5) 64 f))) H := by rw [← hE_1]; exact hP
          replace hD : va_D A (lzM m q (upd S 9 (nI (kpK K))) ++ (lzI G (q 8) 1536 (putW (kpB g K) f (kpK K) (j + 1)) ++ (lzI G (q 5) 64 f))) := by rw [← hE_1]; exact hD
          exact ih_51 (j + 1) (by omega) (by omega) _ _ hP hD hS _ (lv_sub hl [0, 1] rfl)
    have hE_2 : S 9 = nI (kpK K) := by unfold kpK; first | (rw [if_neg hKn]; exact hAc) | (rw [if_pos hKe, hAc, hKe]; rfl)
    have hE_3 : g = putW (kpB g K) f (kpK K) 0 := by rw [putW_0]; unfold kpB; first | rw [if_neg hKn] | (rw [if_pos hKe, ← hk3])
    replace hP : va_P G.1 lzC (lzM m q (upd S 9 (nI (kpK K))) ++ (lzI G (q 8) 1536 (putW (kpB g K) f (kpK K) 0) ++ (lzI G (q 5) 64 f))) ss.heap := by rw [← hE_2, ← hE_3]; exact hP
    replace hD : va_D A (lzM m q (upd S 9 (nI (kpK K))) ++ (lzI G (q 8) 1536 (putW (kpB g K) f (kpK K) 0) ++ (lzI G (q 5) 64 f))) := by rw [← hE_2, ← hE_3]; exact hD
    exact J_51 _ 0 (by omega) (Nat.lt_succ_self _) _ _ hP hD hS _ (lv_sub hl [0, 1] rfl)
  · skip
    have hKe : K = 24 := (nI_eq (by omega) (by decide)).mp (hAc.symm.trans (show S 9 = nI 24 from c_6))
    refine lv_iconst (v := 0) hx hb dX4_keep_9 (by decide) ?_
    refine lv_istore_n (lv' := [(1, .int 0), (0, .ref m)]) hx hb dX4_keep_10 rfl hl (by decide) rfl (fun ls hl => ?_)
    have J_11 : ∀ (n9 : Nat), ∀ (k : Nat), (k ≤ 1472) → (K = 24) → 1472 - k < n9 → ∀ (H : Heap) (locs : List Loc), va_P G.1 lzC (lzM m q S ++ (lzI G (q 8) 1536 (shW g k) ++ (lzI G (q 5) 64 f))) H → va_D A (lzM m q S ++ (lzI G (q 8) 1536 (shW g k) ++ (lzI G (q 5) 64 f))) → va_S A ss.heap H locs → ∀ ls : Array Slot, lv_has ls 2 [(1, .int (nI k)), (0, .ref m)] → W pp l ee ({ frames := 0, cells := 0, slots := 0, locals := 0 }) ss mm ([.ref m] : List Value).toArray bl me cd H locs 0 0 (MQ bl (va_Qv (S := Unit) (fun _ : Unit => True) (rwB G (fun _ : Unit => (lzM m q (upd S 9 (nI (kpK K + 1))) ++ (lzI G (q 8) 1536 (kpW g f K) ++ (lzI G (q 5) 64 f))))) A) ([.ref m] : List Value).toArray ss 0 0 A) (F0 mm 11 ls []) := by
      intro n9
      induction n9 with
      | zero => intro k hk hKe hn; exact absurd hn (Nat.not_lt_zero _)
      | succ n9 ih_11 =>
        intro k hk hKe hn_11 H locs hP hD hS ls hl
        refine lv_iload_n hx hb dX4_keep_11 rfl (lv_at hl 0 rfl) ?_
        refine lv_sipush (v := 1472) hx hb dX4_keep_12 (by decide) ?_
        refine lv_icmp_ge (tgt := 39) hx hb dX4_keep_15 (by decide) (fun c_15 => ?_) (fun c_15 => ?_)
        · skip
          have c_15' := Int32.not_lt.mpr c_15
          have hk2 : 1472 ≤ k := lz_ge (N := 1472) rfl c_15 (by omega) (by omega)
          have hk3 : k = 1472 := by omega
          refine lv_aload_n hx hb dX4_keep_39 rfl (lv_at hl 1 rfl) ?_
          refine lv_dup hx hb dX4_keep_40 rfl ?_
          refine lz_get (G := G) (ci := 4) (v := .int (S 9)) (C := RX4) (T := TX4) (N := 24) hx hb hu_wsX40 (fun _ h9 => h9) hown hK hP 0 rfl rfl 9 (by decide) hw1 rfl rfl dX4_keep_41 ?_
          refine lv_iconst (v := 1) hx hb dX4_keep_44 (by decide) ?_
          refine lv_isub hx hb dX4_keep_45 ?_
          refine lz_put (G := G) (ci := 4) (C := RX4) (T := TX4) (N := 24) hx hb hu_wsX40 (fun _ h9 => h9) tyX4 tyX4_ok nmX4 hown hK hP hD hS 0 rfl rfl 9 (by decide) hw1 rfl rfl (by decide +kernel) (Nat.le_of_ble_eq_true rfl) dX4_keep_46 (lzM m q (upd S 9 ((S 9) - 1)) ++ (lzI G (q 8) 1536 (shW g k) ++ (lzI G (q 5) 64 f))) rfl (fun H locs hP hD hS => ?_)
          refine lv_iconst (v := 0) hx hb dX4_keep_49 (by decide) ?_
          refine lv_istore_n (lv' := [(1, .int 0), (0, .ref m)]) hx hb dX4_keep_50 rfl hl (by decide) rfl (fun ls hl => ?_)
          have J_51 : ∀ (n9 : Nat), ∀ (j : Nat), (j ≤ 64) → 64 - j < n9 → ∀ (H : Heap) (locs : List Loc), va_P G.1 lzC (lzM m q (upd S 9 (nI (kpK K))) ++ (lzI G (q 8) 1536 (putW (kpB g K) f (kpK K) j) ++ (lzI G (q 5) 64 f))) H → va_D A (lzM m q (upd S 9 (nI (kpK K))) ++ (lzI G (q 8) 1536 (putW (kpB g K) f (kpK K) j) ++ (lzI G (q 5) 64 f))) → va_S A ss.heap H locs → ∀ ls : Array Slot, lv_has ls 2 [(1, .int (nI j)), (0, .ref m)] → W pp l ee ({ frames := 0, cells := 0, slots := 0, locals := 0 }) ss mm ([.ref m] : List Value).toArray bl me cd H locs 0 0 (MQ bl (va_Qv (S := Unit) (fun _ : Unit => True) (rwB G (fun _ : Unit => (lzM m q (upd S 9 (nI (kpK K + 1))) ++ (lzI G (q 8) 1536 (kpW g f K) ++ (lzI G (q 5) 64 f))))) A) ([.ref m] : List Value).toArray ss 0 0 A) (F0 mm 51 ls []) := by
            intro n9
            induction n9 with
            | zero => intro j hj hn; exact absurd hn (Nat.not_lt_zero _)
            | succ n9 ih_51 =>
              intro j hj hn_51 H locs hP hD hS ls hl
              refine lv_iload_n hx hb dX4_keep_51 rfl (lv_at hl 0 rfl) ?_
              refine lv_bipush (v := 64) hx hb dX4_keep_52 (by decide) ?_
              refine lv_icmp_ge (tgt := 83) hx hb dX4_keep_54 (by decide) (fun c_54 => ?_) (fun c_54 => ?_)
              · skip
                have c_54' := Int32.not_lt.mpr c_54
                have hj2 : 64 ≤ j := lz_ge (N := 64) rfl c_54 (by omega) (by omega)
                have hj3 : j = 64 := by omega
                refine lv_aload_n hx hb dX4_keep_83 rfl (lv_at hl 1 rfl) ?_
                refine lv_dup hx hb dX4_keep_84 rfl ?_
                refine lz_get (G := G) (ci := 4) (v := .int (nI (kpK K))) (C := RX4) (T := TX4) (N := 24) hx hb hu_wsX40 (fun _ h9 => h9) hown hK hP 0 rfl rfl 9 (by decide) hw1 rfl rfl dX4_keep_85 ?_
                refine lv_iconst (v := 1) hx hb dX4_keep_88 (by decide) ?_
                refine lv_iadd hx hb dX4_keep_89 ?_
                refine lz_top (y := nI (kpK K + 1)) (nI_1 _) ?_
                refine lz_put (G := G) (ci := 4) (C := RX4) (T := TX4) (N := 24) hx hb hu_wsX40 (fun _ h9 => h9) tyX4 tyX4_ok nmX4 hown hK hP hD hS 0 rfl rfl 9 (by decide) hw1 rfl rfl (by decide +kernel) (Nat.le_of_ble_eq_true rfl) dX4_keep_90 (lzM m q (upd S 9 (nI (kpK K + 1))) ++ (lzI G (q 8) 1536 (putW (kpB g K) f (kpK K) j) ++ (lzI G (q 5) 64 f))) rfl (fun H locs hP hD hS => ?_)
                exact rw_vret (S := Unit) (G := G) (Wd := fun _ : Unit => (lzM m q (upd S 9 (nI (kpK K + 1))) ++ (lzI G (q 8) 1536 (kpW g f K) ++ (lzI G (q 5) 64 f)))) () hx hb hr hlk dX4_keep_93 hS (by rw [hj3] at hP; exact hP) (trivial)
              · skip
                have c_54' := Int32.not_le.mp c_54
                have hj2 : j < 64 := lz_lt (N := 64) rfl c_54 (by omega) (by omega)
                have hKL := kpK_lt hK24
                refine lv_aload_n hx hb dX4_keep_57 rfl (lv_at hl 1 rfl) ?_
                refine lz_get (G := G) (ci := 4) (v := .ref (q 8)) (C := RX4) (T := TX4) (N := 24) hx hb hu_wsX40 (fun _ h9 => h9) hown hK hP 0 rfl rfl 8 (by decide) hw2 rfl rfl dX4_keep_58 ?_
                refine lv_bipush (v := 64) hx hb dX4_keep_61 (by decide) ?_
                refine lv_aload_n hx hb dX4_keep_63 rfl (lv_at hl 1 rfl) ?_
                refine lz_get (G := G) (ci := 4) (v := .int (nI (kpK K))) (C := RX4) (T := TX4) (N := 24) hx hb hu_wsX40 (fun _ h9 => h9) hown hK hP 0 rfl rfl 9 (by decide) hw1 rfl rfl dX4_keep_64 ?_
                refine lv_imul hx hb dX4_keep_67 ?_
                refine lv_iload_n hx hb dX4_keep_68 rfl (lv_at hl 0 rfl) ?_
                refine lv_iadd hx hb dX4_keep_69 ?_
                refine lz_top (y := nI (64 * kpK K + j)) (by simp only [fa_lit, pk_mul, nI_add]) ?_
                refine lv_aload_n hx hb dX4_keep_70 rfl (lv_at hl 1 rfl) ?_
                refine lz_get (G := G) (ci := 4) (v := .ref (q 5)) (C := RX4) (T := TX4) (N := 24) hx hb hu_wsX40 (fun _ h9 => h9) hown hK hP 0 rfl rfl 5 (by decide) hw3 rfl rfl dX4_keep_71 ?_
                refine lv_iload_n hx hb dX4_keep_74 rfl (lv_at hl 0 rfl) ?_
                refine lz_iald (f := f) hx hb hK hP 2 rfl j (by omega) (Nat.le_of_ble_eq_true rfl) dX4_keep_75 ?_
                refine lz_iast (f := putW (kpB g K) f (kpK K) j) hx hb hK hP hD hS 1 rfl (64 * kpK K + j) (by omega) (Nat.le_of_ble_eq_true rfl) dX4_keep_76 (lzM m q (upd S 9 (nI (kpK K))) ++ (lzI G (q 8) 1536 (upd (putW (kpB g K) f (kpK K) j) (64 * kpK K + j) (f j)) ++ (lzI G (q 5) 64 f))) rfl (fun H locs hP hD hS => ?_)
                refine lv_iinc (v := nI (j + 1)) (lv' := [(1, .int (nI (j + 1))), (0, .ref m)]) hx hb dX4_keep_77 hl (k := 0) rfl (nI_1 _) (by decide) rfl (fun ls hl => ?_)
                refine lv_goto (tgt := 51) hx hb dX4_keep_80 (by decide) ?_
                have hE_4 : upd (putW (kpB g K) f (kpK K) j) (64 * kpK K + j) (f j) = putW (kpB g K) f (kpK K) (j + 1) := putW_s _ _ _ _
                replace hP : va_P G.1 lzC (lzM m q (upd S 9 (nI (kpK K))) ++ (lzI G (q 8) 1536 (putW (kpB g K) f (kpK K) (j + 1)) ++ (lzI G (q 5) 64 f))) H := by rw [← hE_4]; exact hP
                replace hD : va_D A (lzM m q (upd S 9 (nI (kpK K))) ++ (lzI G (q 8) 1536 (putW (kpB g K) f (kpK K) (j + 1)) ++ (lzI G (q 5) 64 f))) := by rw [← hE_4]; exact hD
                exact ih_51 (j + 1) (by omega) (by omega) _ _ hP hD hS _ (lv_sub hl [0, 1] rfl)
          have hE_5 : (S 9) - 1 = nI (kpK K) := by unfold kpK; first | (rw [if_neg hKn]; exact hAc) | (rw [if_pos hKe, hAc, hKe]; rfl)
          have hE_6 : shW g k = putW (kpB g K) f (kpK K) 0 := by rw [putW_0]; unfold kpB; first | rw [if_neg hKn] | (rw [if_pos hKe, ← hk3])
          replace hP : va_P G.1 lzC (lzM m q (upd S 9 (nI (kpK K))) ++ (lzI G (q 8) 1536 (putW (kpB g K) f (kpK K) 0) ++ (lzI G (q 5) 64 f))) H := by rw [← hE_5, ← hE_6]; exact hP
          replace hD : va_D A (lzM m q (upd S 9 (nI (kpK K))) ++ (lzI G (q 8) 1536 (putW (kpB g K) f (kpK K) 0) ++ (lzI G (q 5) 64 f))) := by rw [← hE_5, ← hE_6]; exact hD
          exact J_51 _ 0 (by omega) (Nat.lt_succ_self _) _ _ hP hD hS _ (lv_sub hl [0, 1] rfl)
        · skip
          have c_15' := Int32.not_le.mp c_15
          have hk2 : k < 1472 := lz_lt (N := 1472) rfl c_15 (by omega) (by omega)
          refine lv_aload_n hx hb dX4_keep_18 rfl (lv_at hl 1 rfl) ?_
          refine lz_get (G := G) (ci := 4) (v := .ref (q 8)) (C := RX4) (T := TX4) (N := 24) hx hb hu_wsX40 (fun _ h9 => h9) hown hK hP 0 rfl rfl 8 (by decide) hw2 rfl rfl dX4_keep_19 ?_
          refine lv_iload_n hx hb dX4_keep_22 rfl (lv_at hl 0 rfl) ?_
          refine lv_aload_n hx hb dX4_keep_23 rfl (lv_at hl 1 rfl) ?_
          refine lz_get (G := G) (ci := 4) (v := .ref (q 8)) (C := RX4) (T := TX4) (N := 24) hx hb hu_wsX40 (fun _ h9 => h9) hown hK hP 0 rfl rfl 8 (by decide) hw2 rfl rfl dX4_keep_24 ?_
          refine lv_iload_n hx hb dX4_keep_27 rfl (lv_at hl 0 rfl) ?_
          refine lv_bipush (v := 64) hx hb dX4_keep_28 (by decide) ?_
          refine lv_iadd hx hb dX4_keep_30 ?_
          refine lz_top (y := nI (k + 64)) (by simp only [fa_lit, nI_add]) ?_
          refine lz_iald (f := shW g k) hx hb hK hP 1 rfl (k + 64) (by omega) (Nat.le_of_ble_eq_true rfl) dX4_keep_31 ?_
          refine lz_iast (f := shW g k) hx hb hK hP hD hS 1 rfl k (by omega) (Nat.le_of_ble_eq_true rfl) dX4_keep_32 (lzM m q S ++ (lzI G (q 8) 1536 (upd (shW g k) k ((shW g k) (k + 64))) ++ (lzI G (q 5) 64 f))) rfl (fun H locs hP hD hS => ?_)
          refine lv_iinc (v := nI (k + 1)) (lv' := [(1, .int (nI (k + 1))), (0, .ref m)]) hx hb dX4_keep_33 hl (k := 0) rfl (nI_1 _) (by decide) rfl (fun ls hl => ?_)
          refine lv_goto (tgt := 11) hx hb dX4_keep_36 (by decide) ?_
          have hE_7 : upd (shW g k) k ((shW g k) (k + 64)) = shW g (k + 1) := shW_s g k
          replace hP : va_P G.1 lzC (lzM m q S ++ (lzI G (q 8) 1536 (shW g (k + 1)) ++ (lzI G (q 5) 64 f))) H := by rw [← hE_7]; exact hP
          replace hD : va_D A (lzM m q S ++ (lzI G (q 8) 1536 (shW g (k + 1)) ++ (lzI G (q 5) 64 f))) := by rw [← hE_7]; exact hD
          exact ih_11 (k + 1) (by omega) (hKe) (by omega) _ _ hP hD hS _ (lv_sub hl [0, 1] rfl)
    have hE_8 : g = shW g 0 := (shW_0 _).symm
    replace hP : va_P G.1 lzC (lzM m q S ++ (lzI G (q 8) 1536 (shW g 0) ++ (lzI G (q 5) 64 f))) ss.heap := by rw [← hE_8]; exact hP
    replace hD : va_D A (lzM m q S ++ (lzI G (q 8) 1536 (shW g 0) ++ (lzI G (q 5) 64 f))) := by rw [← hE_8]; exact hD
    exact J_11 _ 0 (by omega) (hKe) (Nat.lt_succ_self _) _ _ hP hD hS _ (lv_sub hl [0, 1] rfl)
set_option maxHeartbeats 4000000 in
set_option maxRecDepth 100000 in
theorem c_X4_undo_state (l : Launch) (G : lzG) (m : Nat) (q : Nat → Nat) (S : Nat → Int32) (g f : Nat → Int32) (hAc : S 9 = 0) : Met l yX4_undo wsX4_undo ({ frames := 0, cells := 0, slots := 0, locals := 0 }) (va_Pc [.ref m] (rwP G (lzM m q S ++ (lzI G (q 8) 1536 g ++ (lzI G (q 5) 64 f))))) (va_Qi (S := Unit) (fun (r : Int32) (_ : Unit) => r = -1000002) (rwB G (fun _ : Unit => (lzM m q (upd S 0 0) ++ (lzI G (q 8) 1536 g ++ (lzI G (q 5) 64 f))))) (lzA (lzM m q S ++ (lzI G (q 8) 1536 g ++ (lzI G (q 5) 64 f))))) 0 0 (lzA (lzM m q S ++ (lzI G (q 8) 1536 g ++ (lzI G (q 5) 64 f)))) := by
  refine rw_start (S := Unit) (cc := cX4_undo) (maxL := 2) (ret := (some .int)) (by decide) rfl (Nat.le_of_ble_eq_true rfl) ?_
  intro pp ee ss mm bl me cd A hx hb hr hlk hml hts hown hP hK hD hAe hS ls hl
  have hA0 : ∀ zz : Nat, lzA (lzM m q S ++ (lzI G (q 8) 1536 g ++ (lzI G (q 5) 64 f))) zz → A zz := fun zz h9 => by rw [hAe]; exact h9
  rw [← hAe]
  clear hAe
  have hown : ss.vm.findClass RX4 = some mm.cls := hown
  have hw1 := hts (.fieldLink RX4 48 "LampSquaresModel" "thrown" "I") (List.mem_of_getElem? (i := 1) rfl)
  have hw2 := hts (.fieldLink RX4 150 "LampSquaresModel" "acts" "I") (List.mem_of_getElem? (i := 2) rfl)
  have hw3 := hts (.constant RX4 204 (-1000002)) (List.mem_of_getElem? (i := 3) rfl)
  have hu_wsX40 : ∀ w ∈ wsX40, w.before ([.ref m] : List Value).toArray ss = true := fun w h9 => hts w (List.mem_cons_of_mem _ (List.mem_append_right _ h9))
  have hl : lv_has ls 2 [(0, .ref m)] := hl
  refine lv_aload_n hx hb dX4_undo_0 rfl (lv_at hl 0 rfl) ?_
  refine lv_iconst (v := 0) hx hb dX4_undo_1 (by decide) ?_
  refine lz_put (G := G) (ci := 4) (C := RX4) (T := TX4) (N := 24) hx hb hu_wsX40 (fun _ h9 => h9) tyX4 tyX4_ok nmX4 hown hK hP hD hS 0 rfl rfl 0 (by decide) hw1 rfl rfl (by decide +kernel) (Nat.le_of_ble_eq_true rfl) dX4_undo_2 (lzM m q (upd S 0 0) ++ (lzI G (q 8) 1536 g ++ (lzI G (q 5) 64 f))) rfl (fun H locs hP hD hS => ?_)
  refine lv_aload_n hx hb dX4_undo_5 rfl (lv_at hl 0 rfl) ?_
  refine lz_get (G := G) (ci := 4) (v := .int (S 9)) (C := RX4) (T := TX4) (N := 24) hx hb hu_wsX40 (fun _ h9 => h9) hown hK hP 0 rfl rfl 9 (by decide) hw2 rfl rfl dX4_undo_6 ?_
  refine lv_if_ne (tgt := 15) hx hb dX4_undo_9 (by decide) (fun c_9 => ?_) (fun c_9 => ?_)
  · skip
    exact absurd hAc c_9
  · skip
    refine lv_ldc hx hb hown hw3 dX4_undo_12 ?_
    exact rw_iret (S := Unit) (G := G) (Wd := fun _ : Unit => (lzM m q (upd S 0 0) ++ (lzI G (q 8) 1536 g ++ (lzI G (q 5) 64 f)))) () hx hb hr hlk dX4_undo_14 hS (hP) (rfl)
set_option maxHeartbeats 4000000 in
set_option maxRecDepth 100000 in
theorem c_X4_undo_ok (l : Launch) (G : lzG) (m : Nat) (q : Nat → Nat) (S : Nat → Int32) (g f : Nat → Int32) (K : Nat) (hAc : S 9 = nI K) (hK24 : K ≤ 24) (hK1 : 1 ≤ K) : Met l yX4_undo wsX4_undo ({ frames := 0, cells := 0, slots := 0, locals := 0 }) (va_Pc [.ref m] (rwP G (lzM m q S ++ (lzI G (q 8) 1536 g ++ (lzI G (q 5) 64 f))))) (va_Qi (S := Unit) (fun (r : Int32) (_ : Unit) => r = nI (K - 1)) (rwB G (fun _ : Unit => (lzM m q (upd (upd S 0 0) 9 (nI (K - 1))) ++ (lzI G (q 8) 1536 g ++ (lzI G (q 5) 64 (undF g f (K - 1) 64)))))) (lzA (lzM m q S ++ (lzI G (q 8) 1536 g ++ (lzI G (q 5) 64 f))))) 0 0 (lzA (lzM m q S ++ (lzI G (q 8) 1536 g ++ (lzI G (q 5) 64 f)))) := by
  refine rw_start (S := Unit) (cc := cX4_undo) (maxL := 2) (ret := (some .int)) (by decide) rfl (Nat.le_of_ble_eq_true rfl) ?_
  intro pp ee ss mm bl me cd A hx hb hr hlk hml hts hown hP hK hD hAe hS ls hl
  have hA0 : ∀ zz : Nat, lzA (lzM m q S ++ (lzI G (q 8) 1536 g ++ (lzI G (q 5) 64 f))) zz → A zz := fun zz h9 => by rw [hAe]; exact h9
  rw [← hAe]
  clear hAe
  have hown : ss.vm.findClass RX4 = some mm.cls := hown
  have hw1 := hts (.fieldLink RX4 48 "LampSquaresModel" "thrown" "I") (List.mem_of_getElem? (i := 1) rfl)
  have hw2 := hts (.fieldLink RX4 150 "LampSquaresModel" "acts" "I") (List.mem_of_getElem? (i := 2) rfl)
  have hw4 := hts (.fieldLink RX4 19 "LampSquaresModel" "door" "[I") (List.mem_of_getElem? (i := 4) rfl)
  have hw5 := hts (.fieldLink RX4 28 "LampSquaresModel" "was" "[I") (List.mem_of_getElem? (i := 5) rfl)
  have hu_wsX40 : ∀ w ∈ wsX40, w.before ([.ref m] : List Value).toArray ss = true := fun w h9 => hts w (List.mem_cons_of_mem _ (List.mem_append_right _ h9))
  have hl : lv_has ls 2 [(0, .ref m)] := hl
  refine lv_aload_n hx hb dX4_undo_0 rfl (lv_at hl 0 rfl) ?_
  refine lv_iconst (v := 0) hx hb dX4_undo_1 (by decide) ?_
  refine lz_put (G := G) (ci := 4) (C := RX4) (T := TX4) (N := 24) hx hb hu_wsX40 (fun _ h9 => h9) tyX4 tyX4_ok nmX4 hown hK hP hD hS 0 rfl rfl 0 (by decide) hw1 rfl rfl (by decide +kernel) (Nat.le_of_ble_eq_true rfl) dX4_undo_2 (lzM m q (upd S 0 0) ++ (lzI G (q 8) 1536 g ++ (lzI G (q 5) 64 f))) rfl (fun H locs hP hD hS => ?_)
  refine lv_aload_n hx hb dX4_undo_5 rfl (lv_at hl 0 rfl) ?_
  refine lz_get (G := G) (ci := 4) (v := .int (S 9)) (C := RX4) (T := TX4) (N := 24) hx hb hu_wsX40 (fun _ h9 => h9) hown hK hP 0 rfl rfl 9 (by decide) hw2 rfl rfl dX4_undo_6 ?_
  refine lv_if_ne (tgt := 15) hx hb dX4_undo_9 (by decide) (fun c_9 => ?_) (fun c_9 => ?_)
  · skip
    refine lv_aload_n hx hb dX4_undo_15 rfl (lv_at hl 0 rfl) ?_
    refine lv_dup hx hb dX4_undo_16 rfl ?_
    refine lz_get (G := G) (ci := 4) (v := .int (S 9)) (C := RX4) (T := TX4) (N := 24) hx hb hu_wsX40 (fun _ h9 => h9) hown hK hP 0 rfl rfl 9 (by decide) hw2 rfl rfl dX4_undo_17 ?_
    refine lv_iconst (v := 1) hx hb dX4_undo_20 (by decide) ?_
    refine lv_isub hx hb dX4_undo_21 ?_
    refine lz_top (y := nI (K - 1)) (by rw [hAc]; exact pk_sub (b := 1) hK1) ?_
    refine lz_put (G := G) (ci := 4) (C := RX4) (T := TX4) (N := 24) hx hb hu_wsX40 (fun _ h9 => h9) tyX4 tyX4_ok nmX4 hown hK hP hD hS 0 rfl rfl 9 (by decide) hw2 rfl rfl (by decide +kernel) (Nat.le_of_ble_eq_true rfl) dX4_undo_22 (lzM m q (upd (upd S 0 0) 9 (nI (K - 1))) ++ (lzI G (q 8) 1536 g ++ (lzI G (q 5) 64 f))) rfl (fun H locs hP hD hS => ?_)
    refine lv_iconst (v := 0) hx hb dX4_undo_25 (by decide) ?_
    refine lv_istore_n (lv' := [(1, .int 0), (0, .ref m)]) hx hb dX4_undo_26 rfl hl (by decide) rfl (fun ls hl => ?_)
    have J_27 : ∀ (n9 : Nat), ∀ (j : Nat), (j ≤ 64) → 64 - j < n9 → ∀ (H : Heap) (locs : List Loc), va_P G.1 lzC (lzM m q (upd (upd S 0 0) 9 (nI (K - 1))) ++ (lzI G (q 8) 1536 g ++ (lzI G (q 5) 64 (undF g f (K - 1) j)))) H → va_D A (lzM m q (upd (upd S 0 0) 9 (nI (K - 1))) ++ (lzI G (q 8) 1536 g ++ (lzI G (q 5) 64 (undF g f (K - 1) j)))) → va_S A ss.heap H locs → ∀ ls : Array Slot, lv_has ls 2 [(1, .int (nI j)), (0, .ref m)] → W pp l ee ({ frames := 0, cells := 0, slots := 0, locals := 0 }) ss mm ([.ref m] : List Value).toArray bl me cd H locs 0 0 (MQ bl (va_Qi (S := Unit) (fun (r : Int32) (_ : Unit) => r = nI (K - 1)) (rwB G (fun _ : Unit => (lzM m q (upd (upd S 0 0) 9 (nI (K - 1))) ++ (lzI G (q 8) 1536 g ++ (lzI G (q 5) 64 (undF g f (K - 1) 64)))))) A) ([.ref m] : List Value).toArray ss 0 0 A) (F0 mm 27 ls []) := by
      intro n9
      induction n9 with
      | zero => intro j hj hn; exact absurd hn (Nat.not_lt_zero _)
      | succ n9 ih_27 =>
        intro j hj hn_27 H locs hP hD hS ls hl
        refine lv_iload_n hx hb dX4_undo_27 rfl (lv_at hl 0 rfl) ?_
        refine lv_bipush (v := 64) hx hb dX4_undo_28 (by decide) ?_
        refine lv_icmp_ge (tgt := 59) hx hb dX4_undo_30 (by decide) (fun c_30 => ?_) (fun c_30 => ?_)
        · skip
          have c_30' := Int32.not_lt.mpr c_30
          have hj2 : 64 ≤ j := lz_ge (N := 64) rfl c_30 (by omega) (by omega)
          have hj3 : j = 64 := by omega
          refine lv_aload_n hx hb dX4_undo_59 rfl (lv_at hl 1 rfl) ?_
          refine lz_get (G := G) (ci := 4) (v := .int (nI (K - 1))) (C := RX4) (T := TX4) (N := 24) hx hb hu_wsX40 (fun _ h9 => h9) hown hK hP 0 rfl rfl 9 (by decide) hw2 rfl rfl dX4_undo_60 ?_
          exact rw_iret (S := Unit) (G := G) (Wd := fun _ : Unit => (lzM m q (upd (upd S 0 0) 9 (nI (K - 1))) ++ (lzI G (q 8) 1536 g ++ (lzI G (q 5) 64 (undF g f (K - 1) 64))))) () hx hb hr hlk dX4_undo_63 hS (by rw [hj3] at hP; exact hP) (rfl)
        · skip
          have c_30' := Int32.not_le.mp c_30
          have hj2 : j < 64 := lz_lt (N := 64) rfl c_30 (by omega) (by omega)
          refine lv_aload_n hx hb dX4_undo_33 rfl (lv_at hl 1 rfl) ?_
          refine lz_get (G := G) (ci := 4) (v := .ref (q 5)) (C := RX4) (T := TX4) (N := 24) hx hb hu_wsX40 (fun _ h9 => h9) hown hK hP 0 rfl rfl 5 (by decide) hw4 rfl rfl dX4_undo_34 ?_
          refine lv_iload_n hx hb dX4_undo_37 rfl (lv_at hl 0 rfl) ?_
          refine lv_aload_n hx hb dX4_undo_38 rfl (lv_at hl 1 rfl) ?_
          refine lz_get (G := G) (ci := 4) (v := .ref (q 8)) (C := RX4) (T := TX4) (N := 24) hx hb hu_wsX40 (fun _ h9 => h9) hown hK hP 0 rfl rfl 8 (by decide) hw5 rfl rfl dX4_undo_39 ?_
          refine lv_bipush (v := 64) hx hb dX4_undo_42 (by decide) ?_
          refine lv_aload_n hx hb dX4_undo_44 rfl (lv_at hl 1 rfl) ?_
          refine lz_get (G := G) (ci := 4) (v := .int (nI (K - 1))) (C := RX4) (T := TX4) (N := 24) hx hb hu_wsX40 (fun _ h9 => h9) hown hK hP 0 rfl rfl 9 (by decide) hw2 rfl rfl dX4_undo_45 ?_
          refine lv_imul hx hb dX4_undo_48 ?_
          refine lv_iload_n hx hb dX4_undo_49 rfl (lv_at hl 0 rfl) ?_
          refine lv_iadd hx hb dX4_undo_50 ?_
          refine lz_top (y := nI (64 * (K - 1) + j)) (by simp only [fa_lit, pk_mul, nI_add]) ?_
          refine lz_iald (f := g) hx hb hK hP 1 rfl (64 * (K - 1) + j) (by omega) (Nat.le_of_ble_eq_true rfl) dX4_undo_51 ?_
          refine lz_iast (f := undF g f (K - 1) j) hx hb hK hP hD hS 2 rfl j (by omega) (Nat.le_of_ble_eq_true rfl) dX4_undo_52 (lzM m q (upd (upd S 0 0) 9 (nI (K - 1))) ++ (lzI G (q 8) 1536 g ++ (lzI G (q 5) 64 (upd (undF g f (K - 1) j) j (g (64 * (K - 1) + j)))))) rfl (fun H locs hP hD hS => ?_)
          refine lv_iinc (v := nI (j + 1)) (lv' := [(1, .int (nI (j + 1))), (0, .ref m)]) hx hb dX4_undo_53 hl (k := 0) rfl (nI_1 _) (by decide) rfl (fun ls hl => ?_)
          refine lv_goto (tgt := 27) hx hb dX4_undo_56 (by decide) ?_
          have hE_1 : upd (undF g f (K - 1) j) j (g (64 * (K - 1) + j)) = undF g f (K - 1) (j + 1) := undF_s _ _ _ _
          replace hP : va_P G.1 lzC (lzM m q (upd (upd S 0 0) 9 (nI (K - 1))) ++ (lzI G (q 8) 1536 g ++ (lzI G (q 5) 64 (undF g f (K - 1) (j + 1))))) H := by rw [← hE_1]; exact hP
          replace hD : va_D A (lzM m q (upd (upd S 0 0) 9 (nI (K - 1))) ++ (lzI G (q 8) 1536 g ++ (lzI G (q 5) 64 (undF g f (K - 1) (j + 1))))) := by rw [← hE_1]; exact hD
          exact ih_27 (j + 1) (by omega) (by omega) _ _ hP hD hS _ (lv_sub hl [0, 1] rfl)
    have hE_2 : f = undF g f (K - 1) 0 := (undF_0 _ _ _).symm
    replace hP : va_P G.1 lzC (lzM m q (upd (upd S 0 0) 9 (nI (K - 1))) ++ (lzI G (q 8) 1536 g ++ (lzI G (q 5) 64 (undF g f (K - 1) 0)))) H := by rw [← hE_2]; exact hP
    replace hD : va_D A (lzM m q (upd (upd S 0 0) 9 (nI (K - 1))) ++ (lzI G (q 8) 1536 g ++ (lzI G (q 5) 64 (undF g f (K - 1) 0)))) := by rw [← hE_2]; exact hD
    exact J_27 _ 0 (by omega) (Nat.lt_succ_self _) _ _ hP hD hS _ (lv_sub hl [0, 1] rfl)
  · skip
    exact absurd (hAc.symm.trans c_9) (nI_ne0 (by omega) (by omega))
set_option maxHeartbeats 4000000 in
set_option maxRecDepth 100000 in
theorem c_X4_strict_state (l : Launch) (G : lzG) (m : Nat) (q : Nat → Nat) (S : Nat → Int32) (f : Nat → Int32) (n : Int32) (hR : (decide (0 < f 0)) = false) : Met l yX4_strict wsX4_strict ({ frames := 1, cells := 0, slots := 0, locals := 20 }) (va_Pc [.ref m, .int n] (rwP G (lzM m q S ++ lzI G (q 5) 64 f))) (va_Qi (S := Unit) (fun (r : Int32) (_ : Unit) => r = -1000002) (rwB G (fun _ : Unit => (lzM m q (upd S 0 0) ++ lzI G (q 5) 64 f))) (lzA (lzM m q S ++ lzI G (q 5) 64 f))) 0 0 (lzA (lzM m q S ++ lzI G (q 5) 64 f)) := by
  refine rw_start (S := Unit) (cc := cX4_strict) (maxL := 3) (ret := (some .int)) (by decide) rfl (Nat.le_of_ble_eq_true rfl) ?_
  intro pp ee ss mm bl me cd A hx hb hr hlk hml hts hown hP hK hD hAe hS ls hl
  have hA0 : ∀ zz : Nat, lzA (lzM m q S ++ lzI G (q 5) 64 f) zz → A zz := fun zz h9 => by rw [hAe]; exact h9
  rw [← hAe]
  clear hAe
  have hown : ss.vm.findClass RX4 = some mm.cls := hown
  have hw1 := hts (.fieldLink RX4 48 "LampSquaresModel" "thrown" "I") (List.mem_of_getElem? (i := 1) rfl)
  have hw2 := hts (.constant RX4 204 (-1000002)) (List.mem_of_getElem? (i := 2) rfl)
  have hu_wsX40 : ∀ w ∈ wsX40, w.before ([.ref m, .int n] : List Value).toArray ss = true := fun w h9 => hts w (List.mem_cons_of_mem _ (List.mem_append_right _ h9))
  have hl : lv_has ls 3 [(0, .ref m), (1, .int n)] := hl
  refine lv_aload_n hx hb dX4_strict_0 rfl (lv_at hl 0 rfl) ?_
  refine lv_iconst (v := 0) hx hb dX4_strict_1 (by decide) ?_
  refine lz_put (G := G) (ci := 4) (C := RX4) (T := TX4) (N := 24) hx hb hu_wsX40 (fun _ h9 => h9) tyX4 tyX4_ok nmX4 hown hK hP hD hS 0 rfl rfl 0 (by decide) hw1 rfl rfl (by decide +kernel) (Nat.le_of_ble_eq_true rfl) dX4_strict_2 (lzM m q (upd S 0 0) ++ lzI G (q 5) 64 f) rfl (fun H locs hP hD hS => ?_)
  refine lv_aload_n hx hb dX4_strict_5 rfl (lv_at hl 0 rfl) ?_
  refine ro_calli (va_runV (As := []) (rest := []) ⟨hx, hb, hml, hown, hts⟩ (c_X4_isThere l G m q (upd S 0 0) f ) (cwV 0 hts gX4_strict_X4_isThere rfl rfl rfl (by decide +kernel) ⟨Nat.le_of_ble_eq_true rfl, Nat.le_of_ble_eq_true rfl⟩) (ro_preV hK hP hP (ci := 4) (q0 := 0) rfl rfl) rfl rfl hl.1 rfl (lv_room (Nat.le_of_ble_eq_true rfl)) dX4_strict_6 ⟨Nat.zero_le _, Nat.zero_le _⟩) (fun r_1 hr_1 => ?_)
  refine lv_if_ne (tgt := 15) hx hb dX4_strict_9 (by decide) (fun c_9 => ?_) (fun c_9 => ?_)
  · skip
    have c_9 := b2_n hr_1 c_9
    exact Bool.noConfusion (hR.symm.trans c_9)
  · skip
    have c_9 := b2_z hr_1 c_9
    refine lv_ldc hx hb hown hw2 dX4_strict_12 ?_
    exact rw_iret (S := Unit) (G := G) (Wd := fun _ : Unit => (lzM m q (upd S 0 0) ++ lzI G (q 5) 64 f)) () hx hb hr hlk dX4_strict_14 hS (hP) (rfl)
set_option maxHeartbeats 4000000 in
set_option maxRecDepth 100000 in
theorem c_X4_strict_bad (l : Launch) (G : lzG) (m : Nat) (q : Nat → Nat) (S : Nat → Int32) (f : Nat → Int32) (n : Int32) (hR : (decide (0 < f 0)) = true) (hbad : inR n 0 8 = false) : Met l yX4_strict wsX4_strict ({ frames := 1, cells := 0, slots := 0, locals := 25 }) (va_Pc [.ref m, .int n] (rwP G (lzM m q S ++ lzI G (q 5) 64 f))) (va_Qi (S := Unit) (fun (r : Int32) (_ : Unit) => r = -1000001) (rwB G (fun _ : Unit => (lzM m q (upd S 0 0) ++ lzI G (q 5) 64 f))) (lzA (lzM m q S ++ lzI G (q 5) 64 f))) 0 0 (lzA (lzM m q S ++ lzI G (q 5) 64 f)) := by
  have hbL : inL n.toInt64 0 8 = false := (inL_of n 0 8).trans hbad
  refine rw_start (S := Unit) (cc := cX4_strict) (maxL := 3) (ret := (some .int)) (by decide) rfl (Nat.le_of_ble_eq_true rfl) ?_
  intro pp ee ss mm bl me cd A hx hb hr hlk hml hts hown hP hK hD hAe hS ls hl
  have hA0 : ∀ zz : Nat, lzA (lzM m q S ++ lzI G (q 5) 64 f) zz → A zz := fun zz h9 => by rw [hAe]; exact h9
  rw [← hAe]
  clear hAe
  have hown : ss.vm.findClass RX4 = some mm.cls := hown
  have hw1 := hts (.fieldLink RX4 48 "LampSquaresModel" "thrown" "I") (List.mem_of_getElem? (i := 1) rfl)
  have hw3 := hts (.constantLong RX4 205 (8)) (List.mem_of_getElem? (i := 3) rfl)
  have hw4 := hts (.constant RX4 68 (-1000001)) (List.mem_of_getElem? (i := 4) rfl)
  have hu_wsX40 : ∀ w ∈ wsX40, w.before ([.ref m, .int n] : List Value).toArray ss = true := fun w h9 => hts w (List.mem_cons_of_mem _ (List.mem_append_right _ h9))
  have hl : lv_has ls 3 [(0, .ref m), (1, .int n)] := hl
  refine lv_aload_n hx hb dX4_strict_0 rfl (lv_at hl 0 rfl) ?_
  refine lv_iconst (v := 0) hx hb dX4_strict_1 (by decide) ?_
  refine lz_put (G := G) (ci := 4) (C := RX4) (T := TX4) (N := 24) hx hb hu_wsX40 (fun _ h9 => h9) tyX4 tyX4_ok nmX4 hown hK hP hD hS 0 rfl rfl 0 (by decide) hw1 rfl rfl (by decide +kernel) (Nat.le_of_ble_eq_true rfl) dX4_strict_2 (lzM m q (upd S 0 0) ++ lzI G (q 5) 64 f) rfl (fun H locs hP hD hS => ?_)
  refine lv_aload_n hx hb dX4_strict_5 rfl (lv_at hl 0 rfl) ?_
  refine ro_calli (va_runV (As := []) (rest := []) ⟨hx, hb, hml, hown, hts⟩ (c_X4_isThere l G m q (upd S 0 0) f ) (cwV 0 hts gX4_strict_X4_isThere rfl rfl rfl (by decide +kernel) ⟨Nat.le_of_ble_eq_true rfl, Nat.le_of_ble_eq_true rfl⟩) (ro_preV hK hP hP (ci := 4) (q0 := 0) rfl rfl) rfl rfl hl.1 rfl (lv_room (Nat.le_of_ble_eq_true rfl)) dX4_strict_6 ⟨Nat.zero_le _, Nat.zero_le _⟩) (fun r_1 hr_1 => ?_)
  refine lv_if_ne (tgt := 15) hx hb dX4_strict_9 (by decide) (fun c_9 => ?_) (fun c_9 => ?_)
  · skip
    have c_9 := b2_n hr_1 c_9
    refine lv_iload_n hx hb dX4_strict_15 rfl (lv_at hl 1 rfl) ?_
    refine lv_i2l hx hb dX4_strict_16 rfl ?_
    refine lv_lconst (v := 0) hx hb dX4_strict_17 (by decide) ?_
    refine lv_ldc2 hx hb hown hw3 dX4_strict_18 ?_
    refine ro_calli (va_runS (As := [.long n.toInt64, .long 0, .long 8]) (rest := []) ⟨hx, hb, hml, hown, hts⟩ (c_X4_in l G n.toInt64 0 8 ) (cwS 3 hts gX4_strict_X4_in rfl rfl rfl (by decide +kernel) ⟨Nat.le_of_ble_eq_true rfl, Nat.le_of_ble_eq_true rfl⟩) (ro_pre hK (fun k q h => by simp at h)) rfl rfl hl.1 rfl (lv_room (Nat.le_of_ble_eq_true rfl)) dX4_strict_21 ⟨Nat.zero_le _, Nat.zero_le _⟩) (fun r_2 hr_2 => ?_)
    refine lv_if_ne (tgt := 30) hx hb dX4_strict_24 (by decide) (fun c_24 => ?_) (fun c_24 => ?_)
    · skip
      have c_24 := b2_n hr_2 c_24
      exact Bool.noConfusion (hbL.symm.trans c_24)
    · skip
      have c_24 := b2_z hr_2 c_24
      refine lv_ldc hx hb hown hw4 dX4_strict_27 ?_
      exact rw_iret (S := Unit) (G := G) (Wd := fun _ : Unit => (lzM m q (upd S 0 0) ++ lzI G (q 5) 64 f)) () hx hb hr hlk dX4_strict_29 hS (hP) (rfl)
  · skip
    have c_9 := b2_z hr_1 c_9
    exact Bool.noConfusion (hR.symm.trans c_9)
set_option maxHeartbeats 4000000 in
set_option maxRecDepth 100000 in
theorem c_X4_strict_ok (l : Launch) (G : lzG) (m : Nat) (q : Nat → Nat) (S : Nat → Int32) (g f : Nat → Int32) (K : Nat) (n : Int32) (hAc : S 9 = nI K) (hK24 : K ≤ 24) (hR : (decide (0 < f 0)) = true) (hn : inR n 0 8 = true) : Met l yX4_strict wsX4_strict ({ frames := 1, cells := 0, slots := 0, locals := 25 }) (va_Pc [.ref m, .int n] (rwP G (lzM m q S ++ (lzI G (q 8) 1536 g ++ (lzI G (q 5) 64 f))))) (va_Qi (S := Unit) (fun (r : Int32) (_ : Unit) => r = f 1) (rwB G (fun _ : Unit => (lzM m q (upd (upd S 0 0) 9 (nI (kpK K + 1))) ++ (lzI G (q 8) 1536 (kpW g f K) ++ (lzI G (q 5) 64 (upd f 1 n)))))) (lzA (lzM m q S ++ (lzI G (q 8) 1536 g ++ (lzI G (q 5) 64 f))))) 0 0 (lzA (lzM m q S ++ (lzI G (q 8) 1536 g ++ (lzI G (q 5) 64 f)))) := by
  have hnL : inL n.toInt64 0 8 = true := (inL_of n 0 8).trans hn
  refine rw_start (S := Unit) (cc := cX4_strict) (maxL := 3) (ret := (some .int)) (by decide) rfl (Nat.le_of_ble_eq_true rfl) ?_
  intro pp ee ss mm bl me cd A hx hb hr hlk hml hts hown hP hK hD hAe hS ls hl
  have hA0 : ∀ zz : Nat, lzA (lzM m q S ++ (lzI G (q 8) 1536 g ++ (lzI G (q 5) 64 f))) zz → A zz := fun zz h9 => by rw [hAe]; exact h9
  rw [← hAe]
  clear hAe
  have hown : ss.vm.findClass RX4 = some mm.cls := hown
  have hw1 := hts (.fieldLink RX4 48 "LampSquaresModel" "thrown" "I") (List.mem_of_getElem? (i := 1) rfl)
  have hw3 := hts (.constantLong RX4 205 (8)) (List.mem_of_getElem? (i := 3) rfl)
  have hw5 := hts (.fieldLink RX4 19 "LampSquaresModel" "door" "[I") (List.mem_of_getElem? (i := 5) rfl)
  have hu_wsX40 : ∀ w ∈ wsX40, w.before ([.ref m, .int n] : List Value).toArray ss = true := fun w h9 => hts w (List.mem_cons_of_mem _ (List.mem_append_right _ h9))
  have hl : lv_has ls 3 [(0, .ref m), (1, .int n)] := hl
  refine lv_aload_n hx hb dX4_strict_0 rfl (lv_at hl 0 rfl) ?_
  refine lv_iconst (v := 0) hx hb dX4_strict_1 (by decide) ?_
  refine lz_put (G := G) (ci := 4) (C := RX4) (T := TX4) (N := 24) hx hb hu_wsX40 (fun _ h9 => h9) tyX4 tyX4_ok nmX4 hown hK hP hD hS 0 rfl rfl 0 (by decide) hw1 rfl rfl (by decide +kernel) (Nat.le_of_ble_eq_true rfl) dX4_strict_2 (lzM m q (upd S 0 0) ++ (lzI G (q 8) 1536 g ++ (lzI G (q 5) 64 f))) rfl (fun H locs hP hD hS => ?_)
  refine lv_aload_n hx hb dX4_strict_5 rfl (lv_at hl 0 rfl) ?_
  have hPc := hP.sub (ws' := (lzM m q (upd S 0 0) ++ lzI G (q 5) 64 f)) [0, 2] rfl
  refine ro_calli (va_runV (As := []) (rest := []) ⟨hx, hb, hml, hown, hts⟩ (c_X4_isThere l G m q (upd S 0 0) f ) (cwV 0 hts gX4_strict_X4_isThere rfl rfl rfl (by decide +kernel) ⟨Nat.le_of_ble_eq_true rfl, Nat.le_of_ble_eq_true rfl⟩) (ro_preV hK hPc hP (ci := 4) (q0 := 0) rfl rfl) rfl rfl hl.1 rfl (lv_room (Nat.le_of_ble_eq_true rfl)) dX4_strict_6 ⟨Nat.zero_le _, Nat.zero_le _⟩) (fun r_1 hr_1 => ?_)
  refine lv_if_ne (tgt := 15) hx hb dX4_strict_9 (by decide) (fun c_9 => ?_) (fun c_9 => ?_)
  · skip
    have c_9 := b2_n hr_1 c_9
    refine lv_iload_n hx hb dX4_strict_15 rfl (lv_at hl 1 rfl) ?_
    refine lv_i2l hx hb dX4_strict_16 rfl ?_
    refine lv_lconst (v := 0) hx hb dX4_strict_17 (by decide) ?_
    refine lv_ldc2 hx hb hown hw3 dX4_strict_18 ?_
    refine ro_calli (va_runS (As := [.long n.toInt64, .long 0, .long 8]) (rest := []) ⟨hx, hb, hml, hown, hts⟩ (c_X4_in l G n.toInt64 0 8 ) (cwS 3 hts gX4_strict_X4_in rfl rfl rfl (by decide +kernel) ⟨Nat.le_of_ble_eq_true rfl, Nat.le_of_ble_eq_true rfl⟩) (ro_pre hK (fun k q h => by simp at h)) rfl rfl hl.1 rfl (lv_room (Nat.le_of_ble_eq_true rfl)) dX4_strict_21 ⟨Nat.zero_le _, Nat.zero_le _⟩) (fun r_2 hr_2 => ?_)
    refine lv_if_ne (tgt := 30) hx hb dX4_strict_24 (by decide) (fun c_24 => ?_) (fun c_24 => ?_)
    · skip
      have c_24 := b2_n hr_2 c_24
      refine lv_aload_n hx hb dX4_strict_30 rfl (lv_at hl 0 rfl) ?_
      have hFc : ∀ zz : Nat, lzA (lzM m q (upd S 0 0) ++ (lzI G (q 8) 1536 g ++ (lzI G (q 5) 64 f))) zz → A zz := lz_free hD [0, 1, 2] rfl
      refine va_callv (va_runV (As := []) (rest := []) ⟨hx, hb, hml, hown, hts⟩ (c_X4_keep l G m q (upd S 0 0) g f K (hAc) (hK24)) (cwV 0 hts gX4_strict_X4_keep rfl rfl rfl (by decide +kernel) ⟨Nat.le_of_ble_eq_true rfl, Nat.le_of_ble_eq_true rfl⟩) (rw_preV hK hP hD hP (ci := 4) (q0 := 0) rfl rfl) rfl rfl hl.1 rfl (lv_room (Nat.le_of_ble_eq_true rfl)) dX4_strict_31 ⟨Nat.zero_le _, Nat.zero_le _⟩) hS (fun q _ h => hFc q h) hFc (fun u_4 t9 H1 locs ht hvm hr_3 hB hz1 hk1 hS => ?_)
      replace hB : va_P G.1 lzC _ t9.heap := hB
      rw [ht] at hB
      obtain ⟨hP, hD⟩ := lz_join (wc := (lzM m q (upd S 0 0) ++ (lzI G (q 8) 1536 g ++ (lzI G (q 5) 64 f)))) (wr := ([] : va_W)) (w1 := (lzM m q (upd (upd S 0 0) 9 (nI (kpK K + 1))) ++ (lzI G (q 8) 1536 (kpW g f K) ++ (lzI G (q 5) 64 f)))) hP hD [0, 1, 2] [] rfl rfl (by decide) (by decide) rfl hk1 hB
      replace hP := hP.sub (ws' := (lzM m q (upd (upd S 0 0) 9 (nI (kpK K + 1))) ++ (lzI G (q 8) 1536 (kpW g f K) ++ (lzI G (q 5) 64 f)))) [0, 1, 2] rfl
      replace hD := hD.sub (ws' := (lzM m q (upd (upd S 0 0) 9 (nI (kpK K + 1))) ++ (lzI G (q 8) 1536 (kpW g f K) ++ (lzI G (q 5) 64 f)))) [0, 1, 2] (by decide) rfl
      clear ht hvm hB hz1 hk1
      generalize H1 = H at hP hS ⊢
      refine lv_aload_n hx hb dX4_strict_34 rfl (lv_at hl 0 rfl) ?_
      refine lz_get (G := G) (ci := 4) (v := .ref (q 5)) (C := RX4) (T := TX4) (N := 24) hx hb hu_wsX40 (fun _ h9 => h9) hown hK hP 0 rfl rfl 5 (by decide) hw5 rfl rfl dX4_strict_35 ?_
      refine lv_iconst (v := 1) hx hb dX4_strict_38 (by decide) ?_
      refine lz_iald (f := f) hx hb hK hP 2 rfl 1 (by omega) (Nat.le_of_ble_eq_true rfl) dX4_strict_39 ?_
      refine lv_topi (fun x_5 ex_5 => ?_)
      refine lv_istore_n (lv' := [(2, .int x_5), (0, .ref m), (1, .int n)]) hx hb dX4_strict_40 rfl hl (by decide) rfl (fun ls hl => ?_)
      refine lv_aload_n hx hb dX4_strict_41 rfl (lv_at hl 1 rfl) ?_
      refine lz_get (G := G) (ci := 4) (v := .ref (q 5)) (C := RX4) (T := TX4) (N := 24) hx hb hu_wsX40 (fun _ h9 => h9) hown hK hP 0 rfl rfl 5 (by decide) hw5 rfl rfl dX4_strict_42 ?_
      refine lv_iconst (v := 1) hx hb dX4_strict_45 (by decide) ?_
      refine lv_iload_n hx hb dX4_strict_46 rfl (lv_at hl 2 rfl) ?_
      refine lz_iast (f := f) hx hb hK hP hD hS 2 rfl 1 (by omega) (Nat.le_of_ble_eq_true rfl) dX4_strict_47 (lzM m q (upd (upd S 0 0) 9 (nI (kpK K + 1))) ++ (lzI G (q 8) 1536 (kpW g f K) ++ (lzI G (q 5) 64 (upd f 1 n)))) rfl (fun H locs hP hD hS => ?_)
      refine lv_iload_n hx hb dX4_strict_48 rfl (lv_at hl 0 rfl) ?_
      exact rw_iret (S := Unit) (G := G) (Wd := fun _ : Unit => (lzM m q (upd (upd S 0 0) 9 (nI (kpK K + 1))) ++ (lzI G (q 8) 1536 (kpW g f K) ++ (lzI G (q 5) 64 (upd f 1 n))))) () hx hb hr hlk dX4_strict_49 hS (hP) (by assumption)
    · skip
      have c_24 := b2_z hr_2 c_24
      exact Bool.noConfusion (hnL.symm.trans c_24)
  · skip
    have c_9 := b2_z hr_1 c_9
    exact Bool.noConfusion (hR.symm.trans c_9)
set_option maxHeartbeats 4000000 in
set_option maxRecDepth 100000 in
theorem c_X4_share_bad (l : Launch) (G : lzG) (m : Nat) (q : Nat → Nat) (S : Nat → Int32) (f : Nat → Int32) (a n : Int32) (hbad : (inR a 0 (f 2 - 1) && inR n 0 9) = false) : Met l yX4_share wsX4_share ({ frames := 2, cells := 0, slots := 0, locals := 46 }) (va_Pc [.ref m, .int a, .int n] (rwP G (lzM m q S ++ lzI G (q 5) 64 f))) (va_Qi (S := Unit) (fun (r : Int32) (_ : Unit) => r = -1000001) (rwB G (fun _ : Unit => (lzM m q (upd S 0 0) ++ lzI G (q 5) 64 f))) (lzA (lzM m q S ++ lzI G (q 5) 64 f))) 0 0 (lzA (lzM m q S ++ lzI G (q 5) 64 f)) := by
  have hbW : (inR a 0 (f 2 - 1) && inL n.toInt64 0 9) = false := by rw [show inL n.toInt64 0 9 = inR n 0 9 from inL_of n 0 9]; exact hbad
  refine rw_start (S := Unit) (cc := cX4_share) (maxL := 4) (ret := (some .int)) (by decide) rfl (Nat.le_of_ble_eq_true rfl) ?_
  intro pp ee ss mm bl me cd A hx hb hr hlk hml hts hown hP hK hD hAe hS ls hl
  have hA0 : ∀ zz : Nat, lzA (lzM m q S ++ lzI G (q 5) 64 f) zz → A zz := fun zz h9 => by rw [hAe]; exact h9
  rw [← hAe]
  clear hAe
  have hown : ss.vm.findClass RX4 = some mm.cls := hown
  have hw1 := hts (.fieldLink RX4 48 "LampSquaresModel" "thrown" "I") (List.mem_of_getElem? (i := 1) rfl)
  have hw2 := hts (.constantLong RX4 210 (9)) (List.mem_of_getElem? (i := 2) rfl)
  have hw3 := hts (.constant RX4 68 (-1000001)) (List.mem_of_getElem? (i := 3) rfl)
  have hu_wsX40 : ∀ w ∈ wsX40, w.before ([.ref m, .int a, .int n] : List Value).toArray ss = true := fun w h9 => hts w (List.mem_cons_of_mem _ (List.mem_append_right _ h9))
  have hl : lv_has ls 4 [(0, .ref m), (1, .int a), (2, .int n)] := hl
  refine lv_aload_n hx hb dX4_share_0 rfl (lv_at hl 0 rfl) ?_
  refine lv_iconst (v := 0) hx hb dX4_share_1 (by decide) ?_
  refine lz_put (G := G) (ci := 4) (C := RX4) (T := TX4) (N := 24) hx hb hu_wsX40 (fun _ h9 => h9) tyX4 tyX4_ok nmX4 hown hK hP hD hS 0 rfl rfl 0 (by decide) hw1 rfl rfl (by decide +kernel) (Nat.le_of_ble_eq_true rfl) dX4_share_2 (lzM m q (upd S 0 0) ++ lzI G (q 5) 64 f) rfl (fun H locs hP hD hS => ?_)
  refine lv_aload_n hx hb dX4_share_5 rfl (lv_at hl 0 rfl) ?_
  refine lv_iload_n hx hb dX4_share_6 rfl (lv_at hl 1 rfl) ?_
  refine ro_calli (va_runV (As := [.int a]) (rest := []) ⟨hx, hb, hml, hown, hts⟩ (c_X4_isSquare l G m q (upd S 0 0) f a ) (cwV 1 hts gX4_share_X4_isSquare rfl rfl rfl (by decide +kernel) ⟨Nat.le_of_ble_eq_true rfl, Nat.le_of_ble_eq_true rfl⟩) (ro_preV hK hP hP (ci := 4) (q0 := 0) rfl rfl) rfl rfl hl.1 rfl (lv_room (Nat.le_of_ble_eq_true rfl)) dX4_share_7 ⟨Nat.zero_le _, Nat.zero_le _⟩) (fun r_1 hr_1 => ?_)
  refine lv_if_eq (tgt := 25) hx hb dX4_share_10 (by decide) (fun c_10 => ?_) (fun c_10 => ?_)
  · skip
    have c_10 := b2_z hr_1 c_10
    refine lv_ldc hx hb hown hw3 dX4_share_25 ?_
    exact rw_iret (S := Unit) (G := G) (Wd := fun _ : Unit => (lzM m q (upd S 0 0) ++ lzI G (q 5) 64 f)) () hx hb hr hlk dX4_share_27 hS (hP) (rfl)
  · skip
    have c_10 := b2_n hr_1 c_10
    refine lv_iload_n hx hb dX4_share_13 rfl (lv_at hl 2 rfl) ?_
    refine lv_i2l hx hb dX4_share_14 rfl ?_
    refine lv_lconst (v := 0) hx hb dX4_share_15 (by decide) ?_
    refine lv_ldc2 hx hb hown hw2 dX4_share_16 ?_
    refine ro_calli (va_runS (As := [.long n.toInt64, .long 0, .long 9]) (rest := []) ⟨hx, hb, hml, hown, hts⟩ (c_X4_in l G n.toInt64 0 9 ) (cwS 3 hts gX4_share_X4_in rfl rfl rfl (by decide +kernel) ⟨Nat.le_of_ble_eq_true rfl, Nat.le_of_ble_eq_true rfl⟩) (ro_pre hK (fun k q h => by simp at h)) rfl rfl hl.1 rfl (lv_room (Nat.le_of_ble_eq_true rfl)) dX4_share_19 ⟨Nat.zero_le _, Nat.zero_le _⟩) (fun r_2 hr_2 => ?_)
    refine lv_if_ne (tgt := 28) hx hb dX4_share_22 (by decide) (fun c_22 => ?_) (fun c_22 => ?_)
    · skip
      have c_22 := b2_n hr_2 c_22
      exact Bool.noConfusion (hbW.symm.trans (by rw [c_10, c_22] <;> rfl))
    · skip
      have c_22 := b2_z hr_2 c_22
      refine lv_ldc hx hb hown hw3 dX4_share_25 ?_
      exact rw_iret (S := Unit) (G := G) (Wd := fun _ : Unit => (lzM m q (upd S 0 0) ++ lzI G (q 5) 64 f)) () hx hb hr hlk dX4_share_27 hS (hP) (rfl)
set_option maxHeartbeats 4000000 in
set_option maxRecDepth 100000 in
theorem c_X4_share_ok (l : Launch) (G : lzG) (m : Nat) (q : Nat → Nat) (S : Nat → Int32) (g f : Nat → Int32) (K s N : Nat) (n : Int32) (hAc : S 9 = nI K) (hK24 : K ≤ 24) (hN : f 2 = nI N) (hN8 : N ≤ 8) (hs : s < N) (hn : inR n 0 9 = true) : Met l yX4_share wsX4_share ({ frames := 2, cells := 0, slots := 0, locals := 46 }) (va_Pc [.ref m, .int (nI s), .int n] (rwP G (lzM m q S ++ (lzI G (q 8) 1536 g ++ (lzI G (q 5) 64 f))))) (va_Qi (S := Unit) (fun (r : Int32) (_ : Unit) => r = f (4 + 5 * s + 1)) (rwB G (fun _ : Unit => (lzM m q (upd (upd S 0 0) 9 (nI (kpK K + 1))) ++ (lzI G (q 8) 1536 (kpW g f K) ++ (lzI G (q 5) 64 (upd f (4 + 5 * s + 1) n)))))) (lzA (lzM m q S ++ (lzI G (q 8) 1536 g ++ (lzI G (q 5) 64 f))))) 0 0 (lzA (lzM m q S ++ (lzI G (q 8) 1536 g ++ (lzI G (q 5) 64 f)))) := by
  have hB : inR (nI s) 0 (f 2 - 1) = true := inR_ok hN hs (by omega)
  have hnL : inL n.toInt64 0 9 = true := (inL_of n 0 9).trans hn
  refine rw_start (S := Unit) (cc := cX4_share) (maxL := 4) (ret := (some .int)) (by decide) rfl (Nat.le_of_ble_eq_true rfl) ?_
  intro pp ee ss mm bl me cd A hx hb hr hlk hml hts hown hP hK hD hAe hS ls hl
  have hA0 : ∀ zz : Nat, lzA (lzM m q S ++ (lzI G (q 8) 1536 g ++ (lzI G (q 5) 64 f))) zz → A zz := fun zz h9 => by rw [hAe]; exact h9
  rw [← hAe]
  clear hAe
  have hown : ss.vm.findClass RX4 = some mm.cls := hown
  have hw1 := hts (.fieldLink RX4 48 "LampSquaresModel" "thrown" "I") (List.mem_of_getElem? (i := 1) rfl)
  have hw2 := hts (.constantLong RX4 210 (9)) (List.mem_of_getElem? (i := 2) rfl)
  have hw4 := hts (.fieldLink RX4 19 "LampSquaresModel" "door" "[I") (List.mem_of_getElem? (i := 4) rfl)
  have hu_wsX40 : ∀ w ∈ wsX40, w.before ([.ref m, .int (nI s), .int n] : List Value).toArray ss = true := fun w h9 => hts w (List.mem_cons_of_mem _ (List.mem_append_right _ h9))
  have hl : lv_has ls 4 [(0, .ref m), (1, .int (nI s)), (2, .int n)] := hl
  refine lv_aload_n hx hb dX4_share_0 rfl (lv_at hl 0 rfl) ?_
  refine lv_iconst (v := 0) hx hb dX4_share_1 (by decide) ?_
  refine lz_put (G := G) (ci := 4) (C := RX4) (T := TX4) (N := 24) hx hb hu_wsX40 (fun _ h9 => h9) tyX4 tyX4_ok nmX4 hown hK hP hD hS 0 rfl rfl 0 (by decide) hw1 rfl rfl (by decide +kernel) (Nat.le_of_ble_eq_true rfl) dX4_share_2 (lzM m q (upd S 0 0) ++ (lzI G (q 8) 1536 g ++ (lzI G (q 5) 64 f))) rfl (fun H locs hP hD hS => ?_)
  refine lv_aload_n hx hb dX4_share_5 rfl (lv_at hl 0 rfl) ?_
  refine lv_iload_n hx hb dX4_share_6 rfl (lv_at hl 1 rfl) ?_
  have hPc := hP.sub (ws' := (lzM m q (upd S 0 0) ++ lzI G (q 5) 64 f)) [0, 2] rfl
  refine ro_calli (va_runV (As := [.int (nI s)]) (rest := []) ⟨hx, hb, hml, hown, hts⟩ (c_X4_isSquare l G m q (upd S 0 0) f (nI s) ) (cwV 1 hts gX4_share_X4_isSquare rfl rfl rfl (by decide +kernel) ⟨Nat.le_of_ble_eq_true rfl, Nat.le_of_ble_eq_true rfl⟩) (ro_preV hK hPc hP (ci := 4) (q0 := 0) rfl rfl) rfl rfl hl.1 rfl (lv_room (Nat.le_of_ble_eq_true rfl)) dX4_share_7 ⟨Nat.zero_le _, Nat.zero_le _⟩) (fun r_1 hr_1 => ?_)
  refine lv_if_eq (tgt := 25) hx hb dX4_share_10 (by decide) (fun c_10 => ?_) (fun c_10 => ?_)
  · skip
    have c_10 := b2_z hr_1 c_10
    exact Bool.noConfusion (hB.symm.trans c_10)
  · skip
    have c_10 := b2_n hr_1 c_10
    refine lv_iload_n hx hb dX4_share_13 rfl (lv_at hl 2 rfl) ?_
    refine lv_i2l hx hb dX4_share_14 rfl ?_
    refine lv_lconst (v := 0) hx hb dX4_share_15 (by decide) ?_
    refine lv_ldc2 hx hb hown hw2 dX4_share_16 ?_
    refine ro_calli (va_runS (As := [.long n.toInt64, .long 0, .long 9]) (rest := []) ⟨hx, hb, hml, hown, hts⟩ (c_X4_in l G n.toInt64 0 9 ) (cwS 3 hts gX4_share_X4_in rfl rfl rfl (by decide +kernel) ⟨Nat.le_of_ble_eq_true rfl, Nat.le_of_ble_eq_true rfl⟩) (ro_pre hK (fun k q h => by simp at h)) rfl rfl hl.1 rfl (lv_room (Nat.le_of_ble_eq_true rfl)) dX4_share_19 ⟨Nat.zero_le _, Nat.zero_le _⟩) (fun r_2 hr_2 => ?_)
    refine lv_if_ne (tgt := 28) hx hb dX4_share_22 (by decide) (fun c_22 => ?_) (fun c_22 => ?_)
    · skip
      have c_22 := b2_n hr_2 c_22
      refine lv_aload_n hx hb dX4_share_28 rfl (lv_at hl 0 rfl) ?_
      have hFc : ∀ zz : Nat, lzA (lzM m q (upd S 0 0) ++ (lzI G (q 8) 1536 g ++ (lzI G (q 5) 64 f))) zz → A zz := lz_free hD [0, 1, 2] rfl
      refine va_callv (va_runV (As := []) (rest := []) ⟨hx, hb, hml, hown, hts⟩ (c_X4_keep l G m q (upd S 0 0) g f K (hAc) (hK24)) (cwV 0 hts gX4_share_X4_keep rfl rfl rfl (by decide +kernel) ⟨Nat.le_of_ble_eq_true rfl, Nat.le_of_ble_eq_true rfl⟩) (rw_preV hK hP hD hP (ci := 4) (q0 := 0) rfl rfl) rfl rfl hl.1 rfl (lv_room (Nat.le_of_ble_eq_true rfl)) dX4_share_29 ⟨Nat.zero_le _, Nat.zero_le _⟩) hS (fun q _ h => hFc q h) hFc (fun u_4 t9 H1 locs ht hvm hr_3 hB hz1 hk1 hS => ?_)
      replace hB : va_P G.1 lzC _ t9.heap := hB
      rw [ht] at hB
      obtain ⟨hP, hD⟩ := lz_join (wc := (lzM m q (upd S 0 0) ++ (lzI G (q 8) 1536 g ++ (lzI G (q 5) 64 f)))) (wr := ([] : va_W)) (w1 := (lzM m q (upd (upd S 0 0) 9 (nI (kpK K + 1))) ++ (lzI G (q 8) 1536 (kpW g f K) ++ (lzI G (q 5) 64 f)))) hP hD [0, 1, 2] [] rfl rfl (by decide) (by decide) rfl hk1 hB
      replace hP := hP.sub (ws' := (lzM m q (upd (upd S 0 0) 9 (nI (kpK K + 1))) ++ (lzI G (q 8) 1536 (kpW g f K) ++ (lzI G (q 5) 64 f)))) [0, 1, 2] rfl
      replace hD := hD.sub (ws' := (lzM m q (upd (upd S 0 0) 9 (nI (kpK K + 1))) ++ (lzI G (q 8) 1536 (kpW g f K) ++ (lzI G (q 5) 64 f)))) [0, 1, 2] (by decide) rfl
      clear ht hvm hB hz1 hk1
      generalize H1 = H at hP hS ⊢
      refine lv_aload_n hx hb dX4_share_32 rfl (lv_at hl 0 rfl) ?_
      refine lz_get (G := G) (ci := 4) (v := .ref (q 5)) (C := RX4) (T := TX4) (N := 24) hx hb hu_wsX40 (fun _ h9 => h9) hown hK hP 0 rfl rfl 5 (by decide) hw4 rfl rfl dX4_share_33 ?_
      refine lv_iload_n hx hb dX4_share_36 rfl (lv_at hl 1 rfl) ?_
      refine lv_iconst (v := 1) hx hb dX4_share_37 (by decide) ?_
      have hPc := hP.sub (ws' := lzI G (q 5) 64 f) [2] rfl
      refine ro_calli (va_runS (As := [.ref (q 5), .int (nI s), .int 1]) (rest := []) ⟨hx, hb, hml, hown, hts⟩ (c_X4_of l G (q 5) f s 1 (by omega) (by decide)) (cwS 3 hts gX4_share_X4_of rfl rfl rfl (by decide +kernel) ⟨Nat.le_of_ble_eq_true rfl, Nat.le_of_ble_eq_true rfl⟩) (ro_pre hK hPc) rfl rfl hl.1 rfl (lv_room (Nat.le_of_ble_eq_true rfl)) dX4_share_38 ⟨Nat.zero_le _, Nat.zero_le _⟩) (fun r_5 hr_5 => ?_)
      refine lz_top (y := f (4 + 5 * s + 1)) hr_5 ?_
      refine lv_topi (fun x_6 ex_6 => ?_)
      refine lv_istore_n (lv' := [(3, .int x_6), (0, .ref m), (1, .int (nI s)), (2, .int n)]) hx hb dX4_share_41 rfl hl (by decide) rfl (fun ls hl => ?_)
      refine lv_aload_n hx hb dX4_share_42 rfl (lv_at hl 1 rfl) ?_
      refine lz_get (G := G) (ci := 4) (v := .ref (q 5)) (C := RX4) (T := TX4) (N := 24) hx hb hu_wsX40 (fun _ h9 => h9) hown hK hP 0 rfl rfl 5 (by decide) hw4 rfl rfl dX4_share_43 ?_
      refine lv_iconst (v := 4) hx hb dX4_share_46 (by decide) ?_
      refine lv_iconst (v := 5) hx hb dX4_share_47 (by decide) ?_
      refine lv_iload_n hx hb dX4_share_48 rfl (lv_at hl 2 rfl) ?_
      refine lv_imul hx hb dX4_share_49 ?_
      refine lv_iadd hx hb dX4_share_50 ?_
      refine lv_iconst (v := 1) hx hb dX4_share_51 (by decide) ?_
      refine lv_iadd hx hb dX4_share_52 ?_
      refine lz_top (y := nI (4 + 5 * s + 1)) (by simp only [fa_lit, pk_mul, nI_add]) ?_
      refine lv_iload_n hx hb dX4_share_53 rfl (lv_at hl 3 rfl) ?_
      refine lz_iast (f := f) hx hb hK hP hD hS 2 rfl (4 + 5 * s + 1) (by omega) (Nat.le_of_ble_eq_true rfl) dX4_share_54 (lzM m q (upd (upd S 0 0) 9 (nI (kpK K + 1))) ++ (lzI G (q 8) 1536 (kpW g f K) ++ (lzI G (q 5) 64 (upd f (4 + 5 * s + 1) n)))) rfl (fun H locs hP hD hS => ?_)
      refine lv_iload_n hx hb dX4_share_55 rfl (lv_at hl 0 rfl) ?_
      exact rw_iret (S := Unit) (G := G) (Wd := fun _ : Unit => (lzM m q (upd (upd S 0 0) 9 (nI (kpK K + 1))) ++ (lzI G (q 8) 1536 (kpW g f K) ++ (lzI G (q 5) 64 (upd f (4 + 5 * s + 1) n))))) () hx hb hr hlk dX4_share_56 hS (hP) (by assumption)
    · skip
      have c_22 := b2_z hr_2 c_22
      exact Bool.noConfusion (hnL.symm.trans c_22)
set_option maxHeartbeats 4000000 in
set_option maxRecDepth 100000 in
theorem c_X4_settle_bad (l : Launch) (G : lzG) (m : Nat) (q : Nat → Nat) (S : Nat → Int32) (f : Nat → Int32) (a : Int32) (hbad : inR a 0 (f 2 - 1) = false) : Met l yX4_settle wsX4_settle ({ frames := 2, cells := 0, slots := 0, locals := 46 }) (va_Pc [.ref m, .int a] (rwP G (lzM m q S ++ lzI G (q 5) 64 f))) (va_Qi (S := Unit) (fun (r : Int32) (_ : Unit) => r = -1000001) (rwB G (fun _ : Unit => (lzM m q (upd S 0 0) ++ lzI G (q 5) 64 f))) (lzA (lzM m q S ++ lzI G (q 5) 64 f))) 0 0 (lzA (lzM m q S ++ lzI G (q 5) 64 f)) := by
  refine rw_start (S := Unit) (cc := cX4_settle) (maxL := 3) (ret := (some .int)) (by decide) rfl (Nat.le_of_ble_eq_true rfl) ?_
  intro pp ee ss mm bl me cd A hx hb hr hlk hml hts hown hP hK hD hAe hS ls hl
  have hA0 : ∀ zz : Nat, lzA (lzM m q S ++ lzI G (q 5) 64 f) zz → A zz := fun zz h9 => by rw [hAe]; exact h9
  rw [← hAe]
  clear hAe
  have hown : ss.vm.findClass RX4 = some mm.cls := hown
  have hw1 := hts (.fieldLink RX4 48 "LampSquaresModel" "thrown" "I") (List.mem_of_getElem? (i := 1) rfl)
  have hw2 := hts (.constant RX4 68 (-1000001)) (List.mem_of_getElem? (i := 2) rfl)
  have hu_wsX40 : ∀ w ∈ wsX40, w.before ([.ref m, .int a] : List Value).toArray ss = true := fun w h9 => hts w (List.mem_cons_of_mem _ (List.mem_append_right _ h9))
  have hl : lv_has ls 3 [(0, .ref m), (1, .int a)] := hl
  refine lv_aload_n hx hb dX4_settle_0 rfl (lv_at hl 0 rfl) ?_
  refine lv_iconst (v := 0) hx hb dX4_settle_1 (by decide) ?_
  refine lz_put (G := G) (ci := 4) (C := RX4) (T := TX4) (N := 24) hx hb hu_wsX40 (fun _ h9 => h9) tyX4 tyX4_ok nmX4 hown hK hP hD hS 0 rfl rfl 0 (by decide) hw1 rfl rfl (by decide +kernel) (Nat.le_of_ble_eq_true rfl) dX4_settle_2 (lzM m q (upd S 0 0) ++ lzI G (q 5) 64 f) rfl (fun H locs hP hD hS => ?_)
  refine lv_aload_n hx hb dX4_settle_5 rfl (lv_at hl 0 rfl) ?_
  refine lv_iload_n hx hb dX4_settle_6 rfl (lv_at hl 1 rfl) ?_
  refine ro_calli (va_runV (As := [.int a]) (rest := []) ⟨hx, hb, hml, hown, hts⟩ (c_X4_isSquare l G m q (upd S 0 0) f a ) (cwV 1 hts gX4_settle_X4_isSquare rfl rfl rfl (by decide +kernel) ⟨Nat.le_of_ble_eq_true rfl, Nat.le_of_ble_eq_true rfl⟩) (ro_preV hK hP hP (ci := 4) (q0 := 0) rfl rfl) rfl rfl hl.1 rfl (lv_room (Nat.le_of_ble_eq_true rfl)) dX4_settle_7 ⟨Nat.zero_le _, Nat.zero_le _⟩) (fun r_1 hr_1 => ?_)
  refine lv_if_ne (tgt := 16) hx hb dX4_settle_10 (by decide) (fun c_10 => ?_) (fun c_10 => ?_)
  · skip
    have c_10 := b2_n hr_1 c_10
    exact Bool.noConfusion (hbad.symm.trans c_10)
  · skip
    have c_10 := b2_z hr_1 c_10
    refine lv_ldc hx hb hown hw2 dX4_settle_13 ?_
    exact rw_iret (S := Unit) (G := G) (Wd := fun _ : Unit => (lzM m q (upd S 0 0) ++ lzI G (q 5) 64 f)) () hx hb hr hlk dX4_settle_15 hS (hP) (rfl)
set_option maxHeartbeats 4000000 in
set_option maxRecDepth 100000 in
theorem c_X4_settle_state (l : Launch) (G : lzG) (m : Nat) (q : Nat → Nat) (S : Nat → Int32) (f : Nat → Int32) (s N : Nat) (hN : f 2 = nI N) (hN8 : N ≤ 8) (hs : s < N) (hC : cntM f s = true) : Met l yX4_settle wsX4_settle ({ frames := 2, cells := 0, slots := 0, locals := 46 }) (va_Pc [.ref m, .int (nI s)] (rwP G (lzM m q S ++ lzI G (q 5) 64 f))) (va_Qi (S := Unit) (fun (r : Int32) (_ : Unit) => r = -1000002) (rwB G (fun _ : Unit => (lzM m q (upd S 0 0) ++ lzI G (q 5) 64 f))) (lzA (lzM m q S ++ lzI G (q 5) 64 f))) 0 0 (lzA (lzM m q S ++ lzI G (q 5) 64 f)) := by
  have hB : inR (nI s) 0 (f 2 - 1) = true := inR_ok hN hs (by omega)
  refine rw_start (S := Unit) (cc := cX4_settle) (maxL := 3) (ret := (some .int)) (by decide) rfl (Nat.le_of_ble_eq_true rfl) ?_
  intro pp ee ss mm bl me cd A hx hb hr hlk hml hts hown hP hK hD hAe hS ls hl
  have hA0 : ∀ zz : Nat, lzA (lzM m q S ++ lzI G (q 5) 64 f) zz → A zz := fun zz h9 => by rw [hAe]; exact h9
  rw [← hAe]
  clear hAe
  have hown : ss.vm.findClass RX4 = some mm.cls := hown
  have hw1 := hts (.fieldLink RX4 48 "LampSquaresModel" "thrown" "I") (List.mem_of_getElem? (i := 1) rfl)
  have hw3 := hts (.fieldLink RX4 19 "LampSquaresModel" "door" "[I") (List.mem_of_getElem? (i := 3) rfl)
  have hw4 := hts (.constant RX4 204 (-1000002)) (List.mem_of_getElem? (i := 4) rfl)
  have hu_wsX40 : ∀ w ∈ wsX40, w.before ([.ref m, .int (nI s)] : List Value).toArray ss = true := fun w h9 => hts w (List.mem_cons_of_mem _ (List.mem_append_right _ h9))
  have hl : lv_has ls 3 [(0, .ref m), (1, .int (nI s))] := hl
  refine lv_aload_n hx hb dX4_settle_0 rfl (lv_at hl 0 rfl) ?_
  refine lv_iconst (v := 0) hx hb dX4_settle_1 (by decide) ?_
  refine lz_put (G := G) (ci := 4) (C := RX4) (T := TX4) (N := 24) hx hb hu_wsX40 (fun _ h9 => h9) tyX4 tyX4_ok nmX4 hown hK hP hD hS 0 rfl rfl 0 (by decide) hw1 rfl rfl (by decide +kernel) (Nat.le_of_ble_eq_true rfl) dX4_settle_2 (lzM m q (upd S 0 0) ++ lzI G (q 5) 64 f) rfl (fun H locs hP hD hS => ?_)
  refine lv_aload_n hx hb dX4_settle_5 rfl (lv_at hl 0 rfl) ?_
  refine lv_iload_n hx hb dX4_settle_6 rfl (lv_at hl 1 rfl) ?_
  refine ro_calli (va_runV (As := [.int (nI s)]) (rest := []) ⟨hx, hb, hml, hown, hts⟩ (c_X4_isSquare l G m q (upd S 0 0) f (nI s) ) (cwV 1 hts gX4_settle_X4_isSquare rfl rfl rfl (by decide +kernel) ⟨Nat.le_of_ble_eq_true rfl, Nat.le_of_ble_eq_true rfl⟩) (ro_preV hK hP hP (ci := 4) (q0 := 0) rfl rfl) rfl rfl hl.1 rfl (lv_room (Nat.le_of_ble_eq_true rfl)) dX4_settle_7 ⟨Nat.zero_le _, Nat.zero_le _⟩) (fun r_1 hr_1 => ?_)
  refine lv_if_ne (tgt := 16) hx hb dX4_settle_10 (by decide) (fun c_10 => ?_) (fun c_10 => ?_)
  · skip
    have c_10 := b2_n hr_1 c_10
    refine lv_aload_n hx hb dX4_settle_16 rfl (lv_at hl 0 rfl) ?_
    refine lz_get (G := G) (ci := 4) (v := .ref (q 5)) (C := RX4) (T := TX4) (N := 24) hx hb hu_wsX40 (fun _ h9 => h9) hown hK hP 0 rfl rfl 5 (by decide) hw3 rfl rfl dX4_settle_17 ?_
    refine lv_iload_n hx hb dX4_settle_20 rfl (lv_at hl 1 rfl) ?_
    have hPc := hP.sub (ws' := lzI G (q 5) 64 f) [1] rfl
    refine ro_calli (va_runS (As := [.ref (q 5), .int (nI s)]) (rest := []) ⟨hx, hb, hml, hown, hts⟩ (c_X4_counts l G (q 5) f s (by omega)) (cwS 2 hts gX4_settle_X4_counts rfl rfl rfl (by decide +kernel) ⟨Nat.le_of_ble_eq_true rfl, Nat.le_of_ble_eq_true rfl⟩) (ro_pre hK hPc) rfl rfl hl.1 rfl (lv_room (Nat.le_of_ble_eq_true rfl)) dX4_settle_21 ⟨Nat.zero_le _, Nat.zero_le _⟩) (fun r_2 hr_2 => ?_)
    refine lv_if_eq (tgt := 30) hx hb dX4_settle_24 (by decide) (fun c_24 => ?_) (fun c_24 => ?_)
    · skip
      have c_24 := b2_z hr_2 c_24
      exact Bool.noConfusion (hC.symm.trans c_24)
    · skip
      have c_24 := b2_n hr_2 c_24
      refine lv_ldc hx hb hown hw4 dX4_settle_27 ?_
      exact rw_iret (S := Unit) (G := G) (Wd := fun _ : Unit => (lzM m q (upd S 0 0) ++ lzI G (q 5) 64 f)) () hx hb hr hlk dX4_settle_29 hS (hP) (rfl)
  · skip
    have c_10 := b2_z hr_1 c_10
    exact Bool.noConfusion (hB.symm.trans c_10)
set_option maxHeartbeats 4000000 in
set_option maxRecDepth 100000 in
theorem c_X4_settle_ok (l : Launch) (G : lzG) (m : Nat) (q : Nat → Nat) (S : Nat → Int32) (g f : Nat → Int32) (K s N : Nat) (hAc : S 9 = nI K) (hK24 : K ≤ 24) (hN : f 2 = nI N) (hN8 : N ≤ 8) (hs : s < N) (hC : cntM f s = false) : Met l yX4_settle wsX4_settle ({ frames := 2, cells := 0, slots := 0, locals := 46 }) (va_Pc [.ref m, .int (nI s)] (rwP G (lzM m q S ++ (lzI G (q 8) 1536 g ++ (lzI G (q 5) 64 f))))) (va_Qi (S := Unit) (fun (r : Int32) (_ : Unit) => r = if f (4 + 5 * s + 3) < f (4 + 5 * s + 2) then 1 else 0) (rwB G (fun _ : Unit => (lzM m q (upd (upd S 0 0) 9 (nI (kpK K + 1))) ++ (lzI G (q 8) 1536 (kpW g f K) ++ (lzI G (q 5) 64 (upd f (4 + 5 * s + 4) (if f (4 + 5 * s + 3) < f (4 + 5 * s + 2) then 2 else 1))))))) (lzA (lzM m q S ++ (lzI G (q 8) 1536 g ++ (lzI G (q 5) 64 f))))) 0 0 (lzA (lzM m q S ++ (lzI G (q 8) 1536 g ++ (lzI G (q 5) 64 f)))) := by
  have hB : inR (nI s) 0 (f 2 - 1) = true := inR_ok hN hs (by omega)
  refine rw_start (S := Unit) (cc := cX4_settle) (maxL := 3) (ret := (some .int)) (by decide) rfl (Nat.le_of_ble_eq_true rfl) ?_
  intro pp ee ss mm bl me cd A hx hb hr hlk hml hts hown hP hK hD hAe hS ls hl
  have hA0 : ∀ zz : Nat, lzA (lzM m q S ++ (lzI G (q 8) 1536 g ++ (lzI G (q 5) 64 f))) zz → A zz := fun zz h9 => by rw [hAe]; exact h9
  rw [← hAe]
  clear hAe
  have hown : ss.vm.findClass RX4 = some mm.cls := hown
  have hw1 := hts (.fieldLink RX4 48 "LampSquaresModel" "thrown" "I") (List.mem_of_getElem? (i := 1) rfl)
  have hw3 := hts (.fieldLink RX4 19 "LampSquaresModel" "door" "[I") (List.mem_of_getElem? (i := 3) rfl)
  have hu_wsX40 : ∀ w ∈ wsX40, w.before ([.ref m, .int (nI s)] : List Value).toArray ss = true := fun w h9 => hts w (List.mem_cons_of_mem _ (List.mem_append_right _ h9))
  have hl : lv_has ls 3 [(0, .ref m), (1, .int (nI s))] := hl
  refine lv_aload_n hx hb dX4_settle_0 rfl (lv_at hl 0 rfl) ?_
  refine lv_iconst (v := 0) hx hb dX4_settle_1 (by decide) ?_
  refine lz_put (G := G) (ci := 4) (C := RX4) (T := TX4) (N := 24) hx hb hu_wsX40 (fun _ h9 => h9) tyX4 tyX4_ok nmX4 hown hK hP hD hS 0 rfl rfl 0 (by decide) hw1 rfl rfl (by decide +kernel) (Nat.le_of_ble_eq_true rfl) dX4_settle_2 (lzM m q (upd S 0 0) ++ (lzI G (q 8) 1536 g ++ (lzI G (q 5) 64 f))) rfl (fun H locs hP hD hS => ?_)
  refine lv_aload_n hx hb dX4_settle_5 rfl (lv_at hl 0 rfl) ?_
  refine lv_iload_n hx hb dX4_settle_6 rfl (lv_at hl 1 rfl) ?_
  have hPc := hP.sub (ws' := (lzM m q (upd S 0 0) ++ lzI G (q 5) 64 f)) [0, 2] rfl
  refine ro_calli (va_runV (As := [.int (nI s)]) (rest := []) ⟨hx, hb, hml, hown, hts⟩ (c_X4_isSquare l G m q (upd S 0 0) f (nI s) ) (cwV 1 hts gX4_settle_X4_isSquare rfl rfl rfl (by decide +kernel) ⟨Nat.le_of_ble_eq_true rfl, Nat.le_of_ble_eq_true rfl⟩) (ro_preV hK hPc hP (ci := 4) (q0 := 0) rfl rfl) rfl rfl hl.1 rfl (lv_room (Nat.le_of_ble_eq_true rfl)) dX4_settle_7 ⟨Nat.zero_le _, Nat.zero_le _⟩) (fun r_1 hr_1 => ?_)
  refine lv_if_ne (tgt := 16) hx hb dX4_settle_10 (by decide) (fun c_10 => ?_) (fun c_10 => ?_)
  · skip
    have c_10 := b2_n hr_1 c_10
    refine lv_aload_n hx hb dX4_settle_16 rfl (lv_at hl 0 rfl) ?_
    refine lz_get (G := G) (ci := 4) (v := .ref (q 5)) (C := RX4) (T := TX4) (N := 24) hx hb hu_wsX40 (fun _ h9 => h9) hown hK hP 0 rfl rfl 5 (by decide) hw3 rfl rfl dX4_settle_17 ?_
    refine lv_iload_n hx hb dX4_settle_20 rfl (lv_at hl 1 rfl) ?_
    have hPc := hP.sub (ws' := lzI G (q 5) 64 f) [2] rfl
    refine ro_calli (va_runS (As := [.ref (q 5), .int (nI s)]) (rest := []) ⟨hx, hb, hml, hown, hts⟩ (c_X4_counts l G (q 5) f s (by omega)) (cwS 2 hts gX4_settle_X4_counts rfl rfl rfl (by decide +kernel) ⟨Nat.le_of_ble_eq_true rfl, Nat.le_of_ble_eq_true rfl⟩) (ro_pre hK hPc) rfl rfl hl.1 rfl (lv_room (Nat.le_of_ble_eq_true rfl)) dX4_settle_21 ⟨Nat.zero_le _, Nat.zero_le _⟩) (fun r_2 hr_2 => ?_)
    refine lv_if_eq (tgt := 30) hx hb dX4_settle_24 (by decide) (fun c_24 => ?_) (fun c_24 => ?_)
    · skip
      have c_24 := b2_z hr_2 c_24
      refine lv_aload_n hx hb dX4_settle_30 rfl (lv_at hl 0 rfl) ?_
      have hFc : ∀ zz : Nat, lzA (lzM m q (upd S 0 0) ++ (lzI G (q 8) 1536 g ++ (lzI G (q 5) 64 f))) zz → A zz := lz_free hD [0, 1, 2] rfl
      refine va_callv (va_runV (As := []) (rest := []) ⟨hx, hb, hml, hown, hts⟩ (c_X4_keep l G m q (upd S 0 0) g f K (hAc) (hK24)) (cwV 0 hts gX4_settle_X4_keep rfl rfl rfl (by decide +kernel) ⟨Nat.le_of_ble_eq_true rfl, Nat.le_of_ble_eq_true rfl⟩) (rw_preV hK hP hD hP (ci := 4) (q0 := 0) rfl rfl) rfl rfl hl.1 rfl (lv_room (Nat.le_of_ble_eq_true rfl)) dX4_settle_31 ⟨Nat.zero_le _, Nat.zero_le _⟩) hS (fun q _ h => hFc q h) hFc (fun u_4 t9 H1 locs ht hvm hr_3 hB hz1 hk1 hS => ?_)
      replace hB : va_P G.1 lzC _ t9.heap := hB
      rw [ht] at hB
      obtain ⟨hP, hD⟩ := lz_join (wc := (lzM m q (upd S 0 0) ++ (lzI G (q 8) 1536 g ++ (lzI G (q 5) 64 f)))) (wr := ([] : va_W)) (w1 := (lzM m q (upd (upd S 0 0) 9 (nI (kpK K + 1))) ++ (lzI G (q 8) 1536 (kpW g f K) ++ (lzI G (q 5) 64 f)))) hP hD [0, 1, 2] [] rfl rfl (by decide) (by decide) rfl hk1 hB
      replace hP := hP.sub (ws' := (lzM m q (upd (upd S 0 0) 9 (nI (kpK K + 1))) ++ (lzI G (q 8) 1536 (kpW g f K) ++ (lzI G (q 5) 64 f)))) [0, 1, 2] rfl
      replace hD := hD.sub (ws' := (lzM m q (upd (upd S 0 0) 9 (nI (kpK K + 1))) ++ (lzI G (q 8) 1536 (kpW g f K) ++ (lzI G (q 5) 64 f)))) [0, 1, 2] (by decide) rfl
      clear ht hvm hB hz1 hk1
      generalize H1 = H at hP hS ⊢
      refine lv_aload_n hx hb dX4_settle_34 rfl (lv_at hl 0 rfl) ?_
      refine lz_get (G := G) (ci := 4) (v := .ref (q 5)) (C := RX4) (T := TX4) (N := 24) hx hb hu_wsX40 (fun _ h9 => h9) hown hK hP 0 rfl rfl 5 (by decide) hw3 rfl rfl dX4_settle_35 ?_
      refine lv_iload_n hx hb dX4_settle_38 rfl (lv_at hl 1 rfl) ?_
      refine lv_iconst (v := 2) hx hb dX4_settle_39 (by decide) ?_
      have hPc := hP.sub (ws' := lzI G (q 5) 64 f) [2] rfl
      refine ro_calli (va_runS (As := [.ref (q 5), .int (nI s), .int 2]) (rest := []) ⟨hx, hb, hml, hown, hts⟩ (c_X4_of l G (q 5) f s 2 (by omega) (by decide)) (cwS 3 hts gX4_settle_X4_of rfl rfl rfl (by decide +kernel) ⟨Nat.le_of_ble_eq_true rfl, Nat.le_of_ble_eq_true rfl⟩) (ro_pre hK hPc) rfl rfl hl.1 rfl (lv_room (Nat.le_of_ble_eq_true rfl)) dX4_settle_40 ⟨Nat.zero_le _, Nat.zero_le _⟩) (fun r_5 hr_5 => ?_)
      refine lz_top (y := f (4 + 5 * s + 2)) hr_5 ?_
      refine lv_aload_n hx hb dX4_settle_43 rfl (lv_at hl 0 rfl) ?_
      refine lz_get (G := G) (ci := 4) (v := .ref (q 5)) (C := RX4) (T := TX4) (N := 24) hx hb hu_wsX40 (fun _ h9 => h9) hown hK hP 0 rfl rfl 5 (by decide) hw3 rfl rfl dX4_settle_44 ?_
      refine lv_iload_n hx hb dX4_settle_47 rfl (lv_at hl 1 rfl) ?_
      refine lv_iconst (v := 3) hx hb dX4_settle_48 (by decide) ?_
      have hPc := hP.sub (ws' := lzI G (q 5) 64 f) [2] rfl
      refine ro_calli (va_runS (As := [.ref (q 5), .int (nI s), .int 3]) (rest := [.int (f (4 + 5 * s + 2))]) ⟨hx, hb, hml, hown, hts⟩ (c_X4_of l G (q 5) f s 3 (by omega) (by decide)) (cwS 3 hts gX4_settle_X4_of rfl rfl rfl (by decide +kernel) ⟨Nat.le_of_ble_eq_true rfl, Nat.le_of_ble_eq_true rfl⟩) (ro_pre hK hPc) rfl rfl hl.1 rfl (lv_room (Nat.le_of_ble_eq_true rfl)) dX4_settle_49 ⟨Nat.zero_le _, Nat.zero_le _⟩) (fun r_6 hr_6 => ?_)
      refine lz_top (y := f (4 + 5 * s + 3)) hr_6 ?_
      refine lv_icmp_le (tgt := 59) hx hb dX4_settle_52 (by decide) (fun c_52 => ?_) (fun c_52 => ?_)
      · skip
        have c_52' := Int32.not_lt.mpr c_52
        refine lv_iconst (v := 0) hx hb dX4_settle_59 (by decide) ?_
        refine lv_istore_n (lv' := [(2, .int 0), (0, .ref m), (1, .int (nI s))]) hx hb dX4_settle_60 rfl hl (by decide) rfl (fun ls hl => ?_)
        refine lv_aload_n hx hb dX4_settle_61 rfl (lv_at hl 1 rfl) ?_
        refine lz_get (G := G) (ci := 4) (v := .ref (q 5)) (C := RX4) (T := TX4) (N := 24) hx hb hu_wsX40 (fun _ h9 => h9) hown hK hP 0 rfl rfl 5 (by decide) hw3 rfl rfl dX4_settle_62 ?_
        refine lv_iconst (v := 4) hx hb dX4_settle_65 (by decide) ?_
        refine lv_iconst (v := 5) hx hb dX4_settle_66 (by decide) ?_
        refine lv_iload_n hx hb dX4_settle_67 rfl (lv_at hl 2 rfl) ?_
        refine lv_imul hx hb dX4_settle_68 ?_
        refine lv_iadd hx hb dX4_settle_69 ?_
        refine lv_iconst (v := 4) hx hb dX4_settle_70 (by decide) ?_
        refine lv_iadd hx hb dX4_settle_71 ?_
        refine lz_top (y := nI (4 + 5 * s + 4)) (by simp only [fa_lit, pk_mul, nI_add]) ?_
        refine lv_iload_n hx hb dX4_settle_72 rfl (lv_at hl 0 rfl) ?_
        refine lv_if_eq (tgt := 80) hx hb dX4_settle_73 (by decide) (fun c_73 => ?_) (fun c_73 => ?_)
        · skip
          refine lv_iconst (v := 1) hx hb dX4_settle_80 (by decide) ?_
          refine lz_iast (f := f) hx hb hK hP hD hS 2 rfl (4 + 5 * s + 4) (by omega) (Nat.le_of_ble_eq_true rfl) dX4_settle_81 (lzM m q (upd (upd S 0 0) 9 (nI (kpK K + 1))) ++ (lzI G (q 8) 1536 (kpW g f K) ++ (lzI G (q 5) 64 (upd f (4 + 5 * s + 4) 1)))) rfl (fun H locs hP hD hS => ?_)
          refine lv_iload_n hx hb dX4_settle_82 rfl (lv_at hl 0 rfl) ?_
          refine lv_if_eq (tgt := 90) hx hb dX4_settle_83 (by decide) (fun c_83 => ?_) (fun c_83 => ?_)
          · skip
            refine lv_iconst (v := 0) hx hb dX4_settle_90 (by decide) ?_
            exact rw_iret (S := Unit) (G := G) (Wd := fun _ : Unit => (lzM m q (upd (upd S 0 0) 9 (nI (kpK K + 1))) ++ (lzI G (q 8) 1536 (kpW g f K) ++ (lzI G (q 5) 64 (upd f (4 + 5 * s + 4) (if f (4 + 5 * s + 3) < f (4 + 5 * s + 2) then 2 else 1)))))) () hx hb hr hlk dX4_settle_91 hS (by show va_P G.1 lzC (lzM m q (upd (upd S 0 0) 9 (nI (kpK K + 1))) ++ (lzI G (q 8) 1536 (kpW g f K) ++ (lzI G (q 5) 64 (upd f (4 + 5 * s + 4) (if f (4 + 5 * s + 3) < f (4 + 5 * s + 2) then 2 else 1))))) _; first | (rw [if_pos c_52']; exact hP) | (rw [if_neg (Int32.not_lt.mpr c_52)]; exact hP)) (by first | rw [if_pos c_52'] | rw [if_neg (Int32.not_lt.mpr c_52)])
          · skip
            exact False.elim (by revert c_83; decide)
        · skip
          exact False.elim (by revert c_73; decide)
      · skip
        have c_52' := Int32.not_le.mp c_52
        refine lv_iconst (v := 1) hx hb dX4_settle_55 (by decide) ?_
        refine lv_goto (tgt := 60) hx hb dX4_settle_56 (by decide) ?_
        refine lv_istore_n (lv' := [(2, .int 1), (0, .ref m), (1, .int (nI s))]) hx hb dX4_settle_60 rfl hl (by decide) rfl (fun ls hl => ?_)
        refine lv_aload_n hx hb dX4_settle_61 rfl (lv_at hl 1 rfl) ?_
        refine lz_get (G := G) (ci := 4) (v := .ref (q 5)) (C := RX4) (T := TX4) (N := 24) hx hb hu_wsX40 (fun _ h9 => h9) hown hK hP 0 rfl rfl 5 (by decide) hw3 rfl rfl dX4_settle_62 ?_
        refine lv_iconst (v := 4) hx hb dX4_settle_65 (by decide) ?_
        refine lv_iconst (v := 5) hx hb dX4_settle_66 (by decide) ?_
        refine lv_iload_n hx hb dX4_settle_67 rfl (lv_at hl 2 rfl) ?_
        refine lv_imul hx hb dX4_settle_68 ?_
        refine lv_iadd hx hb dX4_settle_69 ?_
        refine lv_iconst (v := 4) hx hb dX4_settle_70 (by decide) ?_
        refine lv_iadd hx hb dX4_settle_71 ?_
        refine lz_top (y := nI (4 + 5 * s + 4)) (by simp only [fa_lit, pk_mul, nI_add]) ?_
        refine lv_iload_n hx hb dX4_settle_72 rfl (lv_at hl 0 rfl) ?_
        refine lv_if_eq (tgt := 80) hx hb dX4_settle_73 (by decide) (fun c_73 => ?_) (fun c_73 => ?_)
        · skip
          exact False.elim (by revert c_73; decide)
        · skip
          refine lv_iconst (v := 2) hx hb dX4_settle_76 (by decide) ?_
          refine lv_goto (tgt := 81) hx hb dX4_settle_77 (by decide) ?_
          refine lz_iast (f := f) hx hb hK hP hD hS 2 rfl (4 + 5 * s + 4) (by omega) (Nat.le_of_ble_eq_true rfl) dX4_settle_81 (lzM m q (upd (upd S 0 0) 9 (nI (kpK K + 1))) ++ (lzI G (q 8) 1536 (kpW g f K) ++ (lzI G (q 5) 64 (upd f (4 + 5 * s + 4) 2)))) rfl (fun H locs hP hD hS => ?_)
          refine lv_iload_n hx hb dX4_settle_82 rfl (lv_at hl 0 rfl) ?_
          refine lv_if_eq (tgt := 90) hx hb dX4_settle_83 (by decide) (fun c_83 => ?_) (fun c_83 => ?_)
          · skip
            exact False.elim (by revert c_83; decide)
          · skip
            refine lv_iconst (v := 1) hx hb dX4_settle_86 (by decide) ?_
            refine lv_goto (tgt := 91) hx hb dX4_settle_87 (by decide) ?_
            exact rw_iret (S := Unit) (G := G) (Wd := fun _ : Unit => (lzM m q (upd (upd S 0 0) 9 (nI (kpK K + 1))) ++ (lzI G (q 8) 1536 (kpW g f K) ++ (lzI G (q 5) 64 (upd f (4 + 5 * s + 4) (if f (4 + 5 * s + 3) < f (4 + 5 * s + 2) then 2 else 1)))))) () hx hb hr hlk dX4_settle_91 hS (by show va_P G.1 lzC (lzM m q (upd (upd S 0 0) 9 (nI (kpK K + 1))) ++ (lzI G (q 8) 1536 (kpW g f K) ++ (lzI G (q 5) 64 (upd f (4 + 5 * s + 4) (if f (4 + 5 * s + 3) < f (4 + 5 * s + 2) then 2 else 1))))) _; first | (rw [if_pos c_52']; exact hP) | (rw [if_neg (Int32.not_lt.mpr c_52)]; exact hP)) (by first | rw [if_pos c_52'] | rw [if_neg (Int32.not_lt.mpr c_52)])
    · skip
      have c_24 := b2_n hr_2 c_24
      exact Bool.noConfusion (hC.symm.trans c_24)
  · skip
    have c_10 := b2_z hr_1 c_10
    exact Bool.noConfusion (hB.symm.trans c_10)
set_option maxHeartbeats 4000000 in
set_option maxRecDepth 100000 in
theorem c_X4_poses_in (l : Launch) (G : lzG) (a : Nat) (f : Nat → Int32) (v : Nat) (set : Int32) (N : Nat) (hv : v < 5) (hN : f 2 = nI N) (hN8 : N ≤ 8) (hB : wrgN f v set N ≤ f 1) : Met l yX4_poses wsX4_poses ({ frames := 5, cells := 0, slots := 0, locals := 114 }) (va_Pc [.ref a, .int (nI v), .int set] (rwP G (lzI G a 64 f))) (va_Qi (S := Unit) (fun (r : Int32) (_ : Unit) => r = b2 (true)) (rwB G (fun _ : Unit => lzI G a 64 (letF (votR f v set N) v 1))) (lzA (lzI G a 64 f))) 0 0 (lzA (lzI G a 64 f)) := by
  refine rw_start (S := Unit) (cc := cX4_poses) (maxL := 6) (ret := (some .boolean)) (by decide) rfl (Nat.le_of_ble_eq_true rfl) ?_
  intro pp ee ss mm bl me cd A hx hb hr hlk hml hts hown hP hK hD hAe hS ls hl
  have hA0 : ∀ zz : Nat, lzA (lzI G a 64 f) zz → A zz := fun zz h9 => by rw [hAe]; exact h9
  rw [← hAe]
  clear hAe
  have hown : ss.vm.findClass RX4 = some mm.cls := hown
  have hl : lv_has ls 6 [(0, .ref a), (1, .int (nI v)), (2, .int set)] := hl
  refine lv_aload_n hx hb dX4_poses_0 rfl (lv_at hl 0 rfl) ?_
  refine lv_iload_n hx hb dX4_poses_1 rfl (lv_at hl 1 rfl) ?_
  refine lv_iload_n hx hb dX4_poses_2 rfl (lv_at hl 2 rfl) ?_
  refine ro_calli (va_runS (As := [.ref a, .int (nI v), .int set]) (rest := []) ⟨hx, hb, hml, hown, hts⟩ (c_X4_wrongOf l G a f v set N (by omega) (hN) (hN8)) (cwS 3 hts gX4_poses_X4_wrongOf rfl rfl rfl (by decide +kernel) ⟨Nat.le_of_ble_eq_true rfl, Nat.le_of_ble_eq_true rfl⟩) (ro_pre hK hP) rfl rfl hl.1 rfl (lv_room (Nat.le_of_ble_eq_true rfl)) dX4_poses_3 ⟨Nat.zero_le _, Nat.zero_le _⟩) (fun r_1 hr_1 => ?_)
  refine lz_top (y := wrgN f v set N) hr_1 ?_
  refine lv_aload_n hx hb dX4_poses_6 rfl (lv_at hl 0 rfl) ?_
  refine lv_iconst (v := 1) hx hb dX4_poses_7 (by decide) ?_
  refine lz_iald (f := f) hx hb hK hP 0 rfl 1 (by omega) (Nat.le_of_ble_eq_true rfl) dX4_poses_8 ?_
  refine lv_icmp_gt (tgt := 16) hx hb dX4_poses_9 (by decide) (fun c_9 => ?_) (fun c_9 => ?_)
  · skip
    have c_9' := Int32.not_le.mpr c_9
    exact absurd hB (Int32.not_le.mpr c_9)
  · skip
    have c_9' := Int32.not_lt.mp c_9
    refine lv_iconst (v := 1) hx hb dX4_poses_12 (by decide) ?_
    refine lv_goto (tgt := 17) hx hb dX4_poses_13 (by decide) ?_
    refine lv_istore_n (lv' := [(3, .int 1), (0, .ref a), (1, .int (nI v)), (2, .int set)]) hx hb dX4_poses_17 rfl hl (by decide) rfl (fun ls hl => ?_)
    refine lv_iconst (v := 0) hx hb dX4_poses_18 (by decide) ?_
    refine lv_istore (lv' := [(4, .int 0), (3, .int 1), (0, .ref a), (1, .int (nI v)), (2, .int set)]) hx hb dX4_poses_19 hl (by decide) rfl (fun ls hl => ?_)
    have J_21 : ∀ (n9 : Nat), ∀ (k : Nat), (k ≤ N) → N - k < n9 → ∀ (H : Heap) (locs : List Loc), va_P G.1 lzC (lzI G a 64 (votR f v set k)) H → va_D A (lzI G a 64 (votR f v set k)) → va_S A ss.heap H locs → ∀ ls : Array Slot, lv_has ls 6 [(4, .int (nI k)), (3, .int 1), (0, .ref a), (1, .int (nI v)), (2, .int set)] → W pp l ee ({ frames := 5, cells := 0, slots := 0, locals := 114 }) ss mm ([.ref a, .int (nI v), .int set] : List Value).toArray bl me cd H locs 0 0 (MQ bl (va_Qi (S := Unit) (fun (r : Int32) (_ : Unit) => r = b2 (true)) (rwB G (fun _ : Unit => lzI G a 64 (letF (votR f v set N) v 1))) A) ([.ref a, .int (nI v), .int set] : List Value).toArray ss 0 0 A) (F0 mm 21 ls []) := by
      intro n9
      induction n9 with
      | zero => intro k hk hn; exact absurd hn (Nat.not_lt_zero _)
      | succ n9 ih_21 =>
        intro k hk hn_21 H locs hP hD hS ls hl
        refine lv_iload hx hb dX4_poses_21 (lv_at hl 0 rfl) ?_
        refine lv_aload_n hx hb dX4_poses_23 rfl (lv_at hl 2 rfl) ?_
        refine lv_iconst (v := 2) hx hb dX4_poses_24 (by decide) ?_
        refine lz_iald (f := votR f v set k) hx hb hK hP 0 rfl 2 (by omega) (Nat.le_of_ble_eq_true rfl) dX4_poses_25 ?_
        refine lv_icmp_ge (tgt := 102) hx hb dX4_poses_26 (by decide) (fun c_26 => ?_) (fun c_26 => ?_)
        · skip
          have c_26' := Int32.not_lt.mpr c_26
          have hk2 : N ≤ k := lz_ge ((votR_lo _ _ _ (by decide) _).trans hN) c_26 (by omega) (by omega)
          have hk3 : k = N := by omega
          refine lv_aload_n hx hb dX4_poses_102 rfl (lv_at hl 2 rfl) ?_
          refine lv_bipush (v := 44) hx hb dX4_poses_103 (by decide) ?_
          refine lv_iconst (v := 4) hx hb dX4_poses_105 (by decide) ?_
          refine lv_iload_n hx hb dX4_poses_106 rfl (lv_at hl 3 rfl) ?_
          refine lv_imul hx hb dX4_poses_107 ?_
          refine lv_iadd hx hb dX4_poses_108 ?_
          refine lv_iconst (v := 2) hx hb dX4_poses_109 (by decide) ?_
          refine lv_iadd hx hb dX4_poses_110 ?_
          refine lz_top (y := nI (44 + 4 * v + 2)) (by simp only [fa_lit, pk_mul, nI_add]) ?_
          refine lv_dup2_11 hx hb dX4_poses_111 rfl rfl ?_
          refine lz_iald (f := votR f v set k) hx hb hK hP 0 rfl (44 + 4 * v + 2) (by omega) (Nat.le_of_ble_eq_true rfl) dX4_poses_112 ?_
          refine lv_iconst (v := 1) hx hb dX4_poses_113 (by decide) ?_
          refine lv_iadd hx hb dX4_poses_114 ?_
          refine lz_iast (f := votR f v set k) hx hb hK hP hD hS 0 rfl (44 + 4 * v + 2) (by omega) (Nat.le_of_ble_eq_true rfl) dX4_poses_115 (lzI G a 64 (upd (votR f v set k) (44 + 4 * v + 2) (((votR f v set k) (44 + 4 * v + 2)) + 1))) rfl (fun H locs hP hD hS => ?_)
          refine lv_aload_n hx hb dX4_poses_116 rfl (lv_at hl 2 rfl) ?_
          refine lv_bipush (v := 44) hx hb dX4_poses_117 (by decide) ?_
          refine lv_iconst (v := 4) hx hb dX4_poses_119 (by decide) ?_
          refine lv_iload_n hx hb dX4_poses_120 rfl (lv_at hl 3 rfl) ?_
          refine lv_imul hx hb dX4_poses_121 ?_
          refine lv_iadd hx hb dX4_poses_122 ?_
          refine lv_iconst (v := 3) hx hb dX4_poses_123 (by decide) ?_
          refine lv_iadd hx hb dX4_poses_124 ?_
          refine lz_top (y := nI (44 + 4 * v + 3)) (by simp only [fa_lit, pk_mul, nI_add]) ?_
          refine lv_dup2_11 hx hb dX4_poses_125 rfl rfl ?_
          refine lz_iald (f := upd (votR f v set k) (44 + 4 * v + 2) (((votR f v set k) (44 + 4 * v + 2)) + 1)) hx hb hK hP 0 rfl (44 + 4 * v + 3) (by omega) (Nat.le_of_ble_eq_true rfl) dX4_poses_126 ?_
          refine lv_iload_n hx hb dX4_poses_127 rfl (lv_at hl 1 rfl) ?_
          refine lv_if_eq (tgt := 135) hx hb dX4_poses_128 (by decide) (fun c_128 => ?_) (fun c_128 => ?_)
          · skip
            exact False.elim (by revert c_128; decide)
          · skip
            refine lv_iconst (v := 1) hx hb dX4_poses_131 (by decide) ?_
            refine lv_goto (tgt := 136) hx hb dX4_poses_132 (by decide) ?_
            refine lv_iadd hx hb dX4_poses_136 ?_
            refine lz_iast (f := upd (votR f v set k) (44 + 4 * v + 2) (((votR f v set k) (44 + 4 * v + 2)) + 1)) hx hb hK hP hD hS 0 rfl (44 + 4 * v + 3) (by omega) (Nat.le_of_ble_eq_true rfl) dX4_poses_137 (lzI G a 64 (upd (upd (votR f v set k) (44 + 4 * v + 2) (((votR f v set k) (44 + 4 * v + 2)) + 1)) (44 + 4 * v + 3) (((upd (votR f v set k) (44 + 4 * v + 2) (((votR f v set k) (44 + 4 * v + 2)) + 1)) (44 + 4 * v + 3)) + 1))) rfl (fun H locs hP hD hS => ?_)
            refine lv_iload_n hx hb dX4_poses_138 rfl (lv_at hl 1 rfl) ?_
            exact rw_zret (S := Unit) (G := G) (Wd := fun _ : Unit => lzI G a 64 (letF (votR f v set N) v 1)) (B := true) () hx hb hr hlk dX4_poses_139 hS (by rw [hk3] at hP; exact hP) (rfl) (rfl)
        · skip
          have c_26' := Int32.not_le.mp c_26
          have hk2 : k < N := lz_lt ((votR_lo _ _ _ (by decide) _).trans hN) c_26 (by omega) (by omega)
          refine lv_iload_n hx hb dX4_poses_29 rfl (lv_at hl 1 rfl) ?_
          refine lv_if_eq (tgt := 102) hx hb dX4_poses_30 (by decide) (fun c_30 => ?_) (fun c_30 => ?_)
          · skip
            exact False.elim (by revert c_30; decide)
          · skip
            refine lv_iload_n hx hb dX4_poses_33 rfl (lv_at hl 4 rfl) ?_
            refine lv_iload hx hb dX4_poses_34 (lv_at hl 0 rfl) ?_
            refine ro_calli (va_runS (As := [.int set, .int (nI k)]) (rest := []) ⟨hx, hb, hml, hown, hts⟩ (c_X4_has l G set k ) (cwS 2 hts gX4_poses_X4_has rfl rfl rfl (by decide +kernel) ⟨Nat.le_of_ble_eq_true rfl, Nat.le_of_ble_eq_true rfl⟩) (ro_pre hK (fun k q h => by simp at h)) rfl rfl hl.1 rfl (lv_room (Nat.le_of_ble_eq_true rfl)) dX4_poses_36 ⟨Nat.zero_le _, Nat.zero_le _⟩) (fun r_2 hr_2 => ?_)
            refine lv_if_eq (tgt := 96) hx hb dX4_poses_39 (by decide) (fun c_39 => ?_) (fun c_39 => ?_)
            · skip
              have c_39 := b2_z hr_2 c_39
              refine lv_iinc (v := nI (k + 1)) (lv' := [(4, .int (nI (k + 1))), (3, .int 1), (0, .ref a), (1, .int (nI v)), (2, .int set)]) hx hb dX4_poses_96 hl (k := 0) rfl (nI_1 _) (by decide) rfl (fun ls hl => ?_)
              refine lv_goto (tgt := 21) hx hb dX4_poses_99 (by decide) ?_
              have hE_3 : votR f v set k = votR f v set (k + 1) := by simp [votR, capM, c_9, c_9', c_26, c_26', c_39]
              replace hP : va_P G.1 lzC (lzI G a 64 (votR f v set (k + 1))) H := by rw [← hE_3]; exact hP
              replace hD : va_D A (lzI G a 64 (votR f v set (k + 1))) := by rw [← hE_3]; exact hD
              exact ih_21 (k + 1) (by omega) (by omega) _ _ hP hD hS _ (lv_sub hl [0, 1, 2, 3, 4] rfl)
            · skip
              have c_39 := b2_n hr_2 c_39
              refine lv_aload_n hx hb dX4_poses_42 rfl (lv_at hl 2 rfl) ?_
              refine lv_iload hx hb dX4_poses_43 (lv_at hl 0 rfl) ?_
              refine ro_calli (va_runS (As := [.ref a, .int (nI k)]) (rest := []) ⟨hx, hb, hml, hown, hts⟩ (c_X4_counts l G a (votR f v set k) k (by omega)) (cwS 2 hts gX4_poses_X4_counts rfl rfl rfl (by decide +kernel) ⟨Nat.le_of_ble_eq_true rfl, Nat.le_of_ble_eq_true rfl⟩) (ro_pre hK hP) rfl rfl hl.1 rfl (lv_room (Nat.le_of_ble_eq_true rfl)) dX4_poses_45 ⟨Nat.zero_le _, Nat.zero_le _⟩) (fun r_4 hr_4 => ?_)
              refine lv_if_ne (tgt := 96) hx hb dX4_poses_48 (by decide) (fun c_48 => ?_) (fun c_48 => ?_)
              · skip
                have c_48 := b2_n hr_4 c_48
                refine lv_iinc (v := nI (k + 1)) (lv' := [(4, .int (nI (k + 1))), (3, .int 1), (0, .ref a), (1, .int (nI v)), (2, .int set)]) hx hb dX4_poses_96 hl (k := 0) rfl (nI_1 _) (by decide) rfl (fun ls hl => ?_)
                refine lv_goto (tgt := 21) hx hb dX4_poses_99 (by decide) ?_
                have hE_5 : votR f v set k = votR f v set (k + 1) := by simp [votR, capM, c_9, c_9', c_26, c_26', c_39, c_48]
                replace hP : va_P G.1 lzC (lzI G a 64 (votR f v set (k + 1))) H := by rw [← hE_5]; exact hP
                replace hD : va_D A (lzI G a 64 (votR f v set (k + 1))) := by rw [← hE_5]; exact hD
                exact ih_21 (k + 1) (by omega) (by omega) _ _ hP hD hS _ (lv_sub hl [0, 1, 2, 3, 4] rfl)
              · skip
                have c_48 := b2_z hr_4 c_48
                refine lv_iconst (v := 4) hx hb dX4_poses_51 (by decide) ?_
                refine lv_iconst (v := 5) hx hb dX4_poses_52 (by decide) ?_
                refine lv_iload hx hb dX4_poses_53 (lv_at hl 0 rfl) ?_
                refine lv_imul hx hb dX4_poses_55 ?_
                refine lv_iadd hx hb dX4_poses_56 ?_
                refine lv_aload_n hx hb dX4_poses_57 rfl (lv_at hl 2 rfl) ?_
                refine lv_iload_n hx hb dX4_poses_58 rfl (lv_at hl 3 rfl) ?_
                refine lv_iload hx hb dX4_poses_59 (lv_at hl 0 rfl) ?_
                refine ro_calli (va_runS (As := [.ref a, .int (nI v), .int (nI k)]) (rest := [.int (4 + (5 * (nI k)))]) ⟨hx, hb, hml, hown, hts⟩ (c_X4_clicksIt l G a (votR f v set k) v k (by omega) (by omega)) (cwS 3 hts gX4_poses_X4_clicksIt rfl rfl rfl (by decide +kernel) ⟨Nat.le_of_ble_eq_true rfl, Nat.le_of_ble_eq_true rfl⟩) (ro_pre hK hP) rfl rfl hl.1 rfl (lv_room (Nat.le_of_ble_eq_true rfl)) dX4_poses_61 ⟨Nat.zero_le _, Nat.zero_le _⟩) (fun r_6 hr_6 => ?_)
                refine lv_if_eq (tgt := 71) hx hb dX4_poses_64 (by decide) (fun c_64 => ?_) (fun c_64 => ?_)
                · skip
                  have c_64 := b2_z hr_6 c_64
                  refine lv_iconst (v := 3) hx hb dX4_poses_71 (by decide) ?_
                  refine lv_iadd hx hb dX4_poses_72 ?_
                  refine lz_top (y := nI (4 + 5 * k + 3)) (by simp only [fa_lit, pk_mul, nI_add]) ?_
                  refine lv_istore (lv' := [(5, .int (nI (4 + 5 * k + 3))), (4, .int (nI k)), (3, .int 1), (0, .ref a), (1, .int (nI v)), (2, .int set)]) hx hb dX4_poses_73 hl (by decide) rfl (fun ls hl => ?_)
                  refine lv_aload_n hx hb dX4_poses_75 rfl (lv_at hl 3 rfl) ?_
                  refine lv_iload hx hb dX4_poses_76 (lv_at hl 0 rfl) ?_
                  refine lv_dup2_11 hx hb dX4_poses_78 rfl rfl ?_
                  refine lz_iald (f := votR f v set k) hx hb hK hP 0 rfl (4 + 5 * k + 3) (by omega) (Nat.le_of_ble_eq_true rfl) dX4_poses_79 ?_
                  refine lv_aload_n hx hb dX4_poses_80 rfl (lv_at hl 3 rfl) ?_
                  refine lv_iload hx hb dX4_poses_81 (lv_at hl 0 rfl) ?_
                  refine lz_iald (f := votR f v set k) hx hb hK hP 0 rfl (4 + 5 * k + 3) (by omega) (Nat.le_of_ble_eq_true rfl) dX4_poses_83 ?_
                  refine lv_bipush (v := 99) hx hb dX4_poses_84 (by decide) ?_
                  refine lv_icmp_ge (tgt := 93) hx hb dX4_poses_86 (by decide) (fun c_86 => ?_) (fun c_86 => ?_)
                  · skip
                    have c_86' := Int32.not_lt.mpr c_86
                    refine lv_iconst (v := 0) hx hb dX4_poses_93 (by decide) ?_
                    refine lv_iadd hx hb dX4_poses_94 ?_
                    refine lz_iast (f := votR f v set k) hx hb hK hP hD hS 0 rfl (4 + 5 * k + 3) (by omega) (Nat.le_of_ble_eq_true rfl) dX4_poses_95 (lzI G a 64 (upd (votR f v set k) (4 + 5 * k + 3) (((votR f v set k) (4 + 5 * k + 3)) + 0))) rfl (fun H locs hP hD hS => ?_)
                    refine lv_iinc (v := nI (k + 1)) (lv' := [(4, .int (nI (k + 1))), (5, .int (nI (4 + 5 * k + 3))), (3, .int 1), (0, .ref a), (1, .int (nI v)), (2, .int set)]) hx hb dX4_poses_96 hl (k := 1) rfl (nI_1 _) (by decide) rfl (fun ls hl => ?_)
                    refine lv_goto (tgt := 21) hx hb dX4_poses_99 (by decide) ?_
                    have hE_7 : upd (votR f v set k) (4 + 5 * k + 3) (((votR f v set k) (4 + 5 * k + 3)) + 0) = votR f v set (k + 1) := by simp [votR, capM, c_9, c_9', c_26, c_26', c_39, c_48, c_64, c_86, c_86']
                    replace hP : va_P G.1 lzC (lzI G a 64 (votR f v set (k + 1))) H := by rw [← hE_7]; exact hP
                    replace hD : va_D A (lzI G a 64 (votR f v set (k + 1))) := by rw [← hE_7]; exact hD
                    exact ih_21 (k + 1) (by omega) (by omega) _ _ hP hD hS _ (lv_sub hl [0, 2, 3, 4, 5] rfl)
                  · skip
                    have c_86' := Int32.not_le.mp c_86
                    refine lv_iconst (v := 1) hx hb dX4_poses_89 (by decide) ?_
                    refine lv_goto (tgt := 94) hx hb dX4_poses_90 (by decide) ?_
                    refine lv_iadd hx hb dX4_poses_94 ?_
                    refine lz_iast (f := votR f v set k) hx hb hK hP hD hS 0 rfl (4 + 5 * k + 3) (by omega) (Nat.le_of_ble_eq_true rfl) dX4_poses_95 (lzI G a 64 (upd (votR f v set k) (4 + 5 * k + 3) (((votR f v set k) (4 + 5 * k + 3)) + 1))) rfl (fun H locs hP hD hS => ?_)
                    refine lv_iinc (v := nI (k + 1)) (lv' := [(4, .int (nI (k + 1))), (5, .int (nI (4 + 5 * k + 3))), (3, .int 1), (0, .ref a), (1, .int (nI v)), (2, .int set)]) hx hb dX4_poses_96 hl (k := 1) rfl (nI_1 _) (by decide) rfl (fun ls hl => ?_)
                    refine lv_goto (tgt := 21) hx hb dX4_poses_99 (by decide) ?_
                    have hE_8 : upd (votR f v set k) (4 + 5 * k + 3) (((votR f v set k) (4 + 5 * k + 3)) + 1) = votR f v set (k + 1) := by simp [votR, capM, c_9, c_9', c_26, c_26', c_39, c_48, c_64, c_86, c_86']
                    replace hP : va_P G.1 lzC (lzI G a 64 (votR f v set (k + 1))) H := by rw [← hE_8]; exact hP
                    replace hD : va_D A (lzI G a 64 (votR f v set (k + 1))) := by rw [← hE_8]; exact hD
                    exact ih_21 (k + 1) (by omega) (by omega) _ _ hP hD hS _ (lv_sub hl [0, 2, 3, 4, 5] rfl)
                · skip
                  have c_64 := b2_n hr_6 c_64
                  refine lv_iconst (v := 2) hx hb dX4_poses_67 (by decide) ?_
                  refine lv_goto (tgt := 72) hx hb dX4_poses_68 (by decide) ?_
                  refine lv_iadd hx hb dX4_poses_72 ?_
                  refine lz_top (y := nI (4 + 5 * k + 2)) (by simp only [fa_lit, pk_mul, nI_add]) ?_
                  refine lv_istore (lv' := [(5, .int (nI (4 + 5 * k + 2))), (4, .int (nI k)), (3, .int 1), (0, .ref a), (1, .int (nI v)), (2, .int set)]) hx hb dX4_poses_73 hl (by decide) rfl (fun ls hl => ?_)
                  refine lv_aload_n hx hb dX4_poses_75 rfl (lv_at hl 3 rfl) ?_
                  refine lv_iload hx hb dX4_poses_76 (lv_at hl 0 rfl) ?_
                  refine lv_dup2_11 hx hb dX4_poses_78 rfl rfl ?_
                  refine lz_iald (f := votR f v set k) hx hb hK hP 0 rfl (4 + 5 * k + 2) (by omega) (Nat.le_of_ble_eq_true rfl) dX4_poses_79 ?_
                  refine lv_aload_n hx hb dX4_poses_80 rfl (lv_at hl 3 rfl) ?_
                  refine lv_iload hx hb dX4_poses_81 (lv_at hl 0 rfl) ?_
                  refine lz_iald (f := votR f v set k) hx hb hK hP 0 rfl (4 + 5 * k + 2) (by omega) (Nat.le_of_ble_eq_true rfl) dX4_poses_83 ?_
                  refine lv_bipush (v := 99) hx hb dX4_poses_84 (by decide) ?_
                  refine lv_icmp_ge (tgt := 93) hx hb dX4_poses_86 (by decide) (fun c_86 => ?_) (fun c_86 => ?_)
                  · skip
                    have c_86' := Int32.not_lt.mpr c_86
                    refine lv_iconst (v := 0) hx hb dX4_poses_93 (by decide) ?_
                    refine lv_iadd hx hb dX4_poses_94 ?_
                    refine lz_iast (f := votR f v set k) hx hb hK hP hD hS 0 rfl (4 + 5 * k + 2) (by omega) (Nat.le_of_ble_eq_true rfl) dX4_poses_95 (lzI G a 64 (upd (votR f v set k) (4 + 5 * k + 2) (((votR f v set k) (4 + 5 * k + 2)) + 0))) rfl (fun H locs hP hD hS => ?_)
                    refine lv_iinc (v := nI (k + 1)) (lv' := [(4, .int (nI (k + 1))), (5, .int (nI (4 + 5 * k + 2))), (3, .int 1), (0, .ref a), (1, .int (nI v)), (2, .int set)]) hx hb dX4_poses_96 hl (k := 1) rfl (nI_1 _) (by decide) rfl (fun ls hl => ?_)
                    refine lv_goto (tgt := 21) hx hb dX4_poses_99 (by decide) ?_
                    have hE_9 : upd (votR f v set k) (4 + 5 * k + 2) (((votR f v set k) (4 + 5 * k + 2)) + 0) = votR f v set (k + 1) := by simp [votR, capM, c_9, c_9', c_26, c_26', c_39, c_48, c_64, c_86, c_86']
                    replace hP : va_P G.1 lzC (lzI G a 64 (votR f v set (k + 1))) H := by rw [← hE_9]; exact hP
                    replace hD : va_D A (lzI G a 64 (votR f v set (k + 1))) := by rw [← hE_9]; exact hD
                    exact ih_21 (k + 1) (by omega) (by omega) _ _ hP hD hS _ (lv_sub hl [0, 2, 3, 4, 5] rfl)
                  · skip
                    have c_86' := Int32.not_le.mp c_86
                    refine lv_iconst (v := 1) hx hb dX4_poses_89 (by decide) ?_
                    refine lv_goto (tgt := 94) hx hb dX4_poses_90 (by decide) ?_
                    refine lv_iadd hx hb dX4_poses_94 ?_
                    refine lz_iast (f := votR f v set k) hx hb hK hP hD hS 0 rfl (4 + 5 * k + 2) (by omega) (Nat.le_of_ble_eq_true rfl) dX4_poses_95 (lzI G a 64 (upd (votR f v set k) (4 + 5 * k + 2) (((votR f v set k) (4 + 5 * k + 2)) + 1))) rfl (fun H locs hP hD hS => ?_)
                    refine lv_iinc (v := nI (k + 1)) (lv' := [(4, .int (nI (k + 1))), (5, .int (nI (4 + 5 * k + 2))), (3, .int 1), (0, .ref a), (1, .int (nI v)), (2, .int set)]) hx hb dX4_poses_96 hl (k := 1) rfl (nI_1 _) (by decide) rfl (fun ls hl => ?_)
                    refine lv_goto (tgt := 21) hx hb dX4_poses_99 (by decide) ?_
                    have hE_10 : upd (votR f v set k) (4 + 5 * k + 2) (((votR f v set k) (4 + 5 * k + 2)) + 1) = votR f v set (k + 1) := by simp [votR, capM, c_9, c_9', c_26, c_26', c_39, c_48, c_64, c_86, c_86']
                    replace hP : va_P G.1 lzC (lzI G a 64 (votR f v set (k + 1))) H := by rw [← hE_10]; exact hP
                    replace hD : va_D A (lzI G a 64 (votR f v set (k + 1))) := by rw [← hE_10]; exact hD
                    exact ih_21 (k + 1) (by omega) (by omega) _ _ hP hD hS _ (lv_sub hl [0, 2, 3, 4, 5] rfl)
    have hE_11 : f = votR f v set 0 := rfl
    replace hP : va_P G.1 lzC (lzI G a 64 (votR f v set 0)) ss.heap := by rw [← hE_11]; exact hP
    replace hD : va_D A (lzI G a 64 (votR f v set 0)) := by rw [← hE_11]; exact hD
    exact J_21 _ 0 (by omega) (Nat.lt_succ_self _) _ _ hP hD hS _ (lv_sub hl [0, 1, 2, 3, 4] rfl)
set_option maxHeartbeats 4000000 in
set_option maxRecDepth 100000 in
theorem c_X4_poses_out (l : Launch) (G : lzG) (a : Nat) (f : Nat → Int32) (v : Nat) (set : Int32) (N : Nat) (hv : v < 5) (hN : f 2 = nI N) (hN8 : N ≤ 8) (hB : ¬ wrgN f v set N ≤ f 1) : Met l yX4_poses wsX4_poses ({ frames := 5, cells := 0, slots := 0, locals := 114 }) (va_Pc [.ref a, .int (nI v), .int set] (rwP G (lzI G a 64 f))) (va_Qi (S := Unit) (fun (r : Int32) (_ : Unit) => r = b2 (false)) (rwB G (fun _ : Unit => lzI G a 64 (letF f v 0))) (lzA (lzI G a 64 f))) 0 0 (lzA (lzI G a 64 f)) := by
  refine rw_start (S := Unit) (cc := cX4_poses) (maxL := 6) (ret := (some .boolean)) (by decide) rfl (Nat.le_of_ble_eq_true rfl) ?_
  intro pp ee ss mm bl me cd A hx hb hr hlk hml hts hown hP hK hD hAe hS ls hl
  have hA0 : ∀ zz : Nat, lzA (lzI G a 64 f) zz → A zz := fun zz h9 => by rw [hAe]; exact h9
  rw [← hAe]
  clear hAe
  have hown : ss.vm.findClass RX4 = some mm.cls := hown
  have hl : lv_has ls 6 [(0, .ref a), (1, .int (nI v)), (2, .int set)] := hl
  refine lv_aload_n hx hb dX4_poses_0 rfl (lv_at hl 0 rfl) ?_
  refine lv_iload_n hx hb dX4_poses_1 rfl (lv_at hl 1 rfl) ?_
  refine lv_iload_n hx hb dX4_poses_2 rfl (lv_at hl 2 rfl) ?_
  refine ro_calli (va_runS (As := [.ref a, .int (nI v), .int set]) (rest := []) ⟨hx, hb, hml, hown, hts⟩ (c_X4_wrongOf l G a f v set N (by omega) (hN) (hN8)) (cwS 3 hts gX4_poses_X4_wrongOf rfl rfl rfl (by decide +kernel) ⟨Nat.le_of_ble_eq_true rfl, Nat.le_of_ble_eq_true rfl⟩) (ro_pre hK hP) rfl rfl hl.1 rfl (lv_room (Nat.le_of_ble_eq_true rfl)) dX4_poses_3 ⟨Nat.zero_le _, Nat.zero_le _⟩) (fun r_1 hr_1 => ?_)
  refine lz_top (y := wrgN f v set N) hr_1 ?_
  refine lv_aload_n hx hb dX4_poses_6 rfl (lv_at hl 0 rfl) ?_
  refine lv_iconst (v := 1) hx hb dX4_poses_7 (by decide) ?_
  refine lz_iald (f := f) hx hb hK hP 0 rfl 1 (by omega) (Nat.le_of_ble_eq_true rfl) dX4_poses_8 ?_
  refine lv_icmp_gt (tgt := 16) hx hb dX4_poses_9 (by decide) (fun c_9 => ?_) (fun c_9 => ?_)
  · skip
    have c_9' := Int32.not_le.mpr c_9
    refine lv_iconst (v := 0) hx hb dX4_poses_16 (by decide) ?_
    refine lv_istore_n (lv' := [(3, .int 0), (0, .ref a), (1, .int (nI v)), (2, .int set)]) hx hb dX4_poses_17 rfl hl (by decide) rfl (fun ls hl => ?_)
    refine lv_iconst (v := 0) hx hb dX4_poses_18 (by decide) ?_
    refine lv_istore (lv' := [(4, .int 0), (3, .int 0), (0, .ref a), (1, .int (nI v)), (2, .int set)]) hx hb dX4_poses_19 hl (by decide) rfl (fun ls hl => ?_)
    refine lv_iload hx hb dX4_poses_21 (lv_at hl 0 rfl) ?_
    refine lv_aload_n hx hb dX4_poses_23 rfl (lv_at hl 2 rfl) ?_
    refine lv_iconst (v := 2) hx hb dX4_poses_24 (by decide) ?_
    refine lz_iald (f := f) hx hb hK hP 0 rfl 2 (by omega) (Nat.le_of_ble_eq_true rfl) dX4_poses_25 ?_
    refine lv_icmp_ge (tgt := 102) hx hb dX4_poses_26 (by decide) (fun c_26 => ?_) (fun c_26 => ?_)
    · skip
      have c_26' := Int32.not_lt.mpr c_26
      refine lv_aload_n hx hb dX4_poses_102 rfl (lv_at hl 2 rfl) ?_
      refine lv_bipush (v := 44) hx hb dX4_poses_103 (by decide) ?_
      refine lv_iconst (v := 4) hx hb dX4_poses_105 (by decide) ?_
      refine lv_iload_n hx hb dX4_poses_106 rfl (lv_at hl 3 rfl) ?_
      refine lv_imul hx hb dX4_poses_107 ?_
      refine lv_iadd hx hb dX4_poses_108 ?_
      refine lv_iconst (v := 2) hx hb dX4_poses_109 (by decide) ?_
      refine lv_iadd hx hb dX4_poses_110 ?_
      refine lz_top (y := nI (44 + 4 * v + 2)) (by simp only [fa_lit, pk_mul, nI_add]) ?_
      refine lv_dup2_11 hx hb dX4_poses_111 rfl rfl ?_
      refine lz_iald (f := f) hx hb hK hP 0 rfl (44 + 4 * v + 2) (by omega) (Nat.le_of_ble_eq_true rfl) dX4_poses_112 ?_
      refine lv_iconst (v := 1) hx hb dX4_poses_113 (by decide) ?_
      refine lv_iadd hx hb dX4_poses_114 ?_
      refine lz_iast (f := f) hx hb hK hP hD hS 0 rfl (44 + 4 * v + 2) (by omega) (Nat.le_of_ble_eq_true rfl) dX4_poses_115 (lzI G a 64 (upd f (44 + 4 * v + 2) ((f (44 + 4 * v + 2)) + 1))) rfl (fun H locs hP hD hS => ?_)
      refine lv_aload_n hx hb dX4_poses_116 rfl (lv_at hl 2 rfl) ?_
      refine lv_bipush (v := 44) hx hb dX4_poses_117 (by decide) ?_
      refine lv_iconst (v := 4) hx hb dX4_poses_119 (by decide) ?_
      refine lv_iload_n hx hb dX4_poses_120 rfl (lv_at hl 3 rfl) ?_
      refine lv_imul hx hb dX4_poses_121 ?_
      refine lv_iadd hx hb dX4_poses_122 ?_
      refine lv_iconst (v := 3) hx hb dX4_poses_123 (by decide) ?_
      refine lv_iadd hx hb dX4_poses_124 ?_
      refine lz_top (y := nI (44 + 4 * v + 3)) (by simp only [fa_lit, pk_mul, nI_add]) ?_
      refine lv_dup2_11 hx hb dX4_poses_125 rfl rfl ?_
      refine lz_iald (f := upd f (44 + 4 * v + 2) ((f (44 + 4 * v + 2)) + 1)) hx hb hK hP 0 rfl (44 + 4 * v + 3) (by omega) (Nat.le_of_ble_eq_true rfl) dX4_poses_126 ?_
      refine lv_iload_n hx hb dX4_poses_127 rfl (lv_at hl 1 rfl) ?_
      refine lv_if_eq (tgt := 135) hx hb dX4_poses_128 (by decide) (fun c_128 => ?_) (fun c_128 => ?_)
      · skip
        refine lv_iconst (v := 0) hx hb dX4_poses_135 (by decide) ?_
        refine lv_iadd hx hb dX4_poses_136 ?_
        refine lz_iast (f := upd f (44 + 4 * v + 2) ((f (44 + 4 * v + 2)) + 1)) hx hb hK hP hD hS 0 rfl (44 + 4 * v + 3) (by omega) (Nat.le_of_ble_eq_true rfl) dX4_poses_137 (lzI G a 64 (upd (upd f (44 + 4 * v + 2) ((f (44 + 4 * v + 2)) + 1)) (44 + 4 * v + 3) (((upd f (44 + 4 * v + 2) ((f (44 + 4 * v + 2)) + 1)) (44 + 4 * v + 3)) + 0))) rfl (fun H locs hP hD hS => ?_)
        refine lv_iload_n hx hb dX4_poses_138 rfl (lv_at hl 1 rfl) ?_
        exact rw_zret (S := Unit) (G := G) (Wd := fun _ : Unit => lzI G a 64 (letF f v 0)) (B := false) () hx hb hr hlk dX4_poses_139 hS (hP) (rfl) (rfl)
      · skip
        exact False.elim (by revert c_128; decide)
    · skip
      have c_26' := Int32.not_le.mp c_26
      refine lv_iload_n hx hb dX4_poses_29 rfl (lv_at hl 1 rfl) ?_
      refine lv_if_eq (tgt := 102) hx hb dX4_poses_30 (by decide) (fun c_30 => ?_) (fun c_30 => ?_)
      · skip
        refine lv_aload_n hx hb dX4_poses_102 rfl (lv_at hl 2 rfl) ?_
        refine lv_bipush (v := 44) hx hb dX4_poses_103 (by decide) ?_
        refine lv_iconst (v := 4) hx hb dX4_poses_105 (by decide) ?_
        refine lv_iload_n hx hb dX4_poses_106 rfl (lv_at hl 3 rfl) ?_
        refine lv_imul hx hb dX4_poses_107 ?_
        refine lv_iadd hx hb dX4_poses_108 ?_
        refine lv_iconst (v := 2) hx hb dX4_poses_109 (by decide) ?_
        refine lv_iadd hx hb dX4_poses_110 ?_
        refine lz_top (y := nI (44 + 4 * v + 2)) (by simp only [fa_lit, pk_mul, nI_add]) ?_
        refine lv_dup2_11 hx hb dX4_poses_111 rfl rfl ?_
        refine lz_iald (f := f) hx hb hK hP 0 rfl (44 + 4 * v + 2) (by omega) (Nat.le_of_ble_eq_true rfl) dX4_poses_112 ?_
        refine lv_iconst (v := 1) hx hb dX4_poses_113 (by decide) ?_
        refine lv_iadd hx hb dX4_poses_114 ?_
        refine lz_iast (f := f) hx hb hK hP hD hS 0 rfl (44 + 4 * v + 2) (by omega) (Nat.le_of_ble_eq_true rfl) dX4_poses_115 (lzI G a 64 (upd f (44 + 4 * v + 2) ((f (44 + 4 * v + 2)) + 1))) rfl (fun H locs hP hD hS => ?_)
        refine lv_aload_n hx hb dX4_poses_116 rfl (lv_at hl 2 rfl) ?_
        refine lv_bipush (v := 44) hx hb dX4_poses_117 (by decide) ?_
        refine lv_iconst (v := 4) hx hb dX4_poses_119 (by decide) ?_
        refine lv_iload_n hx hb dX4_poses_120 rfl (lv_at hl 3 rfl) ?_
        refine lv_imul hx hb dX4_poses_121 ?_
        refine lv_iadd hx hb dX4_poses_122 ?_
        refine lv_iconst (v := 3) hx hb dX4_poses_123 (by decide) ?_
        refine lv_iadd hx hb dX4_poses_124 ?_
        refine lz_top (y := nI (44 + 4 * v + 3)) (by simp only [fa_lit, pk_mul, nI_add]) ?_
        refine lv_dup2_11 hx hb dX4_poses_125 rfl rfl ?_
        refine lz_iald (f := upd f (44 + 4 * v + 2) ((f (44 + 4 * v + 2)) + 1)) hx hb hK hP 0 rfl (44 + 4 * v + 3) (by omega) (Nat.le_of_ble_eq_true rfl) dX4_poses_126 ?_
        refine lv_iload_n hx hb dX4_poses_127 rfl (lv_at hl 1 rfl) ?_
        refine lv_if_eq (tgt := 135) hx hb dX4_poses_128 (by decide) (fun c_128 => ?_) (fun c_128 => ?_)
        · skip
          refine lv_iconst (v := 0) hx hb dX4_poses_135 (by decide) ?_
          refine lv_iadd hx hb dX4_poses_136 ?_
          refine lz_iast (f := upd f (44 + 4 * v + 2) ((f (44 + 4 * v + 2)) + 1)) hx hb hK hP hD hS 0 rfl (44 + 4 * v + 3) (by omega) (Nat.le_of_ble_eq_true rfl) dX4_poses_137 (lzI G a 64 (upd (upd f (44 + 4 * v + 2) ((f (44 + 4 * v + 2)) + 1)) (44 + 4 * v + 3) (((upd f (44 + 4 * v + 2) ((f (44 + 4 * v + 2)) + 1)) (44 + 4 * v + 3)) + 0))) rfl (fun H locs hP hD hS => ?_)
          refine lv_iload_n hx hb dX4_poses_138 rfl (lv_at hl 1 rfl) ?_
          exact rw_zret (S := Unit) (G := G) (Wd := fun _ : Unit => lzI G a 64 (letF f v 0)) (B := false) () hx hb hr hlk dX4_poses_139 hS (hP) (rfl) (rfl)
        · skip
          exact False.elim (by revert c_128; decide)
      · skip
        exact False.elim (by revert c_30; decide)
  · skip
    have c_9' := Int32.not_lt.mp c_9
    exact absurd (Int32.not_lt.mp c_9) hB
set_option maxHeartbeats 4000000 in
set_option maxRecDepth 100000 in
theorem c_X4_pose_bad (l : Launch) (G : lzG) (m : Nat) (q : Nat → Nat) (S : Nat → Int32) (f : Nat → Int32) (a set : Int32) (hbad : (inR a 0 (f 3 - 1) && inR set 0 ((1 <<< (f 2 &&& 31)) - 1)) = false) : Met l yX4_pose wsX4_pose ({ frames := 2, cells := 0, slots := 0, locals := 46 }) (va_Pc [.ref m, .int a, .int set] (rwP G (lzM m q S ++ lzI G (q 5) 64 f))) (va_Qi (S := Unit) (fun (r : Int32) (_ : Unit) => r = -1000001) (rwB G (fun _ : Unit => (lzM m q (upd S 0 0) ++ lzI G (q 5) 64 f))) (lzA (lzM m q S ++ lzI G (q 5) 64 f))) 0 0 (lzA (lzM m q S ++ lzI G (q 5) 64 f)) := by
  refine rw_start (S := Unit) (cc := cX4_pose) (maxL := 3) (ret := (some .int)) (by decide) rfl (Nat.le_of_ble_eq_true rfl) ?_
  intro pp ee ss mm bl me cd A hx hb hr hlk hml hts hown hP hK hD hAe hS ls hl
  have hA0 : ∀ zz : Nat, lzA (lzM m q S ++ lzI G (q 5) 64 f) zz → A zz := fun zz h9 => by rw [hAe]; exact h9
  rw [← hAe]
  clear hAe
  have hown : ss.vm.findClass RX4 = some mm.cls := hown
  have hw1 := hts (.fieldLink RX4 48 "LampSquaresModel" "thrown" "I") (List.mem_of_getElem? (i := 1) rfl)
  have hw2 := hts (.constant RX4 68 (-1000001)) (List.mem_of_getElem? (i := 2) rfl)
  have hu_wsX40 : ∀ w ∈ wsX40, w.before ([.ref m, .int a, .int set] : List Value).toArray ss = true := fun w h9 => hts w (List.mem_cons_of_mem _ (List.mem_append_right _ h9))
  have hl : lv_has ls 3 [(0, .ref m), (1, .int a), (2, .int set)] := hl
  refine lv_aload_n hx hb dX4_pose_0 rfl (lv_at hl 0 rfl) ?_
  refine lv_iconst (v := 0) hx hb dX4_pose_1 (by decide) ?_
  refine lz_put (G := G) (ci := 4) (C := RX4) (T := TX4) (N := 24) hx hb hu_wsX40 (fun _ h9 => h9) tyX4 tyX4_ok nmX4 hown hK hP hD hS 0 rfl rfl 0 (by decide) hw1 rfl rfl (by decide +kernel) (Nat.le_of_ble_eq_true rfl) dX4_pose_2 (lzM m q (upd S 0 0) ++ lzI G (q 5) 64 f) rfl (fun H locs hP hD hS => ?_)
  refine lv_aload_n hx hb dX4_pose_5 rfl (lv_at hl 0 rfl) ?_
  refine lv_iload_n hx hb dX4_pose_6 rfl (lv_at hl 1 rfl) ?_
  refine ro_calli (va_runV (As := [.int a]) (rest := []) ⟨hx, hb, hml, hown, hts⟩ (c_X4_isVisitor l G m q (upd S 0 0) f a ) (cwV 1 hts gX4_pose_X4_isVisitor rfl rfl rfl (by decide +kernel) ⟨Nat.le_of_ble_eq_true rfl, Nat.le_of_ble_eq_true rfl⟩) (ro_preV hK hP hP (ci := 4) (q0 := 0) rfl rfl) rfl rfl hl.1 rfl (lv_room (Nat.le_of_ble_eq_true rfl)) dX4_pose_7 ⟨Nat.zero_le _, Nat.zero_le _⟩) (fun r_1 hr_1 => ?_)
  refine lv_if_eq (tgt := 21) hx hb dX4_pose_10 (by decide) (fun c_10 => ?_) (fun c_10 => ?_)
  · skip
    have c_10 := b2_z hr_1 c_10
    refine lv_ldc hx hb hown hw2 dX4_pose_21 ?_
    exact rw_iret (S := Unit) (G := G) (Wd := fun _ : Unit => (lzM m q (upd S 0 0) ++ lzI G (q 5) 64 f)) () hx hb hr hlk dX4_pose_23 hS (hP) (rfl)
  · skip
    have c_10 := b2_n hr_1 c_10
    refine lv_aload_n hx hb dX4_pose_13 rfl (lv_at hl 0 rfl) ?_
    refine lv_iload_n hx hb dX4_pose_14 rfl (lv_at hl 2 rfl) ?_
    refine ro_calli (va_runV (As := [.int set]) (rest := []) ⟨hx, hb, hml, hown, hts⟩ (c_X4_areSquares l G m q (upd S 0 0) f set ) (cwV 1 hts gX4_pose_X4_areSquares rfl rfl rfl (by decide +kernel) ⟨Nat.le_of_ble_eq_true rfl, Nat.le_of_ble_eq_true rfl⟩) (ro_preV hK hP hP (ci := 4) (q0 := 0) rfl rfl) rfl rfl hl.1 rfl (lv_room (Nat.le_of_ble_eq_true rfl)) dX4_pose_15 ⟨Nat.zero_le _, Nat.zero_le _⟩) (fun r_2 hr_2 => ?_)
    refine lv_if_ne (tgt := 24) hx hb dX4_pose_18 (by decide) (fun c_18 => ?_) (fun c_18 => ?_)
    · skip
      have c_18 := b2_n hr_2 c_18
      exact Bool.noConfusion (hbad.symm.trans (by rw [c_10, c_18] <;> rfl))
    · skip
      have c_18 := b2_z hr_2 c_18
      refine lv_ldc hx hb hown hw2 dX4_pose_21 ?_
      exact rw_iret (S := Unit) (G := G) (Wd := fun _ : Unit => (lzM m q (upd S 0 0) ++ lzI G (q 5) 64 f)) () hx hb hr hlk dX4_pose_23 hS (hP) (rfl)
set_option maxHeartbeats 4000000 in
set_option maxRecDepth 100000 in
theorem c_X4_pose_in (l : Launch) (G : lzG) (m : Nat) (q : Nat → Nat) (S : Nat → Int32) (g f : Nat → Int32) (K v : Nat) (set : Int32) (N M : Nat) (hAc : S 9 = nI K) (hK24 : K ≤ 24) (hN : f 2 = nI N) (hN8 : N ≤ 8) (hM : f 3 = nI M) (hM5 : M ≤ 5) (hv : v < M) (hset : inR set 0 ((1 <<< (f 2 &&& 31)) - 1) = true) (hB : wrgN f v set N ≤ f 1) : Met l yX4_pose wsX4_pose ({ frames := 6, cells := 0, slots := 0, locals := 139 }) (va_Pc [.ref m, .int (nI v), .int set] (rwP G (lzM m q S ++ (lzI G (q 8) 1536 g ++ (lzI G (q 5) 64 f))))) (va_Qi (S := Unit) (fun (r : Int32) (_ : Unit) => r = 1) (rwB G (fun _ : Unit => (lzM m q (upd (upd S 0 0) 9 (nI (kpK K + 1))) ++ (lzI G (q 8) 1536 (kpW g f K) ++ (lzI G (q 5) 64 (letF (votR f v set N) v 1)))))) (lzA (lzM m q S ++ (lzI G (q 8) 1536 g ++ (lzI G (q 5) 64 f))))) 0 0 (lzA (lzM m q S ++ (lzI G (q 8) 1536 g ++ (lzI G (q 5) 64 f)))) := by
  have hA : inR (nI v) 0 (f 3 - 1) = true := inR_ok hM hv (by omega)
  refine rw_start (S := Unit) (cc := cX4_pose) (maxL := 3) (ret := (some .int)) (by decide) rfl (Nat.le_of_ble_eq_true rfl) ?_
  intro pp ee ss mm bl me cd A hx hb hr hlk hml hts hown hP hK hD hAe hS ls hl
  have hA0 : ∀ zz : Nat, lzA (lzM m q S ++ (lzI G (q 8) 1536 g ++ (lzI G (q 5) 64 f))) zz → A zz := fun zz h9 => by rw [hAe]; exact h9
  rw [← hAe]
  clear hAe
  have hown : ss.vm.findClass RX4 = some mm.cls := hown
  have hw1 := hts (.fieldLink RX4 48 "LampSquaresModel" "thrown" "I") (List.mem_of_getElem? (i := 1) rfl)
  have hw3 := hts (.fieldLink RX4 19 "LampSquaresModel" "door" "[I") (List.mem_of_getElem? (i := 3) rfl)
  have hu_wsX40 : ∀ w ∈ wsX40, w.before ([.ref m, .int (nI v), .int set] : List Value).toArray ss = true := fun w h9 => hts w (List.mem_cons_of_mem _ (List.mem_append_right _ h9))
  have hl : lv_has ls 3 [(0, .ref m), (1, .int (nI v)), (2, .int set)] := hl
  refine lv_aload_n hx hb dX4_pose_0 rfl (lv_at hl 0 rfl) ?_
  refine lv_iconst (v := 0) hx hb dX4_pose_1 (by decide) ?_
  refine lz_put (G := G) (ci := 4) (C := RX4) (T := TX4) (N := 24) hx hb hu_wsX40 (fun _ h9 => h9) tyX4 tyX4_ok nmX4 hown hK hP hD hS 0 rfl rfl 0 (by decide) hw1 rfl rfl (by decide +kernel) (Nat.le_of_ble_eq_true rfl) dX4_pose_2 (lzM m q (upd S 0 0) ++ (lzI G (q 8) 1536 g ++ (lzI G (q 5) 64 f))) rfl (fun H locs hP hD hS => ?_)
  refine lv_aload_n hx hb dX4_pose_5 rfl (lv_at hl 0 rfl) ?_
  refine lv_iload_n hx hb dX4_pose_6 rfl (lv_at hl 1 rfl) ?_
  have hPc := hP.sub (ws' := (lzM m q (upd S 0 0) ++ lzI G (q 5) 64 f)) [0, 2] rfl
  refine ro_calli (va_runV (As := [.int (nI v)]) (rest := []) ⟨hx, hb, hml, hown, hts⟩ (c_X4_isVisitor l G m q (upd S 0 0) f (nI v) ) (cwV 1 hts gX4_pose_X4_isVisitor rfl rfl rfl (by decide +kernel) ⟨Nat.le_of_ble_eq_true rfl, Nat.le_of_ble_eq_true rfl⟩) (ro_preV hK hPc hP (ci := 4) (q0 := 0) rfl rfl) rfl rfl hl.1 rfl (lv_room (Nat.le_of_ble_eq_true rfl)) dX4_pose_7 ⟨Nat.zero_le _, Nat.zero_le _⟩) (fun r_1 hr_1 => ?_)
  refine lv_if_eq (tgt := 21) hx hb dX4_pose_10 (by decide) (fun c_10 => ?_) (fun c_10 => ?_)
  · skip
    have c_10 := b2_z hr_1 c_10
    exact Bool.noConfusion (hA.symm.trans c_10)
  · skip
    have c_10 := b2_n hr_1 c_10
    refine lv_aload_n hx hb dX4_pose_13 rfl (lv_at hl 0 rfl) ?_
    refine lv_iload_n hx hb dX4_pose_14 rfl (lv_at hl 2 rfl) ?_
    have hPc := hP.sub (ws' := (lzM m q (upd S 0 0) ++ lzI G (q 5) 64 f)) [0, 2] rfl
    refine ro_calli (va_runV (As := [.int set]) (rest := []) ⟨hx, hb, hml, hown, hts⟩ (c_X4_areSquares l G m q (upd S 0 0) f set ) (cwV 1 hts gX4_pose_X4_areSquares rfl rfl rfl (by decide +kernel) ⟨Nat.le_of_ble_eq_true rfl, Nat.le_of_ble_eq_true rfl⟩) (ro_preV hK hPc hP (ci := 4) (q0 := 0) rfl rfl) rfl rfl hl.1 rfl (lv_room (Nat.le_of_ble_eq_true rfl)) dX4_pose_15 ⟨Nat.zero_le _, Nat.zero_le _⟩) (fun r_2 hr_2 => ?_)
    refine lv_if_ne (tgt := 24) hx hb dX4_pose_18 (by decide) (fun c_18 => ?_) (fun c_18 => ?_)
    · skip
      have c_18 := b2_n hr_2 c_18
      refine lv_aload_n hx hb dX4_pose_24 rfl (lv_at hl 0 rfl) ?_
      have hFc : ∀ zz : Nat, lzA (lzM m q (upd S 0 0) ++ (lzI G (q 8) 1536 g ++ (lzI G (q 5) 64 f))) zz → A zz := lz_free hD [0, 1, 2] rfl
      refine va_callv (va_runV (As := []) (rest := []) ⟨hx, hb, hml, hown, hts⟩ (c_X4_keep l G m q (upd S 0 0) g f K (hAc) (hK24)) (cwV 0 hts gX4_pose_X4_keep rfl rfl rfl (by decide +kernel) ⟨Nat.le_of_ble_eq_true rfl, Nat.le_of_ble_eq_true rfl⟩) (rw_preV hK hP hD hP (ci := 4) (q0 := 0) rfl rfl) rfl rfl hl.1 rfl (lv_room (Nat.le_of_ble_eq_true rfl)) dX4_pose_25 ⟨Nat.zero_le _, Nat.zero_le _⟩) hS (fun q _ h => hFc q h) hFc (fun u_4 t9 H1 locs ht hvm hr_3 hB hz1 hk1 hS => ?_)
      replace hB : va_P G.1 lzC _ t9.heap := hB
      rw [ht] at hB
      obtain ⟨hP, hD⟩ := lz_join (wc := (lzM m q (upd S 0 0) ++ (lzI G (q 8) 1536 g ++ (lzI G (q 5) 64 f)))) (wr := ([] : va_W)) (w1 := (lzM m q (upd (upd S 0 0) 9 (nI (kpK K + 1))) ++ (lzI G (q 8) 1536 (kpW g f K) ++ (lzI G (q 5) 64 f)))) hP hD [0, 1, 2] [] rfl rfl (by decide) (by decide) rfl hk1 hB
      replace hP := hP.sub (ws' := (lzM m q (upd (upd S 0 0) 9 (nI (kpK K + 1))) ++ (lzI G (q 8) 1536 (kpW g f K) ++ (lzI G (q 5) 64 f)))) [0, 1, 2] rfl
      replace hD := hD.sub (ws' := (lzM m q (upd (upd S 0 0) 9 (nI (kpK K + 1))) ++ (lzI G (q 8) 1536 (kpW g f K) ++ (lzI G (q 5) 64 f)))) [0, 1, 2] (by decide) rfl
      clear ht hvm hB hz1 hk1
      generalize H1 = H at hP hS ⊢
      refine lv_aload_n hx hb dX4_pose_28 rfl (lv_at hl 0 rfl) ?_
      refine lz_get (G := G) (ci := 4) (v := .ref (q 5)) (C := RX4) (T := TX4) (N := 24) hx hb hu_wsX40 (fun _ h9 => h9) hown hK hP 0 rfl rfl 5 (by decide) hw3 rfl rfl dX4_pose_29 ?_
      refine lv_iload_n hx hb dX4_pose_32 rfl (lv_at hl 1 rfl) ?_
      refine lv_iload_n hx hb dX4_pose_33 rfl (lv_at hl 2 rfl) ?_
      have hPc := hP.sub (ws' := lzI G (q 5) 64 f) [2] rfl
      have hDc := hD.sub (ws' := lzI G (q 5) 64 f) [2] (by decide) rfl
      have hFc : ∀ zz : Nat, lzA (lzI G (q 5) 64 f) zz → A zz := lz_free hD [2] rfl
      refine va_calli (va_runS (As := [.ref (q 5), .int (nI v), .int set]) (rest := []) ⟨hx, hb, hml, hown, hts⟩ (c_X4_poses_in l G (q 5) f v set N (by omega) (hN) (hN8) (hB)) (cwS 3 hts gX4_pose_X4_poses rfl rfl rfl (by decide +kernel) ⟨Nat.le_of_ble_eq_true rfl, Nat.le_of_ble_eq_true rfl⟩) (rw_pre hK hPc hDc) rfl rfl hl.1 rfl (lv_room (Nat.le_of_ble_eq_true rfl)) dX4_pose_34 ⟨Nat.zero_le _, Nat.zero_le _⟩) hS (fun q _ h => hFc q h) hFc (fun r_5 u_6 t9 H1 locs ht hvm hr_5 hB hz1 hk1 hS => ?_)
      replace hB : va_P G.1 lzC _ t9.heap := hB
      rw [ht] at hB
      obtain ⟨hP, hD⟩ := lz_join (wc := lzI G (q 5) 64 f) (wr := ([(m, .inr (4, [.int 0, .int (S 1), .ref (q 2), .ref (q 3), .ref (q 4), .ref (q 5), .ref (q 6), .ref (q 7), .ref (q 8), .int (nI (kpK K + 1)), .ref (q 10), .int (S 11), .int (S 12), .int (S 13), .int (S 14), .int (S 15), .int (S 16), .int (S 17), .int (S 18), .ref (q 19), .ref (q 20), .ref (q 21), .ref (q 22), .int (S 23)])), (q 8, .inl (G.2 0, 1536, .inl (kpW g f K)))] : va_W)) (w1 := lzI G (q 5) 64 (letF (votR f v set N) v 1)) hP hD [2] [0, 1] rfl rfl (by decide) (by decide) rfl hk1 hB
      replace hP := hP.sub (ws' := (lzM m q (upd (upd S 0 0) 9 (nI (kpK K + 1))) ++ (lzI G (q 8) 1536 (kpW g f K) ++ (lzI G (q 5) 64 (letF (votR f v set N) v 1))))) [0, 1, 2] rfl
      replace hD := hD.sub (ws' := (lzM m q (upd (upd S 0 0) 9 (nI (kpK K + 1))) ++ (lzI G (q 8) 1536 (kpW g f K) ++ (lzI G (q 5) 64 (letF (votR f v set N) v 1))))) [0, 1, 2] (by decide) rfl
      clear ht hvm hB hz1 hk1
      generalize H1 = H at hP hS ⊢
      refine lv_if_eq (tgt := 44) hx hb dX4_pose_37 (by decide) (fun c_37 => ?_) (fun c_37 => ?_)
      · skip
        have c_37 := b2_z hr_5 c_37
        exact absurd c_37 (by decide)
      · skip
        have c_37 := b2_n hr_5 c_37
        refine lv_iconst (v := 1) hx hb dX4_pose_40 (by decide) ?_
        refine lv_goto (tgt := 45) hx hb dX4_pose_41 (by decide) ?_
        exact rw_iret (S := Unit) (G := G) (Wd := fun _ : Unit => (lzM m q (upd (upd S 0 0) 9 (nI (kpK K + 1))) ++ (lzI G (q 8) 1536 (kpW g f K) ++ (lzI G (q 5) 64 (letF (votR f v set N) v 1))))) () hx hb hr hlk dX4_pose_45 hS (hP) (rfl)
    · skip
      have c_18 := b2_z hr_2 c_18
      exact Bool.noConfusion (hset.symm.trans c_18)
set_option maxHeartbeats 4000000 in
set_option maxRecDepth 100000 in
theorem c_X4_pose_out (l : Launch) (G : lzG) (m : Nat) (q : Nat → Nat) (S : Nat → Int32) (g f : Nat → Int32) (K v : Nat) (set : Int32) (N M : Nat) (hAc : S 9 = nI K) (hK24 : K ≤ 24) (hN : f 2 = nI N) (hN8 : N ≤ 8) (hM : f 3 = nI M) (hM5 : M ≤ 5) (hv : v < M) (hset : inR set 0 ((1 <<< (f 2 &&& 31)) - 1) = true) (hB : ¬ wrgN f v set N ≤ f 1) : Met l yX4_pose wsX4_pose ({ frames := 6, cells := 0, slots := 0, locals := 139 }) (va_Pc [.ref m, .int (nI v), .int set] (rwP G (lzM m q S ++ (lzI G (q 8) 1536 g ++ (lzI G (q 5) 64 f))))) (va_Qi (S := Unit) (fun (r : Int32) (_ : Unit) => r = 0) (rwB G (fun _ : Unit => (lzM m q (upd (upd S 0 0) 9 (nI (kpK K + 1))) ++ (lzI G (q 8) 1536 (kpW g f K) ++ (lzI G (q 5) 64 (letF f v 0)))))) (lzA (lzM m q S ++ (lzI G (q 8) 1536 g ++ (lzI G (q 5) 64 f))))) 0 0 (lzA (lzM m q S ++ (lzI G (q 8) 1536 g ++ (lzI G (q 5) 64 f)))) := by
  have hA : inR (nI v) 0 (f 3 - 1) = true := inR_ok hM hv (by omega)
  refine rw_start (S := Unit) (cc := cX4_pose) (maxL := 3) (ret := (some .int)) (by decide) rfl (Nat.le_of_ble_eq_true rfl) ?_
  intro pp ee ss mm bl me cd A hx hb hr hlk hml hts hown hP hK hD hAe hS ls hl
  have hA0 : ∀ zz : Nat, lzA (lzM m q S ++ (lzI G (q 8) 1536 g ++ (lzI G (q 5) 64 f))) zz → A zz := fun zz h9 => by rw [hAe]; exact h9
  rw [← hAe]
  clear hAe
  have hown : ss.vm.findClass RX4 = some mm.cls := hown
  have hw1 := hts (.fieldLink RX4 48 "LampSquaresModel" "thrown" "I") (List.mem_of_getElem? (i := 1) rfl)
  have hw3 := hts (.fieldLink RX4 19 "LampSquaresModel" "door" "[I") (List.mem_of_getElem? (i := 3) rfl)
  have hu_wsX40 : ∀ w ∈ wsX40, w.before ([.ref m, .int (nI v), .int set] : List Value).toArray ss = true := fun w h9 => hts w (List.mem_cons_of_mem _ (List.mem_append_right _ h9))
  have hl : lv_has ls 3 [(0, .ref m), (1, .int (nI v)), (2, .int set)] := hl
  refine lv_aload_n hx hb dX4_pose_0 rfl (lv_at hl 0 rfl) ?_
  refine lv_iconst (v := 0) hx hb dX4_pose_1 (by decide) ?_
  refine lz_put (G := G) (ci := 4) (C := RX4) (T := TX4) (N := 24) hx hb hu_wsX40 (fun _ h9 => h9) tyX4 tyX4_ok nmX4 hown hK hP hD hS 0 rfl rfl 0 (by decide) hw1 rfl rfl (by decide +kernel) (Nat.le_of_ble_eq_true rfl) dX4_pose_2 (lzM m q (upd S 0 0) ++ (lzI G (q 8) 1536 g ++ (lzI G (q 5) 64 f))) rfl (fun H locs hP hD hS => ?_)
  refine lv_aload_n hx hb dX4_pose_5 rfl (lv_at hl 0 rfl) ?_
  refine lv_iload_n hx hb dX4_pose_6 rfl (lv_at hl 1 rfl) ?_
  have hPc := hP.sub (ws' := (lzM m q (upd S 0 0) ++ lzI G (q 5) 64 f)) [0, 2] rfl
  refine ro_calli (va_runV (As := [.int (nI v)]) (rest := []) ⟨hx, hb, hml, hown, hts⟩ (c_X4_isVisitor l G m q (upd S 0 0) f (nI v) ) (cwV 1 hts gX4_pose_X4_isVisitor rfl rfl rfl (by decide +kernel) ⟨Nat.le_of_ble_eq_true rfl, Nat.le_of_ble_eq_true rfl⟩) (ro_preV hK hPc hP (ci := 4) (q0 := 0) rfl rfl) rfl rfl hl.1 rfl (lv_room (Nat.le_of_ble_eq_true rfl)) dX4_pose_7 ⟨Nat.zero_le _, Nat.zero_le _⟩) (fun r_1 hr_1 => ?_)
  refine lv_if_eq (tgt := 21) hx hb dX4_pose_10 (by decide) (fun c_10 => ?_) (fun c_10 => ?_)
  · skip
    have c_10 := b2_z hr_1 c_10
    exact Bool.noConfusion (hA.symm.trans c_10)
  · skip
    have c_10 := b2_n hr_1 c_10
    refine lv_aload_n hx hb dX4_pose_13 rfl (lv_at hl 0 rfl) ?_
    refine lv_iload_n hx hb dX4_pose_14 rfl (lv_at hl 2 rfl) ?_
    have hPc := hP.sub (ws' := (lzM m q (upd S 0 0) ++ lzI G (q 5) 64 f)) [0, 2] rfl
    refine ro_calli (va_runV (As := [.int set]) (rest := []) ⟨hx, hb, hml, hown, hts⟩ (c_X4_areSquares l G m q (upd S 0 0) f set ) (cwV 1 hts gX4_pose_X4_areSquares rfl rfl rfl (by decide +kernel) ⟨Nat.le_of_ble_eq_true rfl, Nat.le_of_ble_eq_true rfl⟩) (ro_preV hK hPc hP (ci := 4) (q0 := 0) rfl rfl) rfl rfl hl.1 rfl (lv_room (Nat.le_of_ble_eq_true rfl)) dX4_pose_15 ⟨Nat.zero_le _, Nat.zero_le _⟩) (fun r_2 hr_2 => ?_)
    refine lv_if_ne (tgt := 24) hx hb dX4_pose_18 (by decide) (fun c_18 => ?_) (fun c_18 => ?_)
    · skip
      have c_18 := b2_n hr_2 c_18
      refine lv_aload_n hx hb dX4_pose_24 rfl (lv_at hl 0 rfl) ?_
      have hFc : ∀ zz : Nat, lzA (lzM m q (upd S 0 0) ++ (lzI G (q 8) 1536 g ++ (lzI G (q 5) 64 f))) zz → A zz := lz_free hD [0, 1, 2] rfl
      refine va_callv (va_runV (As := []) (rest := []) ⟨hx, hb, hml, hown, hts⟩ (c_X4_keep l G m q (upd S 0 0) g f K (hAc) (hK24)) (cwV 0 hts gX4_pose_X4_keep rfl rfl rfl (by decide +kernel) ⟨Nat.le_of_ble_eq_true rfl, Nat.le_of_ble_eq_true rfl⟩) (rw_preV hK hP hD hP (ci := 4) (q0 := 0) rfl rfl) rfl rfl hl.1 rfl (lv_room (Nat.le_of_ble_eq_true rfl)) dX4_pose_25 ⟨Nat.zero_le _, Nat.zero_le _⟩) hS (fun q _ h => hFc q h) hFc (fun u_4 t9 H1 locs ht hvm hr_3 hB hz1 hk1 hS => ?_)
      replace hB : va_P G.1 lzC _ t9.heap := hB
      rw [ht] at hB
      obtain ⟨hP, hD⟩ := lz_join (wc := (lzM m q (upd S 0 0) ++ (lzI G (q 8) 1536 g ++ (lzI G (q 5) 64 f)))) (wr := ([] : va_W)) (w1 := (lzM m q (upd (upd S 0 0) 9 (nI (kpK K + 1))) ++ (lzI G (q 8) 1536 (kpW g f K) ++ (lzI G (q 5) 64 f)))) hP hD [0, 1, 2] [] rfl rfl (by decide) (by decide) rfl hk1 hB
      replace hP := hP.sub (ws' := (lzM m q (upd (upd S 0 0) 9 (nI (kpK K + 1))) ++ (lzI G (q 8) 1536 (kpW g f K) ++ (lzI G (q 5) 64 f)))) [0, 1, 2] rfl
      replace hD := hD.sub (ws' := (lzM m q (upd (upd S 0 0) 9 (nI (kpK K + 1))) ++ (lzI G (q 8) 1536 (kpW g f K) ++ (lzI G (q 5) 64 f)))) [0, 1, 2] (by decide) rfl
      clear ht hvm hB hz1 hk1
      generalize H1 = H at hP hS ⊢
      refine lv_aload_n hx hb dX4_pose_28 rfl (lv_at hl 0 rfl) ?_
      refine lz_get (G := G) (ci := 4) (v := .ref (q 5)) (C := RX4) (T := TX4) (N := 24) hx hb hu_wsX40 (fun _ h9 => h9) hown hK hP 0 rfl rfl 5 (by decide) hw3 rfl rfl dX4_pose_29 ?_
      refine lv_iload_n hx hb dX4_pose_32 rfl (lv_at hl 1 rfl) ?_
      refine lv_iload_n hx hb dX4_pose_33 rfl (lv_at hl 2 rfl) ?_
      have hPc := hP.sub (ws' := lzI G (q 5) 64 f) [2] rfl
      have hDc := hD.sub (ws' := lzI G (q 5) 64 f) [2] (by decide) rfl
      have hFc : ∀ zz : Nat, lzA (lzI G (q 5) 64 f) zz → A zz := lz_free hD [2] rfl
      refine va_calli (va_runS (As := [.ref (q 5), .int (nI v), .int set]) (rest := []) ⟨hx, hb, hml, hown, hts⟩ (c_X4_poses_out l G (q 5) f v set N (by omega) (hN) (hN8) (hB)) (cwS 3 hts gX4_pose_X4_poses rfl rfl rfl (by decide +kernel) ⟨Nat.le_of_ble_eq_true rfl, Nat.le_of_ble_eq_true rfl⟩) (rw_pre hK hPc hDc) rfl rfl hl.1 rfl (lv_room (Nat.le_of_ble_eq_true rfl)) dX4_pose_34 ⟨Nat.zero_le _, Nat.zero_le _⟩) hS (fun q _ h => hFc q h) hFc (fun r_5 u_6 t9 H1 locs ht hvm hr_5 hB hz1 hk1 hS => ?_)
      replace hB : va_P G.1 lzC _ t9.heap := hB
      rw [ht] at hB
      obtain ⟨hP, hD⟩ := lz_join (wc := lzI G (q 5) 64 f) (wr := ([(m, .inr (4, [.int 0, .int (S 1), .ref (q 2), .ref (q 3), .ref (q 4), .ref (q 5), .ref (q 6), .ref (q 7), .ref (q 8), .int (nI (kpK K + 1)), .ref (q 10), .int (S 11), .int (S 12), .int (S 13), .int (S 14), .int (S 15), .int (S 16), .int (S 17), .int (S 18), .ref (q 19), .ref (q 20), .ref (q 21), .ref (q 22), .int (S 23)])), (q 8, .inl (G.2 0, 1536, .inl (kpW g f K)))] : va_W)) (w1 := lzI G (q 5) 64 (letF f v 0)) hP hD [2] [0, 1] rfl rfl (by decide) (by decide) rfl hk1 hB
      replace hP := hP.sub (ws' := (lzM m q (upd (upd S 0 0) 9 (nI (kpK K + 1))) ++ (lzI G (q 8) 1536 (kpW g f K) ++ (lzI G (q 5) 64 (letF f v 0))))) [0, 1, 2] rfl
      replace hD := hD.sub (ws' := (lzM m q (upd (upd S 0 0) 9 (nI (kpK K + 1))) ++ (lzI G (q 8) 1536 (kpW g f K) ++ (lzI G (q 5) 64 (letF f v 0))))) [0, 1, 2] (by decide) rfl
      clear ht hvm hB hz1 hk1
      generalize H1 = H at hP hS ⊢
      refine lv_if_eq (tgt := 44) hx hb dX4_pose_37 (by decide) (fun c_37 => ?_) (fun c_37 => ?_)
      · skip
        have c_37 := b2_z hr_5 c_37
        refine lv_iconst (v := 0) hx hb dX4_pose_44 (by decide) ?_
        exact rw_iret (S := Unit) (G := G) (Wd := fun _ : Unit => (lzM m q (upd (upd S 0 0) 9 (nI (kpK K + 1))) ++ (lzI G (q 8) 1536 (kpW g f K) ++ (lzI G (q 5) 64 (letF f v 0))))) () hx hb hr hlk dX4_pose_45 hS (hP) (rfl)
      · skip
        have c_37 := b2_n hr_5 c_37
        exact absurd c_37 (by decide)
    · skip
      have c_18 := b2_z hr_2 c_18
      exact Bool.noConfusion (hset.symm.trans c_18)
