set_option maxHeartbeats 4000000 in
set_option maxRecDepth 100000 in
theorem c_X4_shares_bad (l : Launch) (G : lzG) (m : Nat) (q : Nat → Nat) (S : Nat → Int32) (f : Nat → Int32) (a b c : Int32) (hbad : (inR a 0 (f 2 - 1) && inR b 0 7) = false) : Met l yX4_shares wsX4_shares ({ frames := 2, cells := 0, slots := 0, locals := 46 }) (va_Pc [.ref m, .int a, .int b, .int c] (rwP G (lzM m q S ++ lzI G (q 5) 64 f))) (va_Qi (S := Unit) (fun (r : Int32) (_ : Unit) => r = -1000001) (rwB G (fun _ : Unit => (lzM m q (upd S 0 0) ++ lzI G (q 5) 64 f))) (lzA (lzM m q S ++ lzI G (q 5) 64 f))) 0 0 (lzA (lzM m q S ++ lzI G (q 5) 64 f)) := by
  refine rw_start (S := Unit) (cc := cX4_shares) (maxL := 7) (ret := (some .int)) (by decide) rfl (Nat.le_of_ble_eq_true rfl) ?_
  intro pp ee ss mm bl me cd A hx hb hr hlk hml hts hown hP hK hD hAe hS ls hl
  have hA0 : ∀ zz : Nat, lzA (lzM m q S ++ lzI G (q 5) 64 f) zz → A zz := fun zz h9 => by rw [hAe]; exact h9
  rw [← hAe]
  clear hAe
  have hown : ss.vm.findClass RX4 = some mm.cls := hown
  have hw1 := hts (.fieldLink RX4 48 "LampSquaresModel" "thrown" "I") (List.mem_of_getElem? (i := 1) rfl)
  have hw2 := hts (.constant RX4 68 (-1000001)) (List.mem_of_getElem? (i := 2) rfl)
  have hu_wsX40 : ∀ w ∈ wsX40, w.before ([.ref m, .int a, .int b, .int c] : List Value).toArray ss = true := fun w h9 => hts w (List.mem_cons_of_mem _ (List.mem_append_right _ h9))
  have hl : lv_has ls 7 [(0, .ref m), (1, .int a), (2, .int b), (3, .int c)] := hl
  refine lv_aload_n hx hb dX4_shares_0 rfl (lv_at hl 0 rfl) ?_
  refine lv_iconst (v := 0) hx hb dX4_shares_1 (by decide) ?_
  refine lz_put (G := G) (ci := 4) (C := RX4) (T := TX4) (N := 24) hx hb hu_wsX40 (fun _ h9 => h9) tyX4 tyX4_ok nmX4 hown hK hP hD hS 0 rfl rfl 0 (by decide) hw1 rfl rfl (by decide +kernel) (Nat.le_of_ble_eq_true rfl) dX4_shares_2 (lzM m q (upd S 0 0) ++ lzI G (q 5) 64 f) rfl (fun H locs hP hD hS => ?_)
  refine lv_aload_n hx hb dX4_shares_5 rfl (lv_at hl 0 rfl) ?_
  refine lv_iload_n hx hb dX4_shares_6 rfl (lv_at hl 1 rfl) ?_
  refine ro_calli (va_runV (As := [.int a]) (rest := []) ⟨hx, hb, hml, hown, hts⟩ (c_X4_isSquare l G m q (upd S 0 0) f a ) (cwV 1 hts gX4_shares_X4_isSquare rfl rfl rfl (by decide +kernel) ⟨Nat.le_of_ble_eq_true rfl, Nat.le_of_ble_eq_true rfl⟩) (ro_preV hK hP hP (ci := 4) (q0 := 0) rfl rfl) rfl rfl hl.1 rfl (lv_room (Nat.le_of_ble_eq_true rfl)) dX4_shares_7 ⟨Nat.zero_le _, Nat.zero_le _⟩) (fun r_1 hr_1 => ?_)
  refine lv_if_eq (tgt := 20) hx hb dX4_shares_10 (by decide) (fun c_10 => ?_) (fun c_10 => ?_)
  · skip
    have c_10 := b2_z hr_1 c_10
    refine lv_ldc hx hb hown hw2 dX4_shares_20 ?_
    exact rw_iret (S := Unit) (G := G) (Wd := fun _ : Unit => (lzM m q (upd S 0 0) ++ lzI G (q 5) 64 f)) () hx hb hr hlk dX4_shares_22 hS (hP) (rfl)
  · skip
    have c_10 := b2_n hr_1 c_10
    refine lv_iload_n hx hb dX4_shares_13 rfl (lv_at hl 2 rfl) ?_
    refine ro_calli (va_runS (As := [.int b]) (rest := []) ⟨hx, hb, hml, hown, hts⟩ (c_X4_isRow l G b ) (cwS 1 hts gX4_shares_X4_isRow rfl rfl rfl (by decide +kernel) ⟨Nat.le_of_ble_eq_true rfl, Nat.le_of_ble_eq_true rfl⟩) (ro_pre hK (fun k q h => by simp at h)) rfl rfl hl.1 rfl (lv_room (Nat.le_of_ble_eq_true rfl)) dX4_shares_14 ⟨Nat.zero_le _, Nat.zero_le _⟩) (fun r_2 hr_2 => ?_)
    refine lv_if_ne (tgt := 23) hx hb dX4_shares_17 (by decide) (fun c_17 => ?_) (fun c_17 => ?_)
    · skip
      have c_17 := b2_n hr_2 c_17
      exact Bool.noConfusion (hbad.symm.trans (by rw [c_10, c_17] <;> rfl))
    · skip
      have c_17 := b2_z hr_2 c_17
      refine lv_ldc hx hb hown hw2 dX4_shares_20 ?_
      exact rw_iret (S := Unit) (G := G) (Wd := fun _ : Unit => (lzM m q (upd S 0 0) ++ lzI G (q 5) 64 f)) () hx hb hr hlk dX4_shares_22 hS (hP) (rfl)
set_option maxHeartbeats 4000000 in
set_option maxRecDepth 100000 in
theorem c_X4_kinds_bad (l : Launch) (G : lzG) (m : Nat) (q : Nat → Nat) (S : Nat → Int32) (f : Nat → Int32) (a b c : Int32) (hbad : (inR a 0 (f 2 - 1) && inR b 0 7) = false) : Met l yX4_kinds wsX4_kinds ({ frames := 2, cells := 0, slots := 0, locals := 46 }) (va_Pc [.ref m, .int a, .int b, .int c] (rwP G (lzM m q S ++ lzI G (q 5) 64 f))) (va_Qi (S := Unit) (fun (r : Int32) (_ : Unit) => r = -1000001) (rwB G (fun _ : Unit => (lzM m q (upd S 0 0) ++ lzI G (q 5) 64 f))) (lzA (lzM m q S ++ lzI G (q 5) 64 f))) 0 0 (lzA (lzM m q S ++ lzI G (q 5) 64 f)) := by
  refine rw_start (S := Unit) (cc := cX4_kinds) (maxL := 7) (ret := (some .int)) (by decide) rfl (Nat.le_of_ble_eq_true rfl) ?_
  intro pp ee ss mm bl me cd A hx hb hr hlk hml hts hown hP hK hD hAe hS ls hl
  have hA0 : ∀ zz : Nat, lzA (lzM m q S ++ lzI G (q 5) 64 f) zz → A zz := fun zz h9 => by rw [hAe]; exact h9
  rw [← hAe]
  clear hAe
  have hown : ss.vm.findClass RX4 = some mm.cls := hown
  have hw1 := hts (.fieldLink RX4 48 "LampSquaresModel" "thrown" "I") (List.mem_of_getElem? (i := 1) rfl)
  have hw2 := hts (.constant RX4 68 (-1000001)) (List.mem_of_getElem? (i := 2) rfl)
  have hu_wsX40 : ∀ w ∈ wsX40, w.before ([.ref m, .int a, .int b, .int c] : List Value).toArray ss = true := fun w h9 => hts w (List.mem_cons_of_mem _ (List.mem_append_right _ h9))
  have hl : lv_has ls 7 [(0, .ref m), (1, .int a), (2, .int b), (3, .int c)] := hl
  refine lv_aload_n hx hb dX4_kinds_0 rfl (lv_at hl 0 rfl) ?_
  refine lv_iconst (v := 0) hx hb dX4_kinds_1 (by decide) ?_
  refine lz_put (G := G) (ci := 4) (C := RX4) (T := TX4) (N := 24) hx hb hu_wsX40 (fun _ h9 => h9) tyX4 tyX4_ok nmX4 hown hK hP hD hS 0 rfl rfl 0 (by decide) hw1 rfl rfl (by decide +kernel) (Nat.le_of_ble_eq_true rfl) dX4_kinds_2 (lzM m q (upd S 0 0) ++ lzI G (q 5) 64 f) rfl (fun H locs hP hD hS => ?_)
  refine lv_aload_n hx hb dX4_kinds_5 rfl (lv_at hl 0 rfl) ?_
  refine lv_iload_n hx hb dX4_kinds_6 rfl (lv_at hl 1 rfl) ?_
  refine ro_calli (va_runV (As := [.int a]) (rest := []) ⟨hx, hb, hml, hown, hts⟩ (c_X4_isSquare l G m q (upd S 0 0) f a ) (cwV 1 hts gX4_kinds_X4_isSquare rfl rfl rfl (by decide +kernel) ⟨Nat.le_of_ble_eq_true rfl, Nat.le_of_ble_eq_true rfl⟩) (ro_preV hK hP hP (ci := 4) (q0 := 0) rfl rfl) rfl rfl hl.1 rfl (lv_room (Nat.le_of_ble_eq_true rfl)) dX4_kinds_7 ⟨Nat.zero_le _, Nat.zero_le _⟩) (fun r_1 hr_1 => ?_)
  refine lv_if_eq (tgt := 20) hx hb dX4_kinds_10 (by decide) (fun c_10 => ?_) (fun c_10 => ?_)
  · skip
    have c_10 := b2_z hr_1 c_10
    refine lv_ldc hx hb hown hw2 dX4_kinds_20 ?_
    exact rw_iret (S := Unit) (G := G) (Wd := fun _ : Unit => (lzM m q (upd S 0 0) ++ lzI G (q 5) 64 f)) () hx hb hr hlk dX4_kinds_22 hS (hP) (rfl)
  · skip
    have c_10 := b2_n hr_1 c_10
    refine lv_iload_n hx hb dX4_kinds_13 rfl (lv_at hl 2 rfl) ?_
    refine ro_calli (va_runS (As := [.int b]) (rest := []) ⟨hx, hb, hml, hown, hts⟩ (c_X4_isRow l G b ) (cwS 1 hts gX4_kinds_X4_isRow rfl rfl rfl (by decide +kernel) ⟨Nat.le_of_ble_eq_true rfl, Nat.le_of_ble_eq_true rfl⟩) (ro_pre hK (fun k q h => by simp at h)) rfl rfl hl.1 rfl (lv_room (Nat.le_of_ble_eq_true rfl)) dX4_kinds_14 ⟨Nat.zero_le _, Nat.zero_le _⟩) (fun r_2 hr_2 => ?_)
    refine lv_if_ne (tgt := 23) hx hb dX4_kinds_17 (by decide) (fun c_17 => ?_) (fun c_17 => ?_)
    · skip
      have c_17 := b2_n hr_2 c_17
      exact Bool.noConfusion (hbad.symm.trans (by rw [c_10, c_17] <;> rfl))
    · skip
      have c_17 := b2_z hr_2 c_17
      refine lv_ldc hx hb hown hw2 dX4_kinds_20 ?_
      exact rw_iret (S := Unit) (G := G) (Wd := fun _ : Unit => (lzM m q (upd S 0 0) ++ lzI G (q 5) 64 f)) () hx hb hr hlk dX4_kinds_22 hS (hP) (rfl)
set_option maxHeartbeats 4000000 in
set_option maxRecDepth 100000 in
theorem c_X4_who_state (l : Launch) (G : lzG) (m : Nat) (q : Nat → Nat) (S : Nat → Int32) (f : Nat → Int32) (a b : Int32) (hR : (decide (0 < f 0)) = false) : Met l yX4_who wsX4_who ({ frames := 1, cells := 0, slots := 0, locals := 20 }) (va_Pc [.ref m, .int a, .int b] (rwP G (lzM m q S ++ lzI G (q 5) 64 f))) (va_Qi (S := Unit) (fun (r : Int32) (_ : Unit) => r = -1000002) (rwB G (fun _ : Unit => (lzM m q (upd S 0 0) ++ lzI G (q 5) 64 f))) (lzA (lzM m q S ++ lzI G (q 5) 64 f))) 0 0 (lzA (lzM m q S ++ lzI G (q 5) 64 f)) := by
  refine rw_start (S := Unit) (cc := cX4_who) (maxL := 6) (ret := (some .int)) (by decide) rfl (Nat.le_of_ble_eq_true rfl) ?_
  intro pp ee ss mm bl me cd A hx hb hr hlk hml hts hown hP hK hD hAe hS ls hl
  have hA0 : ∀ zz : Nat, lzA (lzM m q S ++ lzI G (q 5) 64 f) zz → A zz := fun zz h9 => by rw [hAe]; exact h9
  rw [← hAe]
  clear hAe
  have hown : ss.vm.findClass RX4 = some mm.cls := hown
  have hw1 := hts (.fieldLink RX4 48 "LampSquaresModel" "thrown" "I") (List.mem_of_getElem? (i := 1) rfl)
  have hw2 := hts (.constant RX4 204 (-1000002)) (List.mem_of_getElem? (i := 2) rfl)
  have hu_wsX40 : ∀ w ∈ wsX40, w.before ([.ref m, .int a, .int b] : List Value).toArray ss = true := fun w h9 => hts w (List.mem_cons_of_mem _ (List.mem_append_right _ h9))
  have hl : lv_has ls 6 [(0, .ref m), (1, .int a), (2, .int b)] := hl
  refine lv_aload_n hx hb dX4_who_0 rfl (lv_at hl 0 rfl) ?_
  refine lv_iconst (v := 0) hx hb dX4_who_1 (by decide) ?_
  refine lz_put (G := G) (ci := 4) (C := RX4) (T := TX4) (N := 24) hx hb hu_wsX40 (fun _ h9 => h9) tyX4 tyX4_ok nmX4 hown hK hP hD hS 0 rfl rfl 0 (by decide) hw1 rfl rfl (by decide +kernel) (Nat.le_of_ble_eq_true rfl) dX4_who_2 (lzM m q (upd S 0 0) ++ lzI G (q 5) 64 f) rfl (fun H locs hP hD hS => ?_)
  refine lv_aload_n hx hb dX4_who_5 rfl (lv_at hl 0 rfl) ?_
  refine ro_calli (va_runV (As := []) (rest := []) ⟨hx, hb, hml, hown, hts⟩ (c_X4_isThere l G m q (upd S 0 0) f ) (cwV 0 hts gX4_who_X4_isThere rfl rfl rfl (by decide +kernel) ⟨Nat.le_of_ble_eq_true rfl, Nat.le_of_ble_eq_true rfl⟩) (ro_preV hK hP hP (ci := 4) (q0 := 0) rfl rfl) rfl rfl hl.1 rfl (lv_room (Nat.le_of_ble_eq_true rfl)) dX4_who_6 ⟨Nat.zero_le _, Nat.zero_le _⟩) (fun r_1 hr_1 => ?_)
  refine lv_if_ne (tgt := 15) hx hb dX4_who_9 (by decide) (fun c_9 => ?_) (fun c_9 => ?_)
  · skip
    have c_9 := b2_n hr_1 c_9
    exact Bool.noConfusion (hR.symm.trans c_9)
  · skip
    have c_9 := b2_z hr_1 c_9
    refine lv_ldc hx hb hown hw2 dX4_who_12 ?_
    exact rw_iret (S := Unit) (G := G) (Wd := fun _ : Unit => (lzM m q (upd S 0 0) ++ lzI G (q 5) 64 f)) () hx hb hr hlk dX4_who_14 hS (hP) (rfl)
set_option maxHeartbeats 4000000 in
set_option maxRecDepth 100000 in
theorem c_X4_who_bad (l : Launch) (G : lzG) (m : Nat) (q : Nat → Nat) (S : Nat → Int32) (f : Nat → Int32) (a b : Int32) (hR : (decide (0 < f 0)) = true) (hbad : inR a 0 7 = false) : Met l yX4_who wsX4_who ({ frames := 2, cells := 0, slots := 0, locals := 45 }) (va_Pc [.ref m, .int a, .int b] (rwP G (lzM m q S ++ lzI G (q 5) 64 f))) (va_Qi (S := Unit) (fun (r : Int32) (_ : Unit) => r = -1000001) (rwB G (fun _ : Unit => (lzM m q (upd S 0 0) ++ lzI G (q 5) 64 f))) (lzA (lzM m q S ++ lzI G (q 5) 64 f))) 0 0 (lzA (lzM m q S ++ lzI G (q 5) 64 f)) := by
  refine rw_start (S := Unit) (cc := cX4_who) (maxL := 6) (ret := (some .int)) (by decide) rfl (Nat.le_of_ble_eq_true rfl) ?_
  intro pp ee ss mm bl me cd A hx hb hr hlk hml hts hown hP hK hD hAe hS ls hl
  have hA0 : ∀ zz : Nat, lzA (lzM m q S ++ lzI G (q 5) 64 f) zz → A zz := fun zz h9 => by rw [hAe]; exact h9
  rw [← hAe]
  clear hAe
  have hown : ss.vm.findClass RX4 = some mm.cls := hown
  have hw1 := hts (.fieldLink RX4 48 "LampSquaresModel" "thrown" "I") (List.mem_of_getElem? (i := 1) rfl)
  have hw3 := hts (.constant RX4 68 (-1000001)) (List.mem_of_getElem? (i := 3) rfl)
  have hu_wsX40 : ∀ w ∈ wsX40, w.before ([.ref m, .int a, .int b] : List Value).toArray ss = true := fun w h9 => hts w (List.mem_cons_of_mem _ (List.mem_append_right _ h9))
  have hl : lv_has ls 6 [(0, .ref m), (1, .int a), (2, .int b)] := hl
  refine lv_aload_n hx hb dX4_who_0 rfl (lv_at hl 0 rfl) ?_
  refine lv_iconst (v := 0) hx hb dX4_who_1 (by decide) ?_
  refine lz_put (G := G) (ci := 4) (C := RX4) (T := TX4) (N := 24) hx hb hu_wsX40 (fun _ h9 => h9) tyX4 tyX4_ok nmX4 hown hK hP hD hS 0 rfl rfl 0 (by decide) hw1 rfl rfl (by decide +kernel) (Nat.le_of_ble_eq_true rfl) dX4_who_2 (lzM m q (upd S 0 0) ++ lzI G (q 5) 64 f) rfl (fun H locs hP hD hS => ?_)
  refine lv_aload_n hx hb dX4_who_5 rfl (lv_at hl 0 rfl) ?_
  refine ro_calli (va_runV (As := []) (rest := []) ⟨hx, hb, hml, hown, hts⟩ (c_X4_isThere l G m q (upd S 0 0) f ) (cwV 0 hts gX4_who_X4_isThere rfl rfl rfl (by decide +kernel) ⟨Nat.le_of_ble_eq_true rfl, Nat.le_of_ble_eq_true rfl⟩) (ro_preV hK hP hP (ci := 4) (q0 := 0) rfl rfl) rfl rfl hl.1 rfl (lv_room (Nat.le_of_ble_eq_true rfl)) dX4_who_6 ⟨Nat.zero_le _, Nat.zero_le _⟩) (fun r_1 hr_1 => ?_)
  refine lv_if_ne (tgt := 15) hx hb dX4_who_9 (by decide) (fun c_9 => ?_) (fun c_9 => ?_)
  · skip
    have c_9 := b2_n hr_1 c_9
    refine lv_iload_n hx hb dX4_who_15 rfl (lv_at hl 1 rfl) ?_
    refine ro_calli (va_runS (As := [.int a]) (rest := []) ⟨hx, hb, hml, hown, hts⟩ (c_X4_isRow l G a ) (cwS 1 hts gX4_who_X4_isRow rfl rfl rfl (by decide +kernel) ⟨Nat.le_of_ble_eq_true rfl, Nat.le_of_ble_eq_true rfl⟩) (ro_pre hK (fun k q h => by simp at h)) rfl rfl hl.1 rfl (lv_room (Nat.le_of_ble_eq_true rfl)) dX4_who_16 ⟨Nat.zero_le _, Nat.zero_le _⟩) (fun r_2 hr_2 => ?_)
    refine lv_if_ne (tgt := 25) hx hb dX4_who_19 (by decide) (fun c_19 => ?_) (fun c_19 => ?_)
    · skip
      have c_19 := b2_n hr_2 c_19
      exact Bool.noConfusion (hbad.symm.trans c_19)
    · skip
      have c_19 := b2_z hr_2 c_19
      refine lv_ldc hx hb hown hw3 dX4_who_22 ?_
      exact rw_iret (S := Unit) (G := G) (Wd := fun _ : Unit => (lzM m q (upd S 0 0) ++ lzI G (q 5) 64 f)) () hx hb hr hlk dX4_who_24 hS (hP) (rfl)
  · skip
    have c_9 := b2_z hr_1 c_9
    exact Bool.noConfusion (hR.symm.trans c_9)
set_option maxHeartbeats 4000000 in
set_option maxRecDepth 100000 in
theorem c_X4_cares_state (l : Launch) (G : lzG) (m : Nat) (q : Nat → Nat) (S : Nat → Int32) (f : Nat → Int32) (a b c : Int32) (hR : (decide (0 < f 0)) = false) : Met l yX4_cares wsX4_cares ({ frames := 1, cells := 0, slots := 0, locals := 20 }) (va_Pc [.ref m, .int a, .int b, .int c] (rwP G (lzM m q S ++ lzI G (q 5) 64 f))) (va_Qi (S := Unit) (fun (r : Int32) (_ : Unit) => r = -1000002) (rwB G (fun _ : Unit => (lzM m q (upd S 0 0) ++ lzI G (q 5) 64 f))) (lzA (lzM m q S ++ lzI G (q 5) 64 f))) 0 0 (lzA (lzM m q S ++ lzI G (q 5) 64 f)) := by
  refine rw_start (S := Unit) (cc := cX4_cares) (maxL := 7) (ret := (some .int)) (by decide) rfl (Nat.le_of_ble_eq_true rfl) ?_
  intro pp ee ss mm bl me cd A hx hb hr hlk hml hts hown hP hK hD hAe hS ls hl
  have hA0 : ∀ zz : Nat, lzA (lzM m q S ++ lzI G (q 5) 64 f) zz → A zz := fun zz h9 => by rw [hAe]; exact h9
  rw [← hAe]
  clear hAe
  have hown : ss.vm.findClass RX4 = some mm.cls := hown
  have hw1 := hts (.fieldLink RX4 48 "LampSquaresModel" "thrown" "I") (List.mem_of_getElem? (i := 1) rfl)
  have hw2 := hts (.constant RX4 204 (-1000002)) (List.mem_of_getElem? (i := 2) rfl)
  have hu_wsX40 : ∀ w ∈ wsX40, w.before ([.ref m, .int a, .int b, .int c] : List Value).toArray ss = true := fun w h9 => hts w (List.mem_cons_of_mem _ (List.mem_append_right _ h9))
  have hl : lv_has ls 7 [(0, .ref m), (1, .int a), (2, .int b), (3, .int c)] := hl
  refine lv_aload_n hx hb dX4_cares_0 rfl (lv_at hl 0 rfl) ?_
  refine lv_iconst (v := 0) hx hb dX4_cares_1 (by decide) ?_
  refine lz_put (G := G) (ci := 4) (C := RX4) (T := TX4) (N := 24) hx hb hu_wsX40 (fun _ h9 => h9) tyX4 tyX4_ok nmX4 hown hK hP hD hS 0 rfl rfl 0 (by decide) hw1 rfl rfl (by decide +kernel) (Nat.le_of_ble_eq_true rfl) dX4_cares_2 (lzM m q (upd S 0 0) ++ lzI G (q 5) 64 f) rfl (fun H locs hP hD hS => ?_)
  refine lv_aload_n hx hb dX4_cares_5 rfl (lv_at hl 0 rfl) ?_
  refine ro_calli (va_runV (As := []) (rest := []) ⟨hx, hb, hml, hown, hts⟩ (c_X4_isThere l G m q (upd S 0 0) f ) (cwV 0 hts gX4_cares_X4_isThere rfl rfl rfl (by decide +kernel) ⟨Nat.le_of_ble_eq_true rfl, Nat.le_of_ble_eq_true rfl⟩) (ro_preV hK hP hP (ci := 4) (q0 := 0) rfl rfl) rfl rfl hl.1 rfl (lv_room (Nat.le_of_ble_eq_true rfl)) dX4_cares_6 ⟨Nat.zero_le _, Nat.zero_le _⟩) (fun r_1 hr_1 => ?_)
  refine lv_if_ne (tgt := 15) hx hb dX4_cares_9 (by decide) (fun c_9 => ?_) (fun c_9 => ?_)
  · skip
    have c_9 := b2_n hr_1 c_9
    exact Bool.noConfusion (hR.symm.trans c_9)
  · skip
    have c_9 := b2_z hr_1 c_9
    refine lv_ldc hx hb hown hw2 dX4_cares_12 ?_
    exact rw_iret (S := Unit) (G := G) (Wd := fun _ : Unit => (lzM m q (upd S 0 0) ++ lzI G (q 5) 64 f)) () hx hb hr hlk dX4_cares_14 hS (hP) (rfl)
set_option maxHeartbeats 4000000 in
set_option maxRecDepth 100000 in
theorem c_X4_cares_bad (l : Launch) (G : lzG) (m : Nat) (q : Nat → Nat) (S : Nat → Int32) (f : Nat → Int32) (a b c : Int32) (hR : (decide (0 < f 0)) = true) (hbad : (inR a 0 9 && inR b 0 7) = false) : Met l yX4_cares wsX4_cares ({ frames := 2, cells := 0, slots := 0, locals := 45 }) (va_Pc [.ref m, .int a, .int b, .int c] (rwP G (lzM m q S ++ lzI G (q 5) 64 f))) (va_Qi (S := Unit) (fun (r : Int32) (_ : Unit) => r = -1000001) (rwB G (fun _ : Unit => (lzM m q (upd S 0 0) ++ lzI G (q 5) 64 f))) (lzA (lzM m q S ++ lzI G (q 5) 64 f))) 0 0 (lzA (lzM m q S ++ lzI G (q 5) 64 f)) := by
  have hbW : (inL a.toInt64 0 9 && inR b 0 7) = false := by rw [show inL a.toInt64 0 9 = inR a 0 9 from inL_of a 0 9]; exact hbad
  refine rw_start (S := Unit) (cc := cX4_cares) (maxL := 7) (ret := (some .int)) (by decide) rfl (Nat.le_of_ble_eq_true rfl) ?_
  intro pp ee ss mm bl me cd A hx hb hr hlk hml hts hown hP hK hD hAe hS ls hl
  have hA0 : ∀ zz : Nat, lzA (lzM m q S ++ lzI G (q 5) 64 f) zz → A zz := fun zz h9 => by rw [hAe]; exact h9
  rw [← hAe]
  clear hAe
  have hown : ss.vm.findClass RX4 = some mm.cls := hown
  have hw1 := hts (.fieldLink RX4 48 "LampSquaresModel" "thrown" "I") (List.mem_of_getElem? (i := 1) rfl)
  have hw3 := hts (.constantLong RX4 210 (9)) (List.mem_of_getElem? (i := 3) rfl)
  have hw4 := hts (.constant RX4 68 (-1000001)) (List.mem_of_getElem? (i := 4) rfl)
  have hu_wsX40 : ∀ w ∈ wsX40, w.before ([.ref m, .int a, .int b, .int c] : List Value).toArray ss = true := fun w h9 => hts w (List.mem_cons_of_mem _ (List.mem_append_right _ h9))
  have hl : lv_has ls 7 [(0, .ref m), (1, .int a), (2, .int b), (3, .int c)] := hl
  refine lv_aload_n hx hb dX4_cares_0 rfl (lv_at hl 0 rfl) ?_
  refine lv_iconst (v := 0) hx hb dX4_cares_1 (by decide) ?_
  refine lz_put (G := G) (ci := 4) (C := RX4) (T := TX4) (N := 24) hx hb hu_wsX40 (fun _ h9 => h9) tyX4 tyX4_ok nmX4 hown hK hP hD hS 0 rfl rfl 0 (by decide) hw1 rfl rfl (by decide +kernel) (Nat.le_of_ble_eq_true rfl) dX4_cares_2 (lzM m q (upd S 0 0) ++ lzI G (q 5) 64 f) rfl (fun H locs hP hD hS => ?_)
  refine lv_aload_n hx hb dX4_cares_5 rfl (lv_at hl 0 rfl) ?_
  refine ro_calli (va_runV (As := []) (rest := []) ⟨hx, hb, hml, hown, hts⟩ (c_X4_isThere l G m q (upd S 0 0) f ) (cwV 0 hts gX4_cares_X4_isThere rfl rfl rfl (by decide +kernel) ⟨Nat.le_of_ble_eq_true rfl, Nat.le_of_ble_eq_true rfl⟩) (ro_preV hK hP hP (ci := 4) (q0 := 0) rfl rfl) rfl rfl hl.1 rfl (lv_room (Nat.le_of_ble_eq_true rfl)) dX4_cares_6 ⟨Nat.zero_le _, Nat.zero_le _⟩) (fun r_1 hr_1 => ?_)
  refine lv_if_ne (tgt := 15) hx hb dX4_cares_9 (by decide) (fun c_9 => ?_) (fun c_9 => ?_)
  · skip
    have c_9 := b2_n hr_1 c_9
    refine lv_iload_n hx hb dX4_cares_15 rfl (lv_at hl 1 rfl) ?_
    refine lv_i2l hx hb dX4_cares_16 rfl ?_
    refine lv_lconst (v := 0) hx hb dX4_cares_17 (by decide) ?_
    refine lv_ldc2 hx hb hown hw3 dX4_cares_18 ?_
    refine ro_calli (va_runS (As := [.long a.toInt64, .long 0, .long 9]) (rest := []) ⟨hx, hb, hml, hown, hts⟩ (c_X4_in l G a.toInt64 0 9 ) (cwS 3 hts gX4_cares_X4_in rfl rfl rfl (by decide +kernel) ⟨Nat.le_of_ble_eq_true rfl, Nat.le_of_ble_eq_true rfl⟩) (ro_pre hK (fun k q h => by simp at h)) rfl rfl hl.1 rfl (lv_room (Nat.le_of_ble_eq_true rfl)) dX4_cares_21 ⟨Nat.zero_le _, Nat.zero_le _⟩) (fun r_2 hr_2 => ?_)
    refine lv_if_eq (tgt := 34) hx hb dX4_cares_24 (by decide) (fun c_24 => ?_) (fun c_24 => ?_)
    · skip
      have c_24 := b2_z hr_2 c_24
      refine lv_ldc hx hb hown hw4 dX4_cares_34 ?_
      exact rw_iret (S := Unit) (G := G) (Wd := fun _ : Unit => (lzM m q (upd S 0 0) ++ lzI G (q 5) 64 f)) () hx hb hr hlk dX4_cares_36 hS (hP) (rfl)
    · skip
      have c_24 := b2_n hr_2 c_24
      refine lv_iload_n hx hb dX4_cares_27 rfl (lv_at hl 2 rfl) ?_
      refine ro_calli (va_runS (As := [.int b]) (rest := []) ⟨hx, hb, hml, hown, hts⟩ (c_X4_isRow l G b ) (cwS 1 hts gX4_cares_X4_isRow rfl rfl rfl (by decide +kernel) ⟨Nat.le_of_ble_eq_true rfl, Nat.le_of_ble_eq_true rfl⟩) (ro_pre hK (fun k q h => by simp at h)) rfl rfl hl.1 rfl (lv_room (Nat.le_of_ble_eq_true rfl)) dX4_cares_28 ⟨Nat.zero_le _, Nat.zero_le _⟩) (fun r_3 hr_3 => ?_)
      refine lv_if_ne (tgt := 37) hx hb dX4_cares_31 (by decide) (fun c_31 => ?_) (fun c_31 => ?_)
      · skip
        have c_31 := b2_n hr_3 c_31
        exact Bool.noConfusion (hbW.symm.trans (by rw [c_24, c_31] <;> rfl))
      · skip
        have c_31 := b2_z hr_3 c_31
        refine lv_ldc hx hb hown hw4 dX4_cares_34 ?_
        exact rw_iret (S := Unit) (G := G) (Wd := fun _ : Unit => (lzM m q (upd S 0 0) ++ lzI G (q 5) 64 f)) () hx hb hr hlk dX4_cares_36 hS (hP) (rfl)
  · skip
    have c_9 := b2_z hr_1 c_9
    exact Bool.noConfusion (hR.symm.trans c_9)
