set_option maxHeartbeats 4000000 in
set_option maxRecDepth 100000 in
theorem c_X4_fault (l : Launch) (G : lzG) (m : Nat) (q : Nat → Nat) (S : Nat → Int32)  : Met l yX4_fault wsX4_fault ({ frames := 0, cells := 0, slots := 0, locals := 0 }) (va_Pc [.ref m] (rwP G (lzM m q S))) (va_Qi (S := Unit) (fun (r : Int32) (_ : Unit) => r = S 18) (rwB G (fun _ : Unit => lzM m q (upd S 0 0))) (lzA (lzM m q S))) 0 0 (lzA (lzM m q S)) := by
  refine rw_start (S := Unit) (cc := cX4_fault) (maxL := 1) (ret := (some .int)) (by decide) rfl (Nat.le_of_ble_eq_true rfl) ?_
  intro pp ee ss mm bl me cd A hx hb hr hlk hml hts hown hP hK hD hAe hS ls hl
  have hA0 : ∀ zz : Nat, lzA (lzM m q S) zz → A zz := fun zz h9 => by rw [hAe]; exact h9
  rw [← hAe]
  clear hAe
  have hown : ss.vm.findClass RX4 = some mm.cls := hown
  have hw1 := hts (.fieldLink RX4 48 "LampSquaresModel" "thrown" "I") (List.mem_of_getElem? (i := 1) rfl)
  have hw2 := hts (.fieldLink RX4 117 "LampSquaresModel" "latest" "I") (List.mem_of_getElem? (i := 2) rfl)
  have hu_wsX40 : ∀ w ∈ wsX40, w.before ([.ref m] : List Value).toArray ss = true := fun w h9 => hts w (List.mem_cons_of_mem _ (List.mem_append_right _ h9))
  have hl : lv_has ls 1 [(0, .ref m)] := hl
  refine lv_aload_n hx hb dX4_fault_0 rfl (lv_at hl 0 rfl) ?_
  refine lv_iconst (v := 0) hx hb dX4_fault_1 (by decide) ?_
  refine lz_put (G := G) (ci := 4) (C := RX4) (T := TX4) (N := 24) hx hb hu_wsX40 (fun _ h9 => h9) tyX4 tyX4_ok nmX4 hown hK hP hD hS 0 rfl rfl 0 (by decide) hw1 rfl rfl (by decide +kernel) (Nat.le_of_ble_eq_true rfl) dX4_fault_2 (lzM m q (upd S 0 0)) rfl (fun H locs hP hD hS => ?_)
  refine lv_aload_n hx hb dX4_fault_5 rfl (lv_at hl 0 rfl) ?_
  refine lz_get (G := G) (ci := 4) (v := .int (S 18)) (C := RX4) (T := TX4) (N := 24) hx hb hu_wsX40 (fun _ h9 => h9) hown hK hP 0 rfl rfl 18 (by decide) hw2 rfl rfl dX4_fault_6 ?_
  exact rw_iret (S := Unit) (G := G) (Wd := fun _ : Unit => lzM m q (upd S 0 0)) () hx hb hr hlk dX4_fault_9 hS (hP) (rfl)
set_option maxHeartbeats 4000000 in
set_option maxRecDepth 100000 in
theorem c_X4_status (l : Launch) (G : lzG) (m : Nat) (q : Nat → Nat) (S : Nat → Int32)  : Met l yX4_status wsX4_status ({ frames := 0, cells := 0, slots := 0, locals := 0 }) (va_Pc [.ref m] (rwP G (lzM m q S))) (va_Qi (S := Unit) (fun (r : Int32) (_ : Unit) => r = S 1) (rwB G (fun _ : Unit => lzM m q (upd S 0 0))) (lzA (lzM m q S))) 0 0 (lzA (lzM m q S)) := by
  refine rw_start (S := Unit) (cc := cX4_status) (maxL := 1) (ret := (some .int)) (by decide) rfl (Nat.le_of_ble_eq_true rfl) ?_
  intro pp ee ss mm bl me cd A hx hb hr hlk hml hts hown hP hK hD hAe hS ls hl
  have hA0 : ∀ zz : Nat, lzA (lzM m q S) zz → A zz := fun zz h9 => by rw [hAe]; exact h9
  rw [← hAe]
  clear hAe
  have hown : ss.vm.findClass RX4 = some mm.cls := hown
  have hw1 := hts (.fieldLink RX4 48 "LampSquaresModel" "thrown" "I") (List.mem_of_getElem? (i := 1) rfl)
  have hw2 := hts (.fieldLink RX4 52 "LampSquaresModel" "status" "I") (List.mem_of_getElem? (i := 2) rfl)
  have hu_wsX40 : ∀ w ∈ wsX40, w.before ([.ref m] : List Value).toArray ss = true := fun w h9 => hts w (List.mem_cons_of_mem _ (List.mem_append_right _ h9))
  have hl : lv_has ls 1 [(0, .ref m)] := hl
  refine lv_aload_n hx hb dX4_status_0 rfl (lv_at hl 0 rfl) ?_
  refine lv_iconst (v := 0) hx hb dX4_status_1 (by decide) ?_
  refine lz_put (G := G) (ci := 4) (C := RX4) (T := TX4) (N := 24) hx hb hu_wsX40 (fun _ h9 => h9) tyX4 tyX4_ok nmX4 hown hK hP hD hS 0 rfl rfl 0 (by decide) hw1 rfl rfl (by decide +kernel) (Nat.le_of_ble_eq_true rfl) dX4_status_2 (lzM m q (upd S 0 0)) rfl (fun H locs hP hD hS => ?_)
  refine lv_aload_n hx hb dX4_status_5 rfl (lv_at hl 0 rfl) ?_
  refine lz_get (G := G) (ci := 4) (v := .int (S 1)) (C := RX4) (T := TX4) (N := 24) hx hb hu_wsX40 (fun _ h9 => h9) hown hK hP 0 rfl rfl 1 (by decide) hw2 rfl rfl dX4_status_6 ?_
  exact rw_iret (S := Unit) (G := G) (Wd := fun _ : Unit => lzM m q (upd S 0 0)) () hx hb hr hlk dX4_status_9 hS (hP) (rfl)
set_option maxHeartbeats 4000000 in
set_option maxRecDepth 100000 in
theorem c_X4_kind_bad (l : Launch) (G : lzG) (m : Nat) (q : Nat → Nat) (S : Nat → Int32) (f : Nat → Int32) (a : Int32) (hbad : inR a 0 (f 2 - 1) = false) : Met l yX4_kind wsX4_kind ({ frames := 2, cells := 0, slots := 0, locals := 46 }) (va_Pc [.ref m, .int a] (rwP G (lzM m q S ++ lzI G (q 5) 64 f))) (va_Qi (S := Unit) (fun (r : Int32) (_ : Unit) => r = -1000001) (rwB G (fun _ : Unit => (lzM m q (upd S 0 0) ++ lzI G (q 5) 64 f))) (lzA (lzM m q S ++ lzI G (q 5) 64 f))) 0 0 (lzA (lzM m q S ++ lzI G (q 5) 64 f)) := by
  refine rw_start (S := Unit) (cc := cX4_kind) (maxL := 2) (ret := (some .int)) (by decide) rfl (Nat.le_of_ble_eq_true rfl) ?_
  intro pp ee ss mm bl me cd A hx hb hr hlk hml hts hown hP hK hD hAe hS ls hl
  have hA0 : ∀ zz : Nat, lzA (lzM m q S ++ lzI G (q 5) 64 f) zz → A zz := fun zz h9 => by rw [hAe]; exact h9
  rw [← hAe]
  clear hAe
  have hown : ss.vm.findClass RX4 = some mm.cls := hown
  have hw1 := hts (.fieldLink RX4 48 "LampSquaresModel" "thrown" "I") (List.mem_of_getElem? (i := 1) rfl)
  have hw3 := hts (.constant RX4 68 (-1000001)) (List.mem_of_getElem? (i := 3) rfl)
  have hu_wsX40 : ∀ w ∈ wsX40, w.before ([.ref m, .int a] : List Value).toArray ss = true := fun w h9 => hts w (List.mem_cons_of_mem _ (List.mem_append_right _ h9))
  have hl : lv_has ls 2 [(0, .ref m), (1, .int a)] := hl
  refine lv_aload_n hx hb dX4_kind_0 rfl (lv_at hl 0 rfl) ?_
  refine lv_iconst (v := 0) hx hb dX4_kind_1 (by decide) ?_
  refine lz_put (G := G) (ci := 4) (C := RX4) (T := TX4) (N := 24) hx hb hu_wsX40 (fun _ h9 => h9) tyX4 tyX4_ok nmX4 hown hK hP hD hS 0 rfl rfl 0 (by decide) hw1 rfl rfl (by decide +kernel) (Nat.le_of_ble_eq_true rfl) dX4_kind_2 (lzM m q (upd S 0 0) ++ lzI G (q 5) 64 f) rfl (fun H locs hP hD hS => ?_)
  refine lv_aload_n hx hb dX4_kind_5 rfl (lv_at hl 0 rfl) ?_
  refine lv_iload_n hx hb dX4_kind_6 rfl (lv_at hl 1 rfl) ?_
  refine ro_calli (va_runV (As := [.int a]) (rest := []) ⟨hx, hb, hml, hown, hts⟩ (c_X4_isSquare l G m q (upd S 0 0) f a ) (cwV 1 hts gX4_kind_X4_isSquare rfl rfl rfl (by decide +kernel) ⟨Nat.le_of_ble_eq_true rfl, Nat.le_of_ble_eq_true rfl⟩) (ro_preV hK hP hP (ci := 4) (q0 := 0) rfl rfl) rfl rfl hl.1 rfl (lv_room (Nat.le_of_ble_eq_true rfl)) dX4_kind_7 ⟨Nat.zero_le _, Nat.zero_le _⟩) (fun r_1 hr_1 => ?_)
  refine lv_if_eq (tgt := 25) hx hb dX4_kind_10 (by decide) (fun c_10 => ?_) (fun c_10 => ?_)
  · skip
    have c_10 := b2_z hr_1 c_10
    refine lv_ldc hx hb hown hw3 dX4_kind_25 ?_
    exact rw_iret (S := Unit) (G := G) (Wd := fun _ : Unit => (lzM m q (upd S 0 0) ++ lzI G (q 5) 64 f)) () hx hb hr hlk dX4_kind_27 hS (hP) (rfl)
  · skip
    have c_10 := b2_n hr_1 c_10
    exact Bool.noConfusion (hbad.symm.trans c_10)
set_option maxHeartbeats 4000000 in
set_option maxRecDepth 100000 in
theorem c_X4_kind_ok (l : Launch) (G : lzG) (m : Nat) (q : Nat → Nat) (S : Nat → Int32) (f : Nat → Int32) (s N : Nat) (hN : f 2 = nI N) (hN8 : N ≤ 8) (hs : s < N) : Met l yX4_kind wsX4_kind ({ frames := 2, cells := 0, slots := 0, locals := 46 }) (va_Pc [.ref m, .int (nI s)] (rwP G (lzM m q S ++ lzI G (q 5) 64 f))) (va_Qi (S := Unit) (fun (r : Int32) (_ : Unit) => r = f (4 + 5 * s)) (rwB G (fun _ : Unit => (lzM m q (upd S 0 0) ++ lzI G (q 5) 64 f))) (lzA (lzM m q S ++ lzI G (q 5) 64 f))) 0 0 (lzA (lzM m q S ++ lzI G (q 5) 64 f)) := by
  have hB : inR (nI s) 0 (f 2 - 1) = true := inR_ok hN hs (by omega)
  refine rw_start (S := Unit) (cc := cX4_kind) (maxL := 2) (ret := (some .int)) (by decide) rfl (Nat.le_of_ble_eq_true rfl) ?_
  intro pp ee ss mm bl me cd A hx hb hr hlk hml hts hown hP hK hD hAe hS ls hl
  have hA0 : ∀ zz : Nat, lzA (lzM m q S ++ lzI G (q 5) 64 f) zz → A zz := fun zz h9 => by rw [hAe]; exact h9
  rw [← hAe]
  clear hAe
  have hown : ss.vm.findClass RX4 = some mm.cls := hown
  have hw1 := hts (.fieldLink RX4 48 "LampSquaresModel" "thrown" "I") (List.mem_of_getElem? (i := 1) rfl)
  have hw2 := hts (.fieldLink RX4 19 "LampSquaresModel" "door" "[I") (List.mem_of_getElem? (i := 2) rfl)
  have hu_wsX40 : ∀ w ∈ wsX40, w.before ([.ref m, .int (nI s)] : List Value).toArray ss = true := fun w h9 => hts w (List.mem_cons_of_mem _ (List.mem_append_right _ h9))
  have hl : lv_has ls 2 [(0, .ref m), (1, .int (nI s))] := hl
  refine lv_aload_n hx hb dX4_kind_0 rfl (lv_at hl 0 rfl) ?_
  refine lv_iconst (v := 0) hx hb dX4_kind_1 (by decide) ?_
  refine lz_put (G := G) (ci := 4) (C := RX4) (T := TX4) (N := 24) hx hb hu_wsX40 (fun _ h9 => h9) tyX4 tyX4_ok nmX4 hown hK hP hD hS 0 rfl rfl 0 (by decide) hw1 rfl rfl (by decide +kernel) (Nat.le_of_ble_eq_true rfl) dX4_kind_2 (lzM m q (upd S 0 0) ++ lzI G (q 5) 64 f) rfl (fun H locs hP hD hS => ?_)
  refine lv_aload_n hx hb dX4_kind_5 rfl (lv_at hl 0 rfl) ?_
  refine lv_iload_n hx hb dX4_kind_6 rfl (lv_at hl 1 rfl) ?_
  refine ro_calli (va_runV (As := [.int (nI s)]) (rest := []) ⟨hx, hb, hml, hown, hts⟩ (c_X4_isSquare l G m q (upd S 0 0) f (nI s) ) (cwV 1 hts gX4_kind_X4_isSquare rfl rfl rfl (by decide +kernel) ⟨Nat.le_of_ble_eq_true rfl, Nat.le_of_ble_eq_true rfl⟩) (ro_preV hK hP hP (ci := 4) (q0 := 0) rfl rfl) rfl rfl hl.1 rfl (lv_room (Nat.le_of_ble_eq_true rfl)) dX4_kind_7 ⟨Nat.zero_le _, Nat.zero_le _⟩) (fun r_1 hr_1 => ?_)
  refine lv_if_eq (tgt := 25) hx hb dX4_kind_10 (by decide) (fun c_10 => ?_) (fun c_10 => ?_)
  · skip
    have c_10 := b2_z hr_1 c_10
    exact Bool.noConfusion (hB.symm.trans c_10)
  · skip
    have c_10 := b2_n hr_1 c_10
    refine lv_aload_n hx hb dX4_kind_13 rfl (lv_at hl 0 rfl) ?_
    refine lz_get (G := G) (ci := 4) (v := .ref (q 5)) (C := RX4) (T := TX4) (N := 24) hx hb hu_wsX40 (fun _ h9 => h9) hown hK hP 0 rfl rfl 5 (by decide) hw2 rfl rfl dX4_kind_14 ?_
    refine lv_iload_n hx hb dX4_kind_17 rfl (lv_at hl 1 rfl) ?_
    refine lv_iconst (v := 0) hx hb dX4_kind_18 (by decide) ?_
    have hPc := hP.sub (ws' := lzI G (q 5) 64 f) [1] rfl
    refine ro_calli (va_runS (As := [.ref (q 5), .int (nI s), .int 0]) (rest := []) ⟨hx, hb, hml, hown, hts⟩ (c_X4_of l G (q 5) f s 0 (by omega) (by decide)) (cwS 3 hts gX4_kind_X4_of rfl rfl rfl (by decide +kernel) ⟨Nat.le_of_ble_eq_true rfl, Nat.le_of_ble_eq_true rfl⟩) (ro_pre hK hPc) rfl rfl hl.1 rfl (lv_room (Nat.le_of_ble_eq_true rfl)) dX4_kind_19 ⟨Nat.zero_le _, Nat.zero_le _⟩) (fun r_2 hr_2 => ?_)
    refine lz_top (y := f (4 + 5 * s)) hr_2 ?_
    refine lv_goto (tgt := 27) hx hb dX4_kind_22 (by decide) ?_
    exact rw_iret (S := Unit) (G := G) (Wd := fun _ : Unit => (lzM m q (upd S 0 0) ++ lzI G (q 5) 64 f)) () hx hb hr hlk dX4_kind_27 hS (hP) (rfl)
set_option maxHeartbeats 4000000 in
set_option maxRecDepth 100000 in
theorem c_X4_square_bad (l : Launch) (G : lzG) (m : Nat) (q : Nat → Nat) (S : Nat → Int32) (f : Nat → Int32) (a what : Int32) (hbad : inR a 0 (f 2 - 1) = false) : Met l yX4_square wsX4_square ({ frames := 2, cells := 0, slots := 0, locals := 46 }) (va_Pc [.ref m, .int a, .int what] (rwP G (lzM m q S ++ lzI G (q 5) 64 f))) (va_Qi (S := Unit) (fun (r : Int32) (_ : Unit) => r = -1000001) (rwB G (fun _ : Unit => (lzM m q (upd S 0 0) ++ lzI G (q 5) 64 f))) (lzA (lzM m q S ++ lzI G (q 5) 64 f))) 0 0 (lzA (lzM m q S ++ lzI G (q 5) 64 f)) := by
  refine rw_start (S := Unit) (cc := cX4_square) (maxL := 3) (ret := (some .int)) (by decide) rfl (Nat.le_of_ble_eq_true rfl) ?_
  intro pp ee ss mm bl me cd A hx hb hr hlk hml hts hown hP hK hD hAe hS ls hl
  have hA0 : ∀ zz : Nat, lzA (lzM m q S ++ lzI G (q 5) 64 f) zz → A zz := fun zz h9 => by rw [hAe]; exact h9
  rw [← hAe]
  clear hAe
  have hown : ss.vm.findClass RX4 = some mm.cls := hown
  have hw1 := hts (.fieldLink RX4 48 "LampSquaresModel" "thrown" "I") (List.mem_of_getElem? (i := 1) rfl)
  have hw2 := hts (.constant RX4 68 (-1000001)) (List.mem_of_getElem? (i := 2) rfl)
  have hu_wsX40 : ∀ w ∈ wsX40, w.before ([.ref m, .int a, .int what] : List Value).toArray ss = true := fun w h9 => hts w (List.mem_cons_of_mem _ (List.mem_append_right _ h9))
  have hl : lv_has ls 3 [(0, .ref m), (1, .int a), (2, .int what)] := hl
  refine lv_aload_n hx hb dX4_square_0 rfl (lv_at hl 0 rfl) ?_
  refine lv_iconst (v := 0) hx hb dX4_square_1 (by decide) ?_
  refine lz_put (G := G) (ci := 4) (C := RX4) (T := TX4) (N := 24) hx hb hu_wsX40 (fun _ h9 => h9) tyX4 tyX4_ok nmX4 hown hK hP hD hS 0 rfl rfl 0 (by decide) hw1 rfl rfl (by decide +kernel) (Nat.le_of_ble_eq_true rfl) dX4_square_2 (lzM m q (upd S 0 0) ++ lzI G (q 5) 64 f) rfl (fun H locs hP hD hS => ?_)
  refine lv_aload_n hx hb dX4_square_5 rfl (lv_at hl 0 rfl) ?_
  refine lv_iload_n hx hb dX4_square_6 rfl (lv_at hl 1 rfl) ?_
  refine ro_calli (va_runV (As := [.int a]) (rest := []) ⟨hx, hb, hml, hown, hts⟩ (c_X4_isSquare l G m q (upd S 0 0) f a ) (cwV 1 hts gX4_square_X4_isSquare rfl rfl rfl (by decide +kernel) ⟨Nat.le_of_ble_eq_true rfl, Nat.le_of_ble_eq_true rfl⟩) (ro_preV hK hP hP (ci := 4) (q0 := 0) rfl rfl) rfl rfl hl.1 rfl (lv_room (Nat.le_of_ble_eq_true rfl)) dX4_square_7 ⟨Nat.zero_le _, Nat.zero_le _⟩) (fun r_1 hr_1 => ?_)
  refine lv_if_ne (tgt := 16) hx hb dX4_square_10 (by decide) (fun c_10 => ?_) (fun c_10 => ?_)
  · skip
    have c_10 := b2_n hr_1 c_10
    exact Bool.noConfusion (hbad.symm.trans c_10)
  · skip
    have c_10 := b2_z hr_1 c_10
    refine lv_ldc hx hb hown hw2 dX4_square_13 ?_
    exact rw_iret (S := Unit) (G := G) (Wd := fun _ : Unit => (lzM m q (upd S 0 0) ++ lzI G (q 5) 64 f)) () hx hb hr hlk dX4_square_15 hS (hP) (rfl)
set_option maxHeartbeats 4000000 in
set_option maxRecDepth 100000 in
theorem c_X4_square_ok (l : Launch) (G : lzG) (m : Nat) (q : Nat → Nat) (S : Nat → Int32) (f : Nat → Int32) (s N : Nat) (what : Int32) (hN : f 2 = nI N) (hN8 : N ≤ 8) (hs : s < N) : Met l yX4_square wsX4_square ({ frames := 2, cells := 0, slots := 0, locals := 46 }) (va_Pc [.ref m, .int (nI s), .int what] (rwP G (lzM m q S ++ lzI G (q 5) 64 f))) (va_Qi (S := Unit) (fun (r : Int32) (_ : Unit) => r = squM f s what) (rwB G (fun _ : Unit => (lzM m q (upd S 0 0) ++ lzI G (q 5) 64 f))) (lzA (lzM m q S ++ lzI G (q 5) 64 f))) 0 0 (lzA (lzM m q S ++ lzI G (q 5) 64 f)) := by
  have hB : inR (nI s) 0 (f 2 - 1) = true := inR_ok hN hs (by omega)
  refine rw_start (S := Unit) (cc := cX4_square) (maxL := 3) (ret := (some .int)) (by decide) rfl (Nat.le_of_ble_eq_true rfl) ?_
  intro pp ee ss mm bl me cd A hx hb hr hlk hml hts hown hP hK hD hAe hS ls hl
  have hA0 : ∀ zz : Nat, lzA (lzM m q S ++ lzI G (q 5) 64 f) zz → A zz := fun zz h9 => by rw [hAe]; exact h9
  rw [← hAe]
  clear hAe
  have hown : ss.vm.findClass RX4 = some mm.cls := hown
  have hw1 := hts (.fieldLink RX4 48 "LampSquaresModel" "thrown" "I") (List.mem_of_getElem? (i := 1) rfl)
  have hw2 := hts (.constant RX4 68 (-1000001)) (List.mem_of_getElem? (i := 2) rfl)
  have hw3 := hts (.fieldLink RX4 19 "LampSquaresModel" "door" "[I") (List.mem_of_getElem? (i := 3) rfl)
  have hw4 := hts (.constant RX4 91 (-1000000)) (List.mem_of_getElem? (i := 4) rfl)
  have hu_wsX40 : ∀ w ∈ wsX40, w.before ([.ref m, .int (nI s), .int what] : List Value).toArray ss = true := fun w h9 => hts w (List.mem_cons_of_mem _ (List.mem_append_right _ h9))
  have hl : lv_has ls 3 [(0, .ref m), (1, .int (nI s)), (2, .int what)] := hl
  refine lv_aload_n hx hb dX4_square_0 rfl (lv_at hl 0 rfl) ?_
  refine lv_iconst (v := 0) hx hb dX4_square_1 (by decide) ?_
  refine lz_put (G := G) (ci := 4) (C := RX4) (T := TX4) (N := 24) hx hb hu_wsX40 (fun _ h9 => h9) tyX4 tyX4_ok nmX4 hown hK hP hD hS 0 rfl rfl 0 (by decide) hw1 rfl rfl (by decide +kernel) (Nat.le_of_ble_eq_true rfl) dX4_square_2 (lzM m q (upd S 0 0) ++ lzI G (q 5) 64 f) rfl (fun H locs hP hD hS => ?_)
  refine lv_aload_n hx hb dX4_square_5 rfl (lv_at hl 0 rfl) ?_
  refine lv_iload_n hx hb dX4_square_6 rfl (lv_at hl 1 rfl) ?_
  refine ro_calli (va_runV (As := [.int (nI s)]) (rest := []) ⟨hx, hb, hml, hown, hts⟩ (c_X4_isSquare l G m q (upd S 0 0) f (nI s) ) (cwV 1 hts gX4_square_X4_isSquare rfl rfl rfl (by decide +kernel) ⟨Nat.le_of_ble_eq_true rfl, Nat.le_of_ble_eq_true rfl⟩) (ro_preV hK hP hP (ci := 4) (q0 := 0) rfl rfl) rfl rfl hl.1 rfl (lv_room (Nat.le_of_ble_eq_true rfl)) dX4_square_7 ⟨Nat.zero_le _, Nat.zero_le _⟩) (fun r_1 hr_1 => ?_)
  refine lv_if_ne (tgt := 16) hx hb dX4_square_10 (by decide) (fun c_10 => ?_) (fun c_10 => ?_)
  · skip
    have c_10 := b2_n hr_1 c_10
    refine lv_iload_n hx hb dX4_square_16 rfl (lv_at hl 2 rfl) ?_
    by_cases v_17_0 : what = 0
    · refine lv_tableIn (off := 39) (tgt := 56) hx hb dX4_square_17 (by rw [v_17_0]; decide) (by rw [v_17_0]; decide) (by rw [v_17_0]; rfl) (by decide) ?_
      refine lv_aload_n hx hb dX4_square_56 rfl (lv_at hl 0 rfl) ?_
      refine lz_get (G := G) (ci := 4) (v := .ref (q 5)) (C := RX4) (T := TX4) (N := 24) hx hb hu_wsX40 (fun _ h9 => h9) hown hK hP 0 rfl rfl 5 (by decide) hw3 rfl rfl dX4_square_57 ?_
      refine lv_iload_n hx hb dX4_square_60 rfl (lv_at hl 1 rfl) ?_
      refine lv_iconst (v := 1) hx hb dX4_square_61 (by decide) ?_
      have hPc := hP.sub (ws' := lzI G (q 5) 64 f) [1] rfl
      refine ro_calli (va_runS (As := [.ref (q 5), .int (nI s), .int 1]) (rest := []) ⟨hx, hb, hml, hown, hts⟩ (c_X4_of l G (q 5) f s 1 (by omega) (by decide)) (cwS 3 hts gX4_square_X4_of rfl rfl rfl (by decide +kernel) ⟨Nat.le_of_ble_eq_true rfl, Nat.le_of_ble_eq_true rfl⟩) (ro_pre hK hPc) rfl rfl hl.1 rfl (lv_room (Nat.le_of_ble_eq_true rfl)) dX4_square_62 ⟨Nat.zero_le _, Nat.zero_le _⟩) (fun r_2 hr_2 => ?_)
      refine lz_top (y := f (4 + 5 * s + 1)) hr_2 ?_
      exact rw_iret (S := Unit) (G := G) (Wd := fun _ : Unit => (lzM m q (upd S 0 0) ++ lzI G (q 5) 64 f)) () hx hb hr hlk dX4_square_65 hS (hP) (by simp [squM, c_10, v_17_0, b2])
    by_cases v_17_1 : what = 1
    · refine lv_tableIn (off := 49) (tgt := 66) hx hb dX4_square_17 (by rw [v_17_1]; decide) (by rw [v_17_1]; decide) (by rw [v_17_1]; rfl) (by decide) ?_
      refine lv_aload_n hx hb dX4_square_66 rfl (lv_at hl 0 rfl) ?_
      refine lz_get (G := G) (ci := 4) (v := .ref (q 5)) (C := RX4) (T := TX4) (N := 24) hx hb hu_wsX40 (fun _ h9 => h9) hown hK hP 0 rfl rfl 5 (by decide) hw3 rfl rfl dX4_square_67 ?_
      refine lv_iload_n hx hb dX4_square_70 rfl (lv_at hl 1 rfl) ?_
      refine lv_iconst (v := 1) hx hb dX4_square_71 (by decide) ?_
      have hPc := hP.sub (ws' := lzI G (q 5) 64 f) [1] rfl
      refine ro_calli (va_runS (As := [.ref (q 5), .int (nI s), .int 1]) (rest := []) ⟨hx, hb, hml, hown, hts⟩ (c_X4_of l G (q 5) f s 1 (by omega) (by decide)) (cwS 3 hts gX4_square_X4_of rfl rfl rfl (by decide +kernel) ⟨Nat.le_of_ble_eq_true rfl, Nat.le_of_ble_eq_true rfl⟩) (ro_pre hK hPc) rfl rfl hl.1 rfl (lv_room (Nat.le_of_ble_eq_true rfl)) dX4_square_72 ⟨Nat.zero_le _, Nat.zero_le _⟩) (fun r_3 hr_3 => ?_)
      refine lz_top (y := f (4 + 5 * s + 1)) hr_3 ?_
      refine lv_aload_n hx hb dX4_square_75 rfl (lv_at hl 0 rfl) ?_
      refine lz_get (G := G) (ci := 4) (v := .ref (q 5)) (C := RX4) (T := TX4) (N := 24) hx hb hu_wsX40 (fun _ h9 => h9) hown hK hP 0 rfl rfl 5 (by decide) hw3 rfl rfl dX4_square_76 ?_
      refine lv_iconst (v := 0) hx hb dX4_square_79 (by decide) ?_
      refine lz_iald (f := f) hx hb hK hP 1 rfl 0 (by omega) (Nat.le_of_ble_eq_true rfl) dX4_square_80 ?_
      refine lv_icmp_lt (tgt := 88) hx hb dX4_square_81 (by decide) (fun c_81 => ?_) (fun c_81 => ?_)
      · skip
        have c_81' := Int32.not_le.mpr c_81
        refine lv_iconst (v := 0) hx hb dX4_square_88 (by decide) ?_
        exact rw_iret (S := Unit) (G := G) (Wd := fun _ : Unit => (lzM m q (upd S 0 0) ++ lzI G (q 5) 64 f)) () hx hb hr hlk dX4_square_89 hS (hP) (by simp [squM, c_10, v_17_1, c_81, c_81', b2])
      · skip
        have c_81' := Int32.not_lt.mp c_81
        refine lv_iconst (v := 1) hx hb dX4_square_84 (by decide) ?_
        refine lv_goto (tgt := 89) hx hb dX4_square_85 (by decide) ?_
        exact rw_iret (S := Unit) (G := G) (Wd := fun _ : Unit => (lzM m q (upd S 0 0) ++ lzI G (q 5) 64 f)) () hx hb hr hlk dX4_square_89 hS (hP) (by simp [squM, c_10, v_17_1, c_81, c_81', b2])
    by_cases v_17_2 : what = 2
    · refine lv_tableIn (off := 73) (tgt := 90) hx hb dX4_square_17 (by rw [v_17_2]; decide) (by rw [v_17_2]; decide) (by rw [v_17_2]; rfl) (by decide) ?_
      refine lv_aload_n hx hb dX4_square_90 rfl (lv_at hl 0 rfl) ?_
      refine lz_get (G := G) (ci := 4) (v := .ref (q 5)) (C := RX4) (T := TX4) (N := 24) hx hb hu_wsX40 (fun _ h9 => h9) hown hK hP 0 rfl rfl 5 (by decide) hw3 rfl rfl dX4_square_91 ?_
      refine lv_iload_n hx hb dX4_square_94 rfl (lv_at hl 1 rfl) ?_
      have hPc := hP.sub (ws' := lzI G (q 5) 64 f) [1] rfl
      refine ro_calli (va_runS (As := [.ref (q 5), .int (nI s)]) (rest := []) ⟨hx, hb, hml, hown, hts⟩ (c_X4_counts l G (q 5) f s (by omega)) (cwS 2 hts gX4_square_X4_counts rfl rfl rfl (by decide +kernel) ⟨Nat.le_of_ble_eq_true rfl, Nat.le_of_ble_eq_true rfl⟩) (ro_pre hK hPc) rfl rfl hl.1 rfl (lv_room (Nat.le_of_ble_eq_true rfl)) dX4_square_95 ⟨Nat.zero_le _, Nat.zero_le _⟩) (fun r_4 hr_4 => ?_)
      refine lv_if_eq (tgt := 105) hx hb dX4_square_98 (by decide) (fun c_98 => ?_) (fun c_98 => ?_)
      · skip
        have c_98 := b2_z hr_4 c_98
        refine lv_iconst (v := 0) hx hb dX4_square_105 (by decide) ?_
        exact rw_iret (S := Unit) (G := G) (Wd := fun _ : Unit => (lzM m q (upd S 0 0) ++ lzI G (q 5) 64 f)) () hx hb hr hlk dX4_square_106 hS (hP) (by simp [squM, c_10, v_17_2, c_98, b2])
      · skip
        have c_98 := b2_n hr_4 c_98
        refine lv_iconst (v := 1) hx hb dX4_square_101 (by decide) ?_
        refine lv_goto (tgt := 106) hx hb dX4_square_102 (by decide) ?_
        exact rw_iret (S := Unit) (G := G) (Wd := fun _ : Unit => (lzM m q (upd S 0 0) ++ lzI G (q 5) 64 f)) () hx hb hr hlk dX4_square_106 hS (hP) (by simp [squM, c_10, v_17_2, c_98, b2])
    by_cases v_17_3 : what = 3
    · refine lv_tableIn (off := 90) (tgt := 107) hx hb dX4_square_17 (by rw [v_17_3]; decide) (by rw [v_17_3]; decide) (by rw [v_17_3]; rfl) (by decide) ?_
      refine lv_aload_n hx hb dX4_square_107 rfl (lv_at hl 0 rfl) ?_
      refine lz_get (G := G) (ci := 4) (v := .ref (q 5)) (C := RX4) (T := TX4) (N := 24) hx hb hu_wsX40 (fun _ h9 => h9) hown hK hP 0 rfl rfl 5 (by decide) hw3 rfl rfl dX4_square_108 ?_
      refine lv_iload_n hx hb dX4_square_111 rfl (lv_at hl 1 rfl) ?_
      refine lv_iconst (v := 2) hx hb dX4_square_112 (by decide) ?_
      have hPc := hP.sub (ws' := lzI G (q 5) 64 f) [1] rfl
      refine ro_calli (va_runS (As := [.ref (q 5), .int (nI s), .int 2]) (rest := []) ⟨hx, hb, hml, hown, hts⟩ (c_X4_of l G (q 5) f s 2 (by omega) (by decide)) (cwS 3 hts gX4_square_X4_of rfl rfl rfl (by decide +kernel) ⟨Nat.le_of_ble_eq_true rfl, Nat.le_of_ble_eq_true rfl⟩) (ro_pre hK hPc) rfl rfl hl.1 rfl (lv_room (Nat.le_of_ble_eq_true rfl)) dX4_square_113 ⟨Nat.zero_le _, Nat.zero_le _⟩) (fun r_5 hr_5 => ?_)
      refine lz_top (y := f (4 + 5 * s + 2)) hr_5 ?_
      exact rw_iret (S := Unit) (G := G) (Wd := fun _ : Unit => (lzM m q (upd S 0 0) ++ lzI G (q 5) 64 f)) () hx hb hr hlk dX4_square_116 hS (hP) (by simp [squM, c_10, v_17_3, b2])
    by_cases v_17_4 : what = 4
    · refine lv_tableIn (off := 100) (tgt := 117) hx hb dX4_square_17 (by rw [v_17_4]; decide) (by rw [v_17_4]; decide) (by rw [v_17_4]; rfl) (by decide) ?_
      refine lv_aload_n hx hb dX4_square_117 rfl (lv_at hl 0 rfl) ?_
      refine lz_get (G := G) (ci := 4) (v := .ref (q 5)) (C := RX4) (T := TX4) (N := 24) hx hb hu_wsX40 (fun _ h9 => h9) hown hK hP 0 rfl rfl 5 (by decide) hw3 rfl rfl dX4_square_118 ?_
      refine lv_iload_n hx hb dX4_square_121 rfl (lv_at hl 1 rfl) ?_
      refine lv_iconst (v := 3) hx hb dX4_square_122 (by decide) ?_
      have hPc := hP.sub (ws' := lzI G (q 5) 64 f) [1] rfl
      refine ro_calli (va_runS (As := [.ref (q 5), .int (nI s), .int 3]) (rest := []) ⟨hx, hb, hml, hown, hts⟩ (c_X4_of l G (q 5) f s 3 (by omega) (by decide)) (cwS 3 hts gX4_square_X4_of rfl rfl rfl (by decide +kernel) ⟨Nat.le_of_ble_eq_true rfl, Nat.le_of_ble_eq_true rfl⟩) (ro_pre hK hPc) rfl rfl hl.1 rfl (lv_room (Nat.le_of_ble_eq_true rfl)) dX4_square_123 ⟨Nat.zero_le _, Nat.zero_le _⟩) (fun r_6 hr_6 => ?_)
      refine lz_top (y := f (4 + 5 * s + 3)) hr_6 ?_
      exact rw_iret (S := Unit) (G := G) (Wd := fun _ : Unit => (lzM m q (upd S 0 0) ++ lzI G (q 5) 64 f)) () hx hb hr hlk dX4_square_126 hS (hP) (by simp [squM, c_10, v_17_4, b2])
    by_cases v_17_5 : what = 5
    · refine lv_tableIn (off := 110) (tgt := 127) hx hb dX4_square_17 (by rw [v_17_5]; decide) (by rw [v_17_5]; decide) (by rw [v_17_5]; rfl) (by decide) ?_
      refine lv_aload_n hx hb dX4_square_127 rfl (lv_at hl 0 rfl) ?_
      refine lz_get (G := G) (ci := 4) (v := .ref (q 5)) (C := RX4) (T := TX4) (N := 24) hx hb hu_wsX40 (fun _ h9 => h9) hown hK hP 0 rfl rfl 5 (by decide) hw3 rfl rfl dX4_square_128 ?_
      refine lv_iload_n hx hb dX4_square_131 rfl (lv_at hl 1 rfl) ?_
      refine lv_iconst (v := 4) hx hb dX4_square_132 (by decide) ?_
      have hPc := hP.sub (ws' := lzI G (q 5) 64 f) [1] rfl
      refine ro_calli (va_runS (As := [.ref (q 5), .int (nI s), .int 4]) (rest := []) ⟨hx, hb, hml, hown, hts⟩ (c_X4_of l G (q 5) f s 4 (by omega) (by decide)) (cwS 3 hts gX4_square_X4_of rfl rfl rfl (by decide +kernel) ⟨Nat.le_of_ble_eq_true rfl, Nat.le_of_ble_eq_true rfl⟩) (ro_pre hK hPc) rfl rfl hl.1 rfl (lv_room (Nat.le_of_ble_eq_true rfl)) dX4_square_133 ⟨Nat.zero_le _, Nat.zero_le _⟩) (fun r_7 hr_7 => ?_)
      refine lz_top (y := f (4 + 5 * s + 4)) hr_7 ?_
      refine lv_if_ne (tgt := 144) hx hb dX4_square_136 (by decide) (fun c_136 => ?_) (fun c_136 => ?_)
      · skip
        refine lv_aload_n hx hb dX4_square_144 rfl (lv_at hl 0 rfl) ?_
        refine lz_get (G := G) (ci := 4) (v := .ref (q 5)) (C := RX4) (T := TX4) (N := 24) hx hb hu_wsX40 (fun _ h9 => h9) hown hK hP 0 rfl rfl 5 (by decide) hw3 rfl rfl dX4_square_145 ?_
        refine lv_iload_n hx hb dX4_square_148 rfl (lv_at hl 1 rfl) ?_
        refine lv_iconst (v := 4) hx hb dX4_square_149 (by decide) ?_
        have hPc := hP.sub (ws' := lzI G (q 5) 64 f) [1] rfl
        refine ro_calli (va_runS (As := [.ref (q 5), .int (nI s), .int 4]) (rest := []) ⟨hx, hb, hml, hown, hts⟩ (c_X4_of l G (q 5) f s 4 (by omega) (by decide)) (cwS 3 hts gX4_square_X4_of rfl rfl rfl (by decide +kernel) ⟨Nat.le_of_ble_eq_true rfl, Nat.le_of_ble_eq_true rfl⟩) (ro_pre hK hPc) rfl rfl hl.1 rfl (lv_room (Nat.le_of_ble_eq_true rfl)) dX4_square_150 ⟨Nat.zero_le _, Nat.zero_le _⟩) (fun r_8 hr_8 => ?_)
        refine lz_top (y := f (4 + 5 * s + 4)) hr_8 ?_
        refine lv_iconst (v := 1) hx hb dX4_square_153 (by decide) ?_
        refine lv_isub hx hb dX4_square_154 ?_
        exact rw_iret (S := Unit) (G := G) (Wd := fun _ : Unit => (lzM m q (upd S 0 0) ++ lzI G (q 5) 64 f)) () hx hb hr hlk dX4_square_155 hS (hP) (by simp [squM, c_10, v_17_5, c_136, b2])
      · skip
        refine lv_ldc hx hb hown hw4 dX4_square_139 ?_
        refine lv_goto (tgt := 155) hx hb dX4_square_141 (by decide) ?_
        exact rw_iret (S := Unit) (G := G) (Wd := fun _ : Unit => (lzM m q (upd S 0 0) ++ lzI G (q 5) 64 f)) () hx hb hr hlk dX4_square_155 hS (hP) (by simp [squM, c_10, v_17_5, c_136, b2])
    have v_17_0T : ¬ Int32.toInt what = 0 := lv_neT v_17_0 rfl
    have v_17_1T : ¬ Int32.toInt what = 1 := lv_neT v_17_1 rfl
    have v_17_2T : ¬ Int32.toInt what = 2 := lv_neT v_17_2 rfl
    have v_17_3T : ¬ Int32.toInt what = 3 := lv_neT v_17_3 rfl
    have v_17_4T : ¬ Int32.toInt what = 4 := lv_neT v_17_4 rfl
    have v_17_5T : ¬ Int32.toInt what = 5 := lv_neT v_17_5 rfl
    refine lv_tableOut (tgt := 156) hx hb dX4_square_17 (by omega) (by decide) ?_
    refine lv_ldc hx hb hown hw2 dX4_square_156 ?_
    exact rw_iret (S := Unit) (G := G) (Wd := fun _ : Unit => (lzM m q (upd S 0 0) ++ lzI G (q 5) 64 f)) () hx hb hr hlk dX4_square_158 hS (hP) (by simp [squM, c_10, v_17_0, v_17_1, v_17_2, v_17_3, v_17_4, v_17_5, b2])
  · skip
    have c_10 := b2_z hr_1 c_10
    exact Bool.noConfusion (hB.symm.trans c_10)
set_option maxHeartbeats 4000000 in
set_option maxRecDepth 100000 in
theorem c_X4_clicks_bad (l : Launch) (G : lzG) (m : Nat) (q : Nat → Nat) (S : Nat → Int32) (f : Nat → Int32) (a : Int32) (hbad : inR a 0 (f 3 - 1) = false) : Met l yX4_clicks wsX4_clicks ({ frames := 2, cells := 0, slots := 0, locals := 46 }) (va_Pc [.ref m, .int a] (rwP G (lzM m q S ++ lzI G (q 5) 64 f))) (va_Qi (S := Unit) (fun (r : Int32) (_ : Unit) => r = -1000001) (rwB G (fun _ : Unit => (lzM m q (upd S 0 0) ++ lzI G (q 5) 64 f))) (lzA (lzM m q S ++ lzI G (q 5) 64 f))) 0 0 (lzA (lzM m q S ++ lzI G (q 5) 64 f)) := by
  refine rw_start (S := Unit) (cc := cX4_clicks) (maxL := 2) (ret := (some .int)) (by decide) rfl (Nat.le_of_ble_eq_true rfl) ?_
  intro pp ee ss mm bl me cd A hx hb hr hlk hml hts hown hP hK hD hAe hS ls hl
  have hA0 : ∀ zz : Nat, lzA (lzM m q S ++ lzI G (q 5) 64 f) zz → A zz := fun zz h9 => by rw [hAe]; exact h9
  rw [← hAe]
  clear hAe
  have hown : ss.vm.findClass RX4 = some mm.cls := hown
  have hw1 := hts (.fieldLink RX4 48 "LampSquaresModel" "thrown" "I") (List.mem_of_getElem? (i := 1) rfl)
  have hw2 := hts (.constant RX4 68 (-1000001)) (List.mem_of_getElem? (i := 2) rfl)
  have hu_wsX40 : ∀ w ∈ wsX40, w.before ([.ref m, .int a] : List Value).toArray ss = true := fun w h9 => hts w (List.mem_cons_of_mem _ (List.mem_append_right _ h9))
  have hl : lv_has ls 2 [(0, .ref m), (1, .int a)] := hl
  refine lv_aload_n hx hb dX4_clicks_0 rfl (lv_at hl 0 rfl) ?_
  refine lv_iconst (v := 0) hx hb dX4_clicks_1 (by decide) ?_
  refine lz_put (G := G) (ci := 4) (C := RX4) (T := TX4) (N := 24) hx hb hu_wsX40 (fun _ h9 => h9) tyX4 tyX4_ok nmX4 hown hK hP hD hS 0 rfl rfl 0 (by decide) hw1 rfl rfl (by decide +kernel) (Nat.le_of_ble_eq_true rfl) dX4_clicks_2 (lzM m q (upd S 0 0) ++ lzI G (q 5) 64 f) rfl (fun H locs hP hD hS => ?_)
  refine lv_aload_n hx hb dX4_clicks_5 rfl (lv_at hl 0 rfl) ?_
  refine lv_iload_n hx hb dX4_clicks_6 rfl (lv_at hl 1 rfl) ?_
  refine ro_calli (va_runV (As := [.int a]) (rest := []) ⟨hx, hb, hml, hown, hts⟩ (c_X4_isVisitor l G m q (upd S 0 0) f a ) (cwV 1 hts gX4_clicks_X4_isVisitor rfl rfl rfl (by decide +kernel) ⟨Nat.le_of_ble_eq_true rfl, Nat.le_of_ble_eq_true rfl⟩) (ro_preV hK hP hP (ci := 4) (q0 := 0) rfl rfl) rfl rfl hl.1 rfl (lv_room (Nat.le_of_ble_eq_true rfl)) dX4_clicks_7 ⟨Nat.zero_le _, Nat.zero_le _⟩) (fun r_1 hr_1 => ?_)
  refine lv_if_eq (tgt := 21) hx hb dX4_clicks_10 (by decide) (fun c_10 => ?_) (fun c_10 => ?_)
  · skip
    have c_10 := b2_z hr_1 c_10
    refine lv_ldc hx hb hown hw2 dX4_clicks_21 ?_
    exact rw_iret (S := Unit) (G := G) (Wd := fun _ : Unit => (lzM m q (upd S 0 0) ++ lzI G (q 5) 64 f)) () hx hb hr hlk dX4_clicks_23 hS (hP) (rfl)
  · skip
    have c_10 := b2_n hr_1 c_10
    exact Bool.noConfusion (hbad.symm.trans c_10)
set_option maxHeartbeats 4000000 in
set_option maxRecDepth 100000 in
theorem c_X4_clicks_ok (l : Launch) (G : lzG) (m : Nat) (q : Nat → Nat) (S : Nat → Int32) (f : Nat → Int32) (v N M : Nat) (hN : f 2 = nI N) (hN8 : N ≤ 8) (hM : f 3 = nI M) (hM5 : M ≤ 5) (hv : v < M) : Met l yX4_clicks wsX4_clicks ({ frames := 4, cells := 0, slots := 0, locals := 91 }) (va_Pc [.ref m, .int (nI v)] (rwP G (lzM m q S ++ lzI G (q 5) 64 f))) (va_Qi (S := Unit) (fun (r : Int32) (_ : Unit) => r = bitsI (clkR f v) N) (rwB G (fun _ : Unit => (lzM m q (upd S 0 0) ++ lzI G (q 5) 64 f))) (lzA (lzM m q S ++ lzI G (q 5) 64 f))) 0 0 (lzA (lzM m q S ++ lzI G (q 5) 64 f)) := by
  have hA : inR (nI v) 0 (f 3 - 1) = true := inR_ok hM hv (by omega)
  refine rw_start (S := Unit) (cc := cX4_clicks) (maxL := 2) (ret := (some .int)) (by decide) rfl (Nat.le_of_ble_eq_true rfl) ?_
  intro pp ee ss mm bl me cd A hx hb hr hlk hml hts hown hP hK hD hAe hS ls hl
  have hA0 : ∀ zz : Nat, lzA (lzM m q S ++ lzI G (q 5) 64 f) zz → A zz := fun zz h9 => by rw [hAe]; exact h9
  rw [← hAe]
  clear hAe
  have hown : ss.vm.findClass RX4 = some mm.cls := hown
  have hw1 := hts (.fieldLink RX4 48 "LampSquaresModel" "thrown" "I") (List.mem_of_getElem? (i := 1) rfl)
  have hu_wsX40 : ∀ w ∈ wsX40, w.before ([.ref m, .int (nI v)] : List Value).toArray ss = true := fun w h9 => hts w (List.mem_cons_of_mem _ (List.mem_append_right _ h9))
  have hl : lv_has ls 2 [(0, .ref m), (1, .int (nI v))] := hl
  refine lv_aload_n hx hb dX4_clicks_0 rfl (lv_at hl 0 rfl) ?_
  refine lv_iconst (v := 0) hx hb dX4_clicks_1 (by decide) ?_
  refine lz_put (G := G) (ci := 4) (C := RX4) (T := TX4) (N := 24) hx hb hu_wsX40 (fun _ h9 => h9) tyX4 tyX4_ok nmX4 hown hK hP hD hS 0 rfl rfl 0 (by decide) hw1 rfl rfl (by decide +kernel) (Nat.le_of_ble_eq_true rfl) dX4_clicks_2 (lzM m q (upd S 0 0) ++ lzI G (q 5) 64 f) rfl (fun H locs hP hD hS => ?_)
  refine lv_aload_n hx hb dX4_clicks_5 rfl (lv_at hl 0 rfl) ?_
  refine lv_iload_n hx hb dX4_clicks_6 rfl (lv_at hl 1 rfl) ?_
  refine ro_calli (va_runV (As := [.int (nI v)]) (rest := []) ⟨hx, hb, hml, hown, hts⟩ (c_X4_isVisitor l G m q (upd S 0 0) f (nI v) ) (cwV 1 hts gX4_clicks_X4_isVisitor rfl rfl rfl (by decide +kernel) ⟨Nat.le_of_ble_eq_true rfl, Nat.le_of_ble_eq_true rfl⟩) (ro_preV hK hP hP (ci := 4) (q0 := 0) rfl rfl) rfl rfl hl.1 rfl (lv_room (Nat.le_of_ble_eq_true rfl)) dX4_clicks_7 ⟨Nat.zero_le _, Nat.zero_le _⟩) (fun r_1 hr_1 => ?_)
  refine lv_if_eq (tgt := 21) hx hb dX4_clicks_10 (by decide) (fun c_10 => ?_) (fun c_10 => ?_)
  · skip
    have c_10 := b2_z hr_1 c_10
    exact Bool.noConfusion (hA.symm.trans c_10)
  · skip
    have c_10 := b2_n hr_1 c_10
    refine lv_aload_n hx hb dX4_clicks_13 rfl (lv_at hl 0 rfl) ?_
    refine lv_iload_n hx hb dX4_clicks_14 rfl (lv_at hl 1 rfl) ?_
    refine ro_calli (va_runV (As := [.int (nI v)]) (rest := []) ⟨hx, hb, hml, hown, hts⟩ (c_X4_clicksOf l G m q (upd S 0 0) f v N (by omega) (hN) (hN8)) (cwV 1 hts gX4_clicks_X4_clicksOf rfl rfl rfl (by decide +kernel) ⟨Nat.le_of_ble_eq_true rfl, Nat.le_of_ble_eq_true rfl⟩) (ro_preV hK hP hP (ci := 4) (q0 := 0) rfl rfl) rfl rfl hl.1 rfl (lv_room (Nat.le_of_ble_eq_true rfl)) dX4_clicks_15 ⟨Nat.zero_le _, Nat.zero_le _⟩) (fun r_2 hr_2 => ?_)
    refine lz_top (y := bitsI (clkR f v) N) hr_2 ?_
    refine lv_goto (tgt := 23) hx hb dX4_clicks_18 (by decide) ?_
    exact rw_iret (S := Unit) (G := G) (Wd := fun _ : Unit => (lzM m q (upd S 0 0) ++ lzI G (q 5) 64 f)) () hx hb hr hlk dX4_clicks_23 hS (hP) (rfl)
set_option maxHeartbeats 4000000 in
set_option maxRecDepth 100000 in
theorem c_X4_sees_bad (l : Launch) (G : lzG) (m : Nat) (q : Nat → Nat) (S : Nat → Int32) (f : Nat → Int32) (a b : Int32) (hbad : (inR a 0 (f 3 - 1) && inR b 0 (f 2 - 1)) = false) : Met l yX4_sees wsX4_sees ({ frames := 2, cells := 0, slots := 0, locals := 46 }) (va_Pc [.ref m, .int a, .int b] (rwP G (lzM m q S ++ lzI G (q 5) 64 f))) (va_Qi (S := Unit) (fun (r : Int32) (_ : Unit) => r = -1000001) (rwB G (fun _ : Unit => (lzM m q (upd S 0 0) ++ lzI G (q 5) 64 f))) (lzA (lzM m q S ++ lzI G (q 5) 64 f))) 0 0 (lzA (lzM m q S ++ lzI G (q 5) 64 f)) := by
  refine rw_start (S := Unit) (cc := cX4_sees) (maxL := 3) (ret := (some .int)) (by decide) rfl (Nat.le_of_ble_eq_true rfl) ?_
  intro pp ee ss mm bl me cd A hx hb hr hlk hml hts hown hP hK hD hAe hS ls hl
  have hA0 : ∀ zz : Nat, lzA (lzM m q S ++ lzI G (q 5) 64 f) zz → A zz := fun zz h9 => by rw [hAe]; exact h9
  rw [← hAe]
  clear hAe
  have hown : ss.vm.findClass RX4 = some mm.cls := hown
  have hw1 := hts (.fieldLink RX4 48 "LampSquaresModel" "thrown" "I") (List.mem_of_getElem? (i := 1) rfl)
  have hw2 := hts (.constant RX4 68 (-1000001)) (List.mem_of_getElem? (i := 2) rfl)
  have hu_wsX40 : ∀ w ∈ wsX40, w.before ([.ref m, .int a, .int b] : List Value).toArray ss = true := fun w h9 => hts w (List.mem_cons_of_mem _ (List.mem_append_right _ h9))
  have hl : lv_has ls 3 [(0, .ref m), (1, .int a), (2, .int b)] := hl
  refine lv_aload_n hx hb dX4_sees_0 rfl (lv_at hl 0 rfl) ?_
  refine lv_iconst (v := 0) hx hb dX4_sees_1 (by decide) ?_
  refine lz_put (G := G) (ci := 4) (C := RX4) (T := TX4) (N := 24) hx hb hu_wsX40 (fun _ h9 => h9) tyX4 tyX4_ok nmX4 hown hK hP hD hS 0 rfl rfl 0 (by decide) hw1 rfl rfl (by decide +kernel) (Nat.le_of_ble_eq_true rfl) dX4_sees_2 (lzM m q (upd S 0 0) ++ lzI G (q 5) 64 f) rfl (fun H locs hP hD hS => ?_)
  refine lv_aload_n hx hb dX4_sees_5 rfl (lv_at hl 0 rfl) ?_
  refine lv_iload_n hx hb dX4_sees_6 rfl (lv_at hl 1 rfl) ?_
  refine ro_calli (va_runV (As := [.int a]) (rest := []) ⟨hx, hb, hml, hown, hts⟩ (c_X4_isVisitor l G m q (upd S 0 0) f a ) (cwV 1 hts gX4_sees_X4_isVisitor rfl rfl rfl (by decide +kernel) ⟨Nat.le_of_ble_eq_true rfl, Nat.le_of_ble_eq_true rfl⟩) (ro_preV hK hP hP (ci := 4) (q0 := 0) rfl rfl) rfl rfl hl.1 rfl (lv_room (Nat.le_of_ble_eq_true rfl)) dX4_sees_7 ⟨Nat.zero_le _, Nat.zero_le _⟩) (fun r_1 hr_1 => ?_)
  refine lv_if_eq (tgt := 21) hx hb dX4_sees_10 (by decide) (fun c_10 => ?_) (fun c_10 => ?_)
  · skip
    have c_10 := b2_z hr_1 c_10
    refine lv_ldc hx hb hown hw2 dX4_sees_21 ?_
    exact rw_iret (S := Unit) (G := G) (Wd := fun _ : Unit => (lzM m q (upd S 0 0) ++ lzI G (q 5) 64 f)) () hx hb hr hlk dX4_sees_23 hS (hP) (rfl)
  · skip
    have c_10 := b2_n hr_1 c_10
    refine lv_aload_n hx hb dX4_sees_13 rfl (lv_at hl 0 rfl) ?_
    refine lv_iload_n hx hb dX4_sees_14 rfl (lv_at hl 2 rfl) ?_
    refine ro_calli (va_runV (As := [.int b]) (rest := []) ⟨hx, hb, hml, hown, hts⟩ (c_X4_isSquare l G m q (upd S 0 0) f b ) (cwV 1 hts gX4_sees_X4_isSquare rfl rfl rfl (by decide +kernel) ⟨Nat.le_of_ble_eq_true rfl, Nat.le_of_ble_eq_true rfl⟩) (ro_preV hK hP hP (ci := 4) (q0 := 0) rfl rfl) rfl rfl hl.1 rfl (lv_room (Nat.le_of_ble_eq_true rfl)) dX4_sees_15 ⟨Nat.zero_le _, Nat.zero_le _⟩) (fun r_2 hr_2 => ?_)
    refine lv_if_ne (tgt := 24) hx hb dX4_sees_18 (by decide) (fun c_18 => ?_) (fun c_18 => ?_)
    · skip
      have c_18 := b2_n hr_2 c_18
      exact Bool.noConfusion (hbad.symm.trans (by rw [c_10, c_18] <;> rfl))
    · skip
      have c_18 := b2_z hr_2 c_18
      refine lv_ldc hx hb hown hw2 dX4_sees_21 ?_
      exact rw_iret (S := Unit) (G := G) (Wd := fun _ : Unit => (lzM m q (upd S 0 0) ++ lzI G (q 5) 64 f)) () hx hb hr hlk dX4_sees_23 hS (hP) (rfl)
set_option maxHeartbeats 4000000 in
set_option maxRecDepth 100000 in
theorem c_X4_sees_ok (l : Launch) (G : lzG) (m : Nat) (q : Nat → Nat) (S : Nat → Int32) (f : Nat → Int32) (v s N M : Nat) (hN : f 2 = nI N) (hN8 : N ≤ 8) (hM : f 3 = nI M) (hM5 : M ≤ 5) (hv : v < M) (hs : s < N) : Met l yX4_sees wsX4_sees ({ frames := 2, cells := 0, slots := 0, locals := 46 }) (va_Pc [.ref m, .int (nI v), .int (nI s)] (rwP G (lzM m q S ++ lzI G (q 5) 64 f))) (va_Qi (S := Unit) (fun (r : Int32) (_ : Unit) => r = seenM (f (4 + 5 * s)) (f (4 + 5 * s + 1)) (f (44 + 4 * v)) (f (44 + 4 * v + 1))) (rwB G (fun _ : Unit => (lzM m q (upd S 0 0) ++ lzI G (q 5) 64 f))) (lzA (lzM m q S ++ lzI G (q 5) 64 f))) 0 0 (lzA (lzM m q S ++ lzI G (q 5) 64 f)) := by
  have hA : inR (nI v) 0 (f 3 - 1) = true := inR_ok hM hv (by omega)
  have hB : inR (nI s) 0 (f 2 - 1) = true := inR_ok hN hs (by omega)
  refine rw_start (S := Unit) (cc := cX4_sees) (maxL := 3) (ret := (some .int)) (by decide) rfl (Nat.le_of_ble_eq_true rfl) ?_
  intro pp ee ss mm bl me cd A hx hb hr hlk hml hts hown hP hK hD hAe hS ls hl
  have hA0 : ∀ zz : Nat, lzA (lzM m q S ++ lzI G (q 5) 64 f) zz → A zz := fun zz h9 => by rw [hAe]; exact h9
  rw [← hAe]
  clear hAe
  have hown : ss.vm.findClass RX4 = some mm.cls := hown
  have hw1 := hts (.fieldLink RX4 48 "LampSquaresModel" "thrown" "I") (List.mem_of_getElem? (i := 1) rfl)
  have hw3 := hts (.fieldLink RX4 19 "LampSquaresModel" "door" "[I") (List.mem_of_getElem? (i := 3) rfl)
  have hu_wsX40 : ∀ w ∈ wsX40, w.before ([.ref m, .int (nI v), .int (nI s)] : List Value).toArray ss = true := fun w h9 => hts w (List.mem_cons_of_mem _ (List.mem_append_right _ h9))
  have hl : lv_has ls 3 [(0, .ref m), (1, .int (nI v)), (2, .int (nI s))] := hl
  refine lv_aload_n hx hb dX4_sees_0 rfl (lv_at hl 0 rfl) ?_
  refine lv_iconst (v := 0) hx hb dX4_sees_1 (by decide) ?_
  refine lz_put (G := G) (ci := 4) (C := RX4) (T := TX4) (N := 24) hx hb hu_wsX40 (fun _ h9 => h9) tyX4 tyX4_ok nmX4 hown hK hP hD hS 0 rfl rfl 0 (by decide) hw1 rfl rfl (by decide +kernel) (Nat.le_of_ble_eq_true rfl) dX4_sees_2 (lzM m q (upd S 0 0) ++ lzI G (q 5) 64 f) rfl (fun H locs hP hD hS => ?_)
  refine lv_aload_n hx hb dX4_sees_5 rfl (lv_at hl 0 rfl) ?_
  refine lv_iload_n hx hb dX4_sees_6 rfl (lv_at hl 1 rfl) ?_
  refine ro_calli (va_runV (As := [.int (nI v)]) (rest := []) ⟨hx, hb, hml, hown, hts⟩ (c_X4_isVisitor l G m q (upd S 0 0) f (nI v) ) (cwV 1 hts gX4_sees_X4_isVisitor rfl rfl rfl (by decide +kernel) ⟨Nat.le_of_ble_eq_true rfl, Nat.le_of_ble_eq_true rfl⟩) (ro_preV hK hP hP (ci := 4) (q0 := 0) rfl rfl) rfl rfl hl.1 rfl (lv_room (Nat.le_of_ble_eq_true rfl)) dX4_sees_7 ⟨Nat.zero_le _, Nat.zero_le _⟩) (fun r_1 hr_1 => ?_)
  refine lv_if_eq (tgt := 21) hx hb dX4_sees_10 (by decide) (fun c_10 => ?_) (fun c_10 => ?_)
  · skip
    have c_10 := b2_z hr_1 c_10
    exact Bool.noConfusion (hA.symm.trans c_10)
  · skip
    have c_10 := b2_n hr_1 c_10
    refine lv_aload_n hx hb dX4_sees_13 rfl (lv_at hl 0 rfl) ?_
    refine lv_iload_n hx hb dX4_sees_14 rfl (lv_at hl 2 rfl) ?_
    refine ro_calli (va_runV (As := [.int (nI s)]) (rest := []) ⟨hx, hb, hml, hown, hts⟩ (c_X4_isSquare l G m q (upd S 0 0) f (nI s) ) (cwV 1 hts gX4_sees_X4_isSquare rfl rfl rfl (by decide +kernel) ⟨Nat.le_of_ble_eq_true rfl, Nat.le_of_ble_eq_true rfl⟩) (ro_preV hK hP hP (ci := 4) (q0 := 0) rfl rfl) rfl rfl hl.1 rfl (lv_room (Nat.le_of_ble_eq_true rfl)) dX4_sees_15 ⟨Nat.zero_le _, Nat.zero_le _⟩) (fun r_2 hr_2 => ?_)
    refine lv_if_ne (tgt := 24) hx hb dX4_sees_18 (by decide) (fun c_18 => ?_) (fun c_18 => ?_)
    · skip
      have c_18 := b2_n hr_2 c_18
      refine lv_aload_n hx hb dX4_sees_24 rfl (lv_at hl 0 rfl) ?_
      refine lz_get (G := G) (ci := 4) (v := .ref (q 5)) (C := RX4) (T := TX4) (N := 24) hx hb hu_wsX40 (fun _ h9 => h9) hown hK hP 0 rfl rfl 5 (by decide) hw3 rfl rfl dX4_sees_25 ?_
      refine lv_iload_n hx hb dX4_sees_28 rfl (lv_at hl 2 rfl) ?_
      refine lv_iconst (v := 0) hx hb dX4_sees_29 (by decide) ?_
      have hPc := hP.sub (ws' := lzI G (q 5) 64 f) [1] rfl
      refine ro_calli (va_runS (As := [.ref (q 5), .int (nI s), .int 0]) (rest := []) ⟨hx, hb, hml, hown, hts⟩ (c_X4_of l G (q 5) f s 0 (by omega) (by decide)) (cwS 3 hts gX4_sees_X4_of rfl rfl rfl (by decide +kernel) ⟨Nat.le_of_ble_eq_true rfl, Nat.le_of_ble_eq_true rfl⟩) (ro_pre hK hPc) rfl rfl hl.1 rfl (lv_room (Nat.le_of_ble_eq_true rfl)) dX4_sees_30 ⟨Nat.zero_le _, Nat.zero_le _⟩) (fun r_3 hr_3 => ?_)
      refine lz_top (y := f (4 + 5 * s)) hr_3 ?_
      refine lv_aload_n hx hb dX4_sees_33 rfl (lv_at hl 0 rfl) ?_
      refine lz_get (G := G) (ci := 4) (v := .ref (q 5)) (C := RX4) (T := TX4) (N := 24) hx hb hu_wsX40 (fun _ h9 => h9) hown hK hP 0 rfl rfl 5 (by decide) hw3 rfl rfl dX4_sees_34 ?_
      refine lv_iload_n hx hb dX4_sees_37 rfl (lv_at hl 2 rfl) ?_
      refine lv_iconst (v := 1) hx hb dX4_sees_38 (by decide) ?_
      have hPc := hP.sub (ws' := lzI G (q 5) 64 f) [1] rfl
      refine ro_calli (va_runS (As := [.ref (q 5), .int (nI s), .int 1]) (rest := [.int (f (4 + 5 * s))]) ⟨hx, hb, hml, hown, hts⟩ (c_X4_of l G (q 5) f s 1 (by omega) (by decide)) (cwS 3 hts gX4_sees_X4_of rfl rfl rfl (by decide +kernel) ⟨Nat.le_of_ble_eq_true rfl, Nat.le_of_ble_eq_true rfl⟩) (ro_pre hK hPc) rfl rfl hl.1 rfl (lv_room (Nat.le_of_ble_eq_true rfl)) dX4_sees_39 ⟨Nat.zero_le _, Nat.zero_le _⟩) (fun r_4 hr_4 => ?_)
      refine lz_top (y := f (4 + 5 * s + 1)) hr_4 ?_
      refine lv_aload_n hx hb dX4_sees_42 rfl (lv_at hl 0 rfl) ?_
      refine lz_get (G := G) (ci := 4) (v := .ref (q 5)) (C := RX4) (T := TX4) (N := 24) hx hb hu_wsX40 (fun _ h9 => h9) hown hK hP 0 rfl rfl 5 (by decide) hw3 rfl rfl dX4_sees_43 ?_
      refine lv_iload_n hx hb dX4_sees_46 rfl (lv_at hl 1 rfl) ?_
      refine lv_iconst (v := 0) hx hb dX4_sees_47 (by decide) ?_
      have hPc := hP.sub (ws' := lzI G (q 5) 64 f) [1] rfl
      refine ro_calli (va_runS (As := [.ref (q 5), .int (nI v), .int 0]) (rest := [.int (f (4 + 5 * s + 1)), .int (f (4 + 5 * s))]) ⟨hx, hb, hml, hown, hts⟩ (c_X4_guest l G (q 5) f v 0 (by omega) (by decide)) (cwS 3 hts gX4_sees_X4_guest rfl rfl rfl (by decide +kernel) ⟨Nat.le_of_ble_eq_true rfl, Nat.le_of_ble_eq_true rfl⟩) (ro_pre hK hPc) rfl rfl hl.1 rfl (lv_room (Nat.le_of_ble_eq_true rfl)) dX4_sees_48 ⟨Nat.zero_le _, Nat.zero_le _⟩) (fun r_5 hr_5 => ?_)
      refine lz_top (y := f (44 + 4 * v)) hr_5 ?_
      refine lv_aload_n hx hb dX4_sees_51 rfl (lv_at hl 0 rfl) ?_
      refine lz_get (G := G) (ci := 4) (v := .ref (q 5)) (C := RX4) (T := TX4) (N := 24) hx hb hu_wsX40 (fun _ h9 => h9) hown hK hP 0 rfl rfl 5 (by decide) hw3 rfl rfl dX4_sees_52 ?_
      refine lv_iload_n hx hb dX4_sees_55 rfl (lv_at hl 1 rfl) ?_
      refine lv_iconst (v := 1) hx hb dX4_sees_56 (by decide) ?_
      have hPc := hP.sub (ws' := lzI G (q 5) 64 f) [1] rfl
      refine ro_calli (va_runS (As := [.ref (q 5), .int (nI v), .int 1]) (rest := [.int (f (44 + 4 * v)), .int (f (4 + 5 * s + 1)), .int (f (4 + 5 * s))]) ⟨hx, hb, hml, hown, hts⟩ (c_X4_guest l G (q 5) f v 1 (by omega) (by decide)) (cwS 3 hts gX4_sees_X4_guest rfl rfl rfl (by decide +kernel) ⟨Nat.le_of_ble_eq_true rfl, Nat.le_of_ble_eq_true rfl⟩) (ro_pre hK hPc) rfl rfl hl.1 rfl (lv_room (Nat.le_of_ble_eq_true rfl)) dX4_sees_57 ⟨Nat.zero_le _, Nat.zero_le _⟩) (fun r_6 hr_6 => ?_)
      refine lz_top (y := f (44 + 4 * v + 1)) hr_6 ?_
      refine ro_calli (va_runS (As := [.int (f (4 + 5 * s)), .int (f (4 + 5 * s + 1)), .int (f (44 + 4 * v)), .int (f (44 + 4 * v + 1))]) (rest := []) ⟨hx, hb, hml, hown, hts⟩ (c_X4_seesBy l G (f (4 + 5 * s)) (f (4 + 5 * s + 1)) (f (44 + 4 * v)) (f (44 + 4 * v + 1)) ) (cwS 4 hts gX4_sees_X4_seesBy rfl rfl rfl (by decide +kernel) ⟨Nat.le_of_ble_eq_true rfl, Nat.le_of_ble_eq_true rfl⟩) (ro_pre hK (fun k q h => by simp at h)) rfl rfl hl.1 rfl (lv_room (Nat.le_of_ble_eq_true rfl)) dX4_sees_60 ⟨Nat.zero_le _, Nat.zero_le _⟩) (fun r_7 hr_7 => ?_)
      refine lz_top (y := seenM (f (4 + 5 * s)) (f (4 + 5 * s + 1)) (f (44 + 4 * v)) (f (44 + 4 * v + 1))) hr_7 ?_
      exact rw_iret (S := Unit) (G := G) (Wd := fun _ : Unit => (lzM m q (upd S 0 0) ++ lzI G (q 5) 64 f)) () hx hb hr hlk dX4_sees_63 hS (hP) (rfl)
    · skip
      have c_18 := b2_z hr_2 c_18
      exact Bool.noConfusion (hB.symm.trans c_18)
set_option maxHeartbeats 4000000 in
set_option maxRecDepth 100000 in
theorem c_X4_wrong_bad (l : Launch) (G : lzG) (m : Nat) (q : Nat → Nat) (S : Nat → Int32) (f : Nat → Int32) (a set : Int32) (hbad : (inR a 0 (f 3 - 1) && inR set 0 ((1 <<< (f 2 &&& 31)) - 1)) = false) : Met l yX4_wrong wsX4_wrong ({ frames := 2, cells := 0, slots := 0, locals := 46 }) (va_Pc [.ref m, .int a, .int set] (rwP G (lzM m q S ++ lzI G (q 5) 64 f))) (va_Qi (S := Unit) (fun (r : Int32) (_ : Unit) => r = -1000001) (rwB G (fun _ : Unit => (lzM m q (upd S 0 0) ++ lzI G (q 5) 64 f))) (lzA (lzM m q S ++ lzI G (q 5) 64 f))) 0 0 (lzA (lzM m q S ++ lzI G (q 5) 64 f)) := by
  refine rw_start (S := Unit) (cc := cX4_wrong) (maxL := 3) (ret := (some .int)) (by decide) rfl (Nat.le_of_ble_eq_true rfl) ?_
  intro pp ee ss mm bl me cd A hx hb hr hlk hml hts hown hP hK hD hAe hS ls hl
  have hA0 : ∀ zz : Nat, lzA (lzM m q S ++ lzI G (q 5) 64 f) zz → A zz := fun zz h9 => by rw [hAe]; exact h9
  rw [← hAe]
  clear hAe
  have hown : ss.vm.findClass RX4 = some mm.cls := hown
  have hw1 := hts (.fieldLink RX4 48 "LampSquaresModel" "thrown" "I") (List.mem_of_getElem? (i := 1) rfl)
  have hw3 := hts (.constant RX4 68 (-1000001)) (List.mem_of_getElem? (i := 3) rfl)
  have hu_wsX40 : ∀ w ∈ wsX40, w.before ([.ref m, .int a, .int set] : List Value).toArray ss = true := fun w h9 => hts w (List.mem_cons_of_mem _ (List.mem_append_right _ h9))
  have hl : lv_has ls 3 [(0, .ref m), (1, .int a), (2, .int set)] := hl
  refine lv_aload_n hx hb dX4_wrong_0 rfl (lv_at hl 0 rfl) ?_
  refine lv_iconst (v := 0) hx hb dX4_wrong_1 (by decide) ?_
  refine lz_put (G := G) (ci := 4) (C := RX4) (T := TX4) (N := 24) hx hb hu_wsX40 (fun _ h9 => h9) tyX4 tyX4_ok nmX4 hown hK hP hD hS 0 rfl rfl 0 (by decide) hw1 rfl rfl (by decide +kernel) (Nat.le_of_ble_eq_true rfl) dX4_wrong_2 (lzM m q (upd S 0 0) ++ lzI G (q 5) 64 f) rfl (fun H locs hP hD hS => ?_)
  refine lv_aload_n hx hb dX4_wrong_5 rfl (lv_at hl 0 rfl) ?_
  refine lv_iload_n hx hb dX4_wrong_6 rfl (lv_at hl 1 rfl) ?_
  refine ro_calli (va_runV (As := [.int a]) (rest := []) ⟨hx, hb, hml, hown, hts⟩ (c_X4_isVisitor l G m q (upd S 0 0) f a ) (cwV 1 hts gX4_wrong_X4_isVisitor rfl rfl rfl (by decide +kernel) ⟨Nat.le_of_ble_eq_true rfl, Nat.le_of_ble_eq_true rfl⟩) (ro_preV hK hP hP (ci := 4) (q0 := 0) rfl rfl) rfl rfl hl.1 rfl (lv_room (Nat.le_of_ble_eq_true rfl)) dX4_wrong_7 ⟨Nat.zero_le _, Nat.zero_le _⟩) (fun r_1 hr_1 => ?_)
  refine lv_if_eq (tgt := 33) hx hb dX4_wrong_10 (by decide) (fun c_10 => ?_) (fun c_10 => ?_)
  · skip
    have c_10 := b2_z hr_1 c_10
    refine lv_ldc hx hb hown hw3 dX4_wrong_33 ?_
    exact rw_iret (S := Unit) (G := G) (Wd := fun _ : Unit => (lzM m q (upd S 0 0) ++ lzI G (q 5) 64 f)) () hx hb hr hlk dX4_wrong_35 hS (hP) (rfl)
  · skip
    have c_10 := b2_n hr_1 c_10
    refine lv_aload_n hx hb dX4_wrong_13 rfl (lv_at hl 0 rfl) ?_
    refine lv_iload_n hx hb dX4_wrong_14 rfl (lv_at hl 2 rfl) ?_
    refine ro_calli (va_runV (As := [.int set]) (rest := []) ⟨hx, hb, hml, hown, hts⟩ (c_X4_areSquares l G m q (upd S 0 0) f set ) (cwV 1 hts gX4_wrong_X4_areSquares rfl rfl rfl (by decide +kernel) ⟨Nat.le_of_ble_eq_true rfl, Nat.le_of_ble_eq_true rfl⟩) (ro_preV hK hP hP (ci := 4) (q0 := 0) rfl rfl) rfl rfl hl.1 rfl (lv_room (Nat.le_of_ble_eq_true rfl)) dX4_wrong_15 ⟨Nat.zero_le _, Nat.zero_le _⟩) (fun r_2 hr_2 => ?_)
    refine lv_if_eq (tgt := 33) hx hb dX4_wrong_18 (by decide) (fun c_18 => ?_) (fun c_18 => ?_)
    · skip
      have c_18 := b2_z hr_2 c_18
      refine lv_ldc hx hb hown hw3 dX4_wrong_33 ?_
      exact rw_iret (S := Unit) (G := G) (Wd := fun _ : Unit => (lzM m q (upd S 0 0) ++ lzI G (q 5) 64 f)) () hx hb hr hlk dX4_wrong_35 hS (hP) (rfl)
    · skip
      have c_18 := b2_n hr_2 c_18
      exact Bool.noConfusion (hbad.symm.trans (by rw [c_10, c_18] <;> rfl))
set_option maxHeartbeats 4000000 in
set_option maxRecDepth 100000 in
theorem c_X4_wrong_ok (l : Launch) (G : lzG) (m : Nat) (q : Nat → Nat) (S : Nat → Int32) (f : Nat → Int32) (v : Nat) (set : Int32) (N M : Nat) (hN : f 2 = nI N) (hN8 : N ≤ 8) (hM : f 3 = nI M) (hM5 : M ≤ 5) (hv : v < M) (hset : inR set 0 ((1 <<< (f 2 &&& 31)) - 1) = true) : Met l yX4_wrong wsX4_wrong ({ frames := 5, cells := 0, slots := 0, locals := 114 }) (va_Pc [.ref m, .int (nI v), .int set] (rwP G (lzM m q S ++ lzI G (q 5) 64 f))) (va_Qi (S := Unit) (fun (r : Int32) (_ : Unit) => r = wrgN f v set N) (rwB G (fun _ : Unit => (lzM m q (upd S 0 0) ++ lzI G (q 5) 64 f))) (lzA (lzM m q S ++ lzI G (q 5) 64 f))) 0 0 (lzA (lzM m q S ++ lzI G (q 5) 64 f)) := by
  have hA : inR (nI v) 0 (f 3 - 1) = true := inR_ok hM hv (by omega)
  refine rw_start (S := Unit) (cc := cX4_wrong) (maxL := 3) (ret := (some .int)) (by decide) rfl (Nat.le_of_ble_eq_true rfl) ?_
  intro pp ee ss mm bl me cd A hx hb hr hlk hml hts hown hP hK hD hAe hS ls hl
  have hA0 : ∀ zz : Nat, lzA (lzM m q S ++ lzI G (q 5) 64 f) zz → A zz := fun zz h9 => by rw [hAe]; exact h9
  rw [← hAe]
  clear hAe
  have hown : ss.vm.findClass RX4 = some mm.cls := hown
  have hw1 := hts (.fieldLink RX4 48 "LampSquaresModel" "thrown" "I") (List.mem_of_getElem? (i := 1) rfl)
  have hw2 := hts (.fieldLink RX4 19 "LampSquaresModel" "door" "[I") (List.mem_of_getElem? (i := 2) rfl)
  have hu_wsX40 : ∀ w ∈ wsX40, w.before ([.ref m, .int (nI v), .int set] : List Value).toArray ss = true := fun w h9 => hts w (List.mem_cons_of_mem _ (List.mem_append_right _ h9))
  have hl : lv_has ls 3 [(0, .ref m), (1, .int (nI v)), (2, .int set)] := hl
  refine lv_aload_n hx hb dX4_wrong_0 rfl (lv_at hl 0 rfl) ?_
  refine lv_iconst (v := 0) hx hb dX4_wrong_1 (by decide) ?_
  refine lz_put (G := G) (ci := 4) (C := RX4) (T := TX4) (N := 24) hx hb hu_wsX40 (fun _ h9 => h9) tyX4 tyX4_ok nmX4 hown hK hP hD hS 0 rfl rfl 0 (by decide) hw1 rfl rfl (by decide +kernel) (Nat.le_of_ble_eq_true rfl) dX4_wrong_2 (lzM m q (upd S 0 0) ++ lzI G (q 5) 64 f) rfl (fun H locs hP hD hS => ?_)
  refine lv_aload_n hx hb dX4_wrong_5 rfl (lv_at hl 0 rfl) ?_
  refine lv_iload_n hx hb dX4_wrong_6 rfl (lv_at hl 1 rfl) ?_
  refine ro_calli (va_runV (As := [.int (nI v)]) (rest := []) ⟨hx, hb, hml, hown, hts⟩ (c_X4_isVisitor l G m q (upd S 0 0) f (nI v) ) (cwV 1 hts gX4_wrong_X4_isVisitor rfl rfl rfl (by decide +kernel) ⟨Nat.le_of_ble_eq_true rfl, Nat.le_of_ble_eq_true rfl⟩) (ro_preV hK hP hP (ci := 4) (q0 := 0) rfl rfl) rfl rfl hl.1 rfl (lv_room (Nat.le_of_ble_eq_true rfl)) dX4_wrong_7 ⟨Nat.zero_le _, Nat.zero_le _⟩) (fun r_1 hr_1 => ?_)
  refine lv_if_eq (tgt := 33) hx hb dX4_wrong_10 (by decide) (fun c_10 => ?_) (fun c_10 => ?_)
  · skip
    have c_10 := b2_z hr_1 c_10
    exact Bool.noConfusion (hA.symm.trans c_10)
  · skip
    have c_10 := b2_n hr_1 c_10
    refine lv_aload_n hx hb dX4_wrong_13 rfl (lv_at hl 0 rfl) ?_
    refine lv_iload_n hx hb dX4_wrong_14 rfl (lv_at hl 2 rfl) ?_
    refine ro_calli (va_runV (As := [.int set]) (rest := []) ⟨hx, hb, hml, hown, hts⟩ (c_X4_areSquares l G m q (upd S 0 0) f set ) (cwV 1 hts gX4_wrong_X4_areSquares rfl rfl rfl (by decide +kernel) ⟨Nat.le_of_ble_eq_true rfl, Nat.le_of_ble_eq_true rfl⟩) (ro_preV hK hP hP (ci := 4) (q0 := 0) rfl rfl) rfl rfl hl.1 rfl (lv_room (Nat.le_of_ble_eq_true rfl)) dX4_wrong_15 ⟨Nat.zero_le _, Nat.zero_le _⟩) (fun r_2 hr_2 => ?_)
    refine lv_if_eq (tgt := 33) hx hb dX4_wrong_18 (by decide) (fun c_18 => ?_) (fun c_18 => ?_)
    · skip
      have c_18 := b2_z hr_2 c_18
      exact Bool.noConfusion (hset.symm.trans c_18)
    · skip
      have c_18 := b2_n hr_2 c_18
      refine lv_aload_n hx hb dX4_wrong_21 rfl (lv_at hl 0 rfl) ?_
      refine lz_get (G := G) (ci := 4) (v := .ref (q 5)) (C := RX4) (T := TX4) (N := 24) hx hb hu_wsX40 (fun _ h9 => h9) hown hK hP 0 rfl rfl 5 (by decide) hw2 rfl rfl dX4_wrong_22 ?_
      refine lv_iload_n hx hb dX4_wrong_25 rfl (lv_at hl 1 rfl) ?_
      refine lv_iload_n hx hb dX4_wrong_26 rfl (lv_at hl 2 rfl) ?_
      have hPc := hP.sub (ws' := lzI G (q 5) 64 f) [1] rfl
      refine ro_calli (va_runS (As := [.ref (q 5), .int (nI v), .int set]) (rest := []) ⟨hx, hb, hml, hown, hts⟩ (c_X4_wrongOf l G (q 5) f v set N (by omega) (hN) (hN8)) (cwS 3 hts gX4_wrong_X4_wrongOf rfl rfl rfl (by decide +kernel) ⟨Nat.le_of_ble_eq_true rfl, Nat.le_of_ble_eq_true rfl⟩) (ro_pre hK hPc) rfl rfl hl.1 rfl (lv_room (Nat.le_of_ble_eq_true rfl)) dX4_wrong_27 ⟨Nat.zero_le _, Nat.zero_le _⟩) (fun r_3 hr_3 => ?_)
      refine lz_top (y := wrgN f v set N) hr_3 ?_
      refine lv_goto (tgt := 35) hx hb dX4_wrong_30 (by decide) ?_
      exact rw_iret (S := Unit) (G := G) (Wd := fun _ : Unit => (lzM m q (upd S 0 0) ++ lzI G (q 5) 64 f)) () hx hb hr hlk dX4_wrong_35 hS (hP) (rfl)
set_option maxHeartbeats 4000000 in
set_option maxRecDepth 100000 in
theorem c_X4_learned_bad (l : Launch) (G : lzG) (m : Nat) (q : Nat → Nat) (S : Nat → Int32) (f : Nat → Int32) (a : Int32) (hbad : inR a 0 (f 2 - 1) = false) : Met l yX4_learned wsX4_learned ({ frames := 2, cells := 0, slots := 0, locals := 46 }) (va_Pc [.ref m, .int a] (rwP G (lzM m q S ++ lzI G (q 5) 64 f))) (va_Qi (S := Unit) (fun (r : Int32) (_ : Unit) => r = -1000001) (rwB G (fun _ : Unit => (lzM m q (upd S 0 0) ++ lzI G (q 5) 64 f))) (lzA (lzM m q S ++ lzI G (q 5) 64 f))) 0 0 (lzA (lzM m q S ++ lzI G (q 5) 64 f)) := by
  refine rw_start (S := Unit) (cc := cX4_learned) (maxL := 3) (ret := (some .int)) (by decide) rfl (Nat.le_of_ble_eq_true rfl) ?_
  intro pp ee ss mm bl me cd A hx hb hr hlk hml hts hown hP hK hD hAe hS ls hl
  have hA0 : ∀ zz : Nat, lzA (lzM m q S ++ lzI G (q 5) 64 f) zz → A zz := fun zz h9 => by rw [hAe]; exact h9
  rw [← hAe]
  clear hAe
  have hown : ss.vm.findClass RX4 = some mm.cls := hown
  have hw1 := hts (.fieldLink RX4 48 "LampSquaresModel" "thrown" "I") (List.mem_of_getElem? (i := 1) rfl)
  have hw2 := hts (.constant RX4 68 (-1000001)) (List.mem_of_getElem? (i := 2) rfl)
  have hu_wsX40 : ∀ w ∈ wsX40, w.before ([.ref m, .int a] : List Value).toArray ss = true := fun w h9 => hts w (List.mem_cons_of_mem _ (List.mem_append_right _ h9))
  have hl : lv_has ls 3 [(0, .ref m), (1, .int a)] := hl
  refine lv_aload_n hx hb dX4_learned_0 rfl (lv_at hl 0 rfl) ?_
  refine lv_iconst (v := 0) hx hb dX4_learned_1 (by decide) ?_
  refine lz_put (G := G) (ci := 4) (C := RX4) (T := TX4) (N := 24) hx hb hu_wsX40 (fun _ h9 => h9) tyX4 tyX4_ok nmX4 hown hK hP hD hS 0 rfl rfl 0 (by decide) hw1 rfl rfl (by decide +kernel) (Nat.le_of_ble_eq_true rfl) dX4_learned_2 (lzM m q (upd S 0 0) ++ lzI G (q 5) 64 f) rfl (fun H locs hP hD hS => ?_)
  refine lv_aload_n hx hb dX4_learned_5 rfl (lv_at hl 0 rfl) ?_
  refine lv_iload_n hx hb dX4_learned_6 rfl (lv_at hl 1 rfl) ?_
  refine ro_calli (va_runV (As := [.int a]) (rest := []) ⟨hx, hb, hml, hown, hts⟩ (c_X4_isSquare l G m q (upd S 0 0) f a ) (cwV 1 hts gX4_learned_X4_isSquare rfl rfl rfl (by decide +kernel) ⟨Nat.le_of_ble_eq_true rfl, Nat.le_of_ble_eq_true rfl⟩) (ro_preV hK hP hP (ci := 4) (q0 := 0) rfl rfl) rfl rfl hl.1 rfl (lv_room (Nat.le_of_ble_eq_true rfl)) dX4_learned_7 ⟨Nat.zero_le _, Nat.zero_le _⟩) (fun r_1 hr_1 => ?_)
  refine lv_if_ne (tgt := 16) hx hb dX4_learned_10 (by decide) (fun c_10 => ?_) (fun c_10 => ?_)
  · skip
    have c_10 := b2_n hr_1 c_10
    exact Bool.noConfusion (hbad.symm.trans c_10)
  · skip
    have c_10 := b2_z hr_1 c_10
    refine lv_ldc hx hb hown hw2 dX4_learned_13 ?_
    exact rw_iret (S := Unit) (G := G) (Wd := fun _ : Unit => (lzM m q (upd S 0 0) ++ lzI G (q 5) 64 f)) () hx hb hr hlk dX4_learned_15 hS (hP) (rfl)
set_option maxHeartbeats 4000000 in
set_option maxRecDepth 100000 in
theorem c_X4_learned_ok (l : Launch) (G : lzG) (m : Nat) (q : Nat → Nat) (S : Nat → Int32) (f : Nat → Int32) (s N : Nat) (hN : f 2 = nI N) (hN8 : N ≤ 8) (hs : s < N) : Met l yX4_learned wsX4_learned ({ frames := 2, cells := 0, slots := 0, locals := 46 }) (va_Pc [.ref m, .int (nI s)] (rwP G (lzM m q S ++ lzI G (q 5) 64 f))) (va_Qi (S := Unit) (fun (r : Int32) (_ : Unit) => r = lrnM (f (4 + 5 * s + 2) - f (4 + 5 * s + 3))) (rwB G (fun _ : Unit => (lzM m q (upd S 0 0) ++ lzI G (q 5) 64 f))) (lzA (lzM m q S ++ lzI G (q 5) 64 f))) 0 0 (lzA (lzM m q S ++ lzI G (q 5) 64 f)) := by
  have hB : inR (nI s) 0 (f 2 - 1) = true := inR_ok hN hs (by omega)
  refine rw_start (S := Unit) (cc := cX4_learned) (maxL := 3) (ret := (some .int)) (by decide) rfl (Nat.le_of_ble_eq_true rfl) ?_
  intro pp ee ss mm bl me cd A hx hb hr hlk hml hts hown hP hK hD hAe hS ls hl
  have hA0 : ∀ zz : Nat, lzA (lzM m q S ++ lzI G (q 5) 64 f) zz → A zz := fun zz h9 => by rw [hAe]; exact h9
  rw [← hAe]
  clear hAe
  have hown : ss.vm.findClass RX4 = some mm.cls := hown
  have hw1 := hts (.fieldLink RX4 48 "LampSquaresModel" "thrown" "I") (List.mem_of_getElem? (i := 1) rfl)
  have hw3 := hts (.fieldLink RX4 19 "LampSquaresModel" "door" "[I") (List.mem_of_getElem? (i := 3) rfl)
  have hu_wsX40 : ∀ w ∈ wsX40, w.before ([.ref m, .int (nI s)] : List Value).toArray ss = true := fun w h9 => hts w (List.mem_cons_of_mem _ (List.mem_append_right _ h9))
  have hl : lv_has ls 3 [(0, .ref m), (1, .int (nI s))] := hl
  refine lv_aload_n hx hb dX4_learned_0 rfl (lv_at hl 0 rfl) ?_
  refine lv_iconst (v := 0) hx hb dX4_learned_1 (by decide) ?_
  refine lz_put (G := G) (ci := 4) (C := RX4) (T := TX4) (N := 24) hx hb hu_wsX40 (fun _ h9 => h9) tyX4 tyX4_ok nmX4 hown hK hP hD hS 0 rfl rfl 0 (by decide) hw1 rfl rfl (by decide +kernel) (Nat.le_of_ble_eq_true rfl) dX4_learned_2 (lzM m q (upd S 0 0) ++ lzI G (q 5) 64 f) rfl (fun H locs hP hD hS => ?_)
  refine lv_aload_n hx hb dX4_learned_5 rfl (lv_at hl 0 rfl) ?_
  refine lv_iload_n hx hb dX4_learned_6 rfl (lv_at hl 1 rfl) ?_
  refine ro_calli (va_runV (As := [.int (nI s)]) (rest := []) ⟨hx, hb, hml, hown, hts⟩ (c_X4_isSquare l G m q (upd S 0 0) f (nI s) ) (cwV 1 hts gX4_learned_X4_isSquare rfl rfl rfl (by decide +kernel) ⟨Nat.le_of_ble_eq_true rfl, Nat.le_of_ble_eq_true rfl⟩) (ro_preV hK hP hP (ci := 4) (q0 := 0) rfl rfl) rfl rfl hl.1 rfl (lv_room (Nat.le_of_ble_eq_true rfl)) dX4_learned_7 ⟨Nat.zero_le _, Nat.zero_le _⟩) (fun r_1 hr_1 => ?_)
  refine lv_if_ne (tgt := 16) hx hb dX4_learned_10 (by decide) (fun c_10 => ?_) (fun c_10 => ?_)
  · skip
    have c_10 := b2_n hr_1 c_10
    refine lv_aload_n hx hb dX4_learned_16 rfl (lv_at hl 0 rfl) ?_
    refine lz_get (G := G) (ci := 4) (v := .ref (q 5)) (C := RX4) (T := TX4) (N := 24) hx hb hu_wsX40 (fun _ h9 => h9) hown hK hP 0 rfl rfl 5 (by decide) hw3 rfl rfl dX4_learned_17 ?_
    refine lv_iload_n hx hb dX4_learned_20 rfl (lv_at hl 1 rfl) ?_
    refine lv_iconst (v := 2) hx hb dX4_learned_21 (by decide) ?_
    have hPc := hP.sub (ws' := lzI G (q 5) 64 f) [1] rfl
    refine ro_calli (va_runS (As := [.ref (q 5), .int (nI s), .int 2]) (rest := []) ⟨hx, hb, hml, hown, hts⟩ (c_X4_of l G (q 5) f s 2 (by omega) (by decide)) (cwS 3 hts gX4_learned_X4_of rfl rfl rfl (by decide +kernel) ⟨Nat.le_of_ble_eq_true rfl, Nat.le_of_ble_eq_true rfl⟩) (ro_pre hK hPc) rfl rfl hl.1 rfl (lv_room (Nat.le_of_ble_eq_true rfl)) dX4_learned_22 ⟨Nat.zero_le _, Nat.zero_le _⟩) (fun r_2 hr_2 => ?_)
    refine lz_top (y := f (4 + 5 * s + 2)) hr_2 ?_
    refine lv_aload_n hx hb dX4_learned_25 rfl (lv_at hl 0 rfl) ?_
    refine lz_get (G := G) (ci := 4) (v := .ref (q 5)) (C := RX4) (T := TX4) (N := 24) hx hb hu_wsX40 (fun _ h9 => h9) hown hK hP 0 rfl rfl 5 (by decide) hw3 rfl rfl dX4_learned_26 ?_
    refine lv_iload_n hx hb dX4_learned_29 rfl (lv_at hl 1 rfl) ?_
    refine lv_iconst (v := 3) hx hb dX4_learned_30 (by decide) ?_
    have hPc := hP.sub (ws' := lzI G (q 5) 64 f) [1] rfl
    refine ro_calli (va_runS (As := [.ref (q 5), .int (nI s), .int 3]) (rest := [.int (f (4 + 5 * s + 2))]) ⟨hx, hb, hml, hown, hts⟩ (c_X4_of l G (q 5) f s 3 (by omega) (by decide)) (cwS 3 hts gX4_learned_X4_of rfl rfl rfl (by decide +kernel) ⟨Nat.le_of_ble_eq_true rfl, Nat.le_of_ble_eq_true rfl⟩) (ro_pre hK hPc) rfl rfl hl.1 rfl (lv_room (Nat.le_of_ble_eq_true rfl)) dX4_learned_31 ⟨Nat.zero_le _, Nat.zero_le _⟩) (fun r_3 hr_3 => ?_)
    refine lz_top (y := f (4 + 5 * s + 3)) hr_3 ?_
    refine lv_isub hx hb dX4_learned_34 ?_
    refine lv_istore_n (lv' := [(2, .int ((f (4 + 5 * s + 2)) - (f (4 + 5 * s + 3)))), (0, .ref m), (1, .int (nI s))]) hx hb dX4_learned_35 rfl hl (by decide) rfl (fun ls hl => ?_)
    refine lv_iload_n hx hb dX4_learned_36 rfl (lv_at hl 0 rfl) ?_
    refine lv_if_le (tgt := 44) hx hb dX4_learned_37 (by decide) (fun c_37 => ?_) (fun c_37 => ?_)
    · skip
      have c_37' := Int32.not_lt.mpr c_37
      refine lv_iload_n hx hb dX4_learned_44 rfl (lv_at hl 0 rfl) ?_
      refine lv_if_ne (tgt := 52) hx hb dX4_learned_45 (by decide) (fun c_45 => ?_) (fun c_45 => ?_)
      · skip
        refine lv_iconst (v := 0) hx hb dX4_learned_52 (by decide) ?_
        exact rw_iret (S := Unit) (G := G) (Wd := fun _ : Unit => (lzM m q (upd S 0 0) ++ lzI G (q 5) 64 f)) () hx hb hr hlk dX4_learned_53 hS (hP) (by unfold lrnM; first | rw [if_neg c_37] | rw [if_pos c_37, if_pos c_45] | rw [if_pos c_37, if_neg c_45])
      · skip
        refine lv_iconst (v := 1) hx hb dX4_learned_48 (by decide) ?_
        refine lv_goto (tgt := 53) hx hb dX4_learned_49 (by decide) ?_
        exact rw_iret (S := Unit) (G := G) (Wd := fun _ : Unit => (lzM m q (upd S 0 0) ++ lzI G (q 5) 64 f)) () hx hb hr hlk dX4_learned_53 hS (hP) (by unfold lrnM; first | rw [if_neg c_37] | rw [if_pos c_37, if_pos c_45] | rw [if_pos c_37, if_neg c_45])
    · skip
      have c_37' := Int32.not_le.mp c_37
      refine lv_iconst (v := 2) hx hb dX4_learned_40 (by decide) ?_
      refine lv_goto (tgt := 53) hx hb dX4_learned_41 (by decide) ?_
      exact rw_iret (S := Unit) (G := G) (Wd := fun _ : Unit => (lzM m q (upd S 0 0) ++ lzI G (q 5) 64 f)) () hx hb hr hlk dX4_learned_53 hS (hP) (by unfold lrnM; first | rw [if_neg c_37] | rw [if_pos c_37, if_pos c_45] | rw [if_pos c_37, if_neg c_45])
  · skip
    have c_10 := b2_z hr_1 c_10
    exact Bool.noConfusion (hB.symm.trans c_10)
set_option maxHeartbeats 4000000 in
set_option maxRecDepth 100000 in
theorem c_X4_needs_bad (l : Launch) (G : lzG) (m : Nat) (q : Nat → Nat) (S : Nat → Int32) (f : Nat → Int32) (a : Int32) (hbad : inR a 0 (f 2 - 1) = false) : Met l yX4_needs wsX4_needs ({ frames := 2, cells := 0, slots := 0, locals := 46 }) (va_Pc [.ref m, .int a] (rwP G (lzM m q S ++ lzI G (q 5) 64 f))) (va_Qi (S := Unit) (fun (r : Int32) (_ : Unit) => r = -1000001) (rwB G (fun _ : Unit => (lzM m q (upd S 0 0) ++ lzI G (q 5) 64 f))) (lzA (lzM m q S ++ lzI G (q 5) 64 f))) 0 0 (lzA (lzM m q S ++ lzI G (q 5) 64 f)) := by
  refine rw_start (S := Unit) (cc := cX4_needs) (maxL := 3) (ret := (some .int)) (by decide) rfl (Nat.le_of_ble_eq_true rfl) ?_
  intro pp ee ss mm bl me cd A hx hb hr hlk hml hts hown hP hK hD hAe hS ls hl
  have hA0 : ∀ zz : Nat, lzA (lzM m q S ++ lzI G (q 5) 64 f) zz → A zz := fun zz h9 => by rw [hAe]; exact h9
  rw [← hAe]
  clear hAe
  have hown : ss.vm.findClass RX4 = some mm.cls := hown
  have hw1 := hts (.fieldLink RX4 48 "LampSquaresModel" "thrown" "I") (List.mem_of_getElem? (i := 1) rfl)
  have hw2 := hts (.constant RX4 68 (-1000001)) (List.mem_of_getElem? (i := 2) rfl)
  have hu_wsX40 : ∀ w ∈ wsX40, w.before ([.ref m, .int a] : List Value).toArray ss = true := fun w h9 => hts w (List.mem_cons_of_mem _ (List.mem_append_right _ h9))
  have hl : lv_has ls 3 [(0, .ref m), (1, .int a)] := hl
  refine lv_aload_n hx hb dX4_needs_0 rfl (lv_at hl 0 rfl) ?_
  refine lv_iconst (v := 0) hx hb dX4_needs_1 (by decide) ?_
  refine lz_put (G := G) (ci := 4) (C := RX4) (T := TX4) (N := 24) hx hb hu_wsX40 (fun _ h9 => h9) tyX4 tyX4_ok nmX4 hown hK hP hD hS 0 rfl rfl 0 (by decide) hw1 rfl rfl (by decide +kernel) (Nat.le_of_ble_eq_true rfl) dX4_needs_2 (lzM m q (upd S 0 0) ++ lzI G (q 5) 64 f) rfl (fun H locs hP hD hS => ?_)
  refine lv_aload_n hx hb dX4_needs_5 rfl (lv_at hl 0 rfl) ?_
  refine lv_iload_n hx hb dX4_needs_6 rfl (lv_at hl 1 rfl) ?_
  refine ro_calli (va_runV (As := [.int a]) (rest := []) ⟨hx, hb, hml, hown, hts⟩ (c_X4_isSquare l G m q (upd S 0 0) f a ) (cwV 1 hts gX4_needs_X4_isSquare rfl rfl rfl (by decide +kernel) ⟨Nat.le_of_ble_eq_true rfl, Nat.le_of_ble_eq_true rfl⟩) (ro_preV hK hP hP (ci := 4) (q0 := 0) rfl rfl) rfl rfl hl.1 rfl (lv_room (Nat.le_of_ble_eq_true rfl)) dX4_needs_7 ⟨Nat.zero_le _, Nat.zero_le _⟩) (fun r_1 hr_1 => ?_)
  refine lv_if_ne (tgt := 16) hx hb dX4_needs_10 (by decide) (fun c_10 => ?_) (fun c_10 => ?_)
  · skip
    have c_10 := b2_n hr_1 c_10
    exact Bool.noConfusion (hbad.symm.trans c_10)
  · skip
    have c_10 := b2_z hr_1 c_10
    refine lv_ldc hx hb hown hw2 dX4_needs_13 ?_
    exact rw_iret (S := Unit) (G := G) (Wd := fun _ : Unit => (lzM m q (upd S 0 0) ++ lzI G (q 5) 64 f)) () hx hb hr hlk dX4_needs_15 hS (hP) (rfl)
set_option maxHeartbeats 4000000 in
set_option maxRecDepth 100000 in
theorem c_X4_needs_state (l : Launch) (G : lzG) (m : Nat) (q : Nat → Nat) (S : Nat → Int32) (f : Nat → Int32) (s N : Nat) (hN : f 2 = nI N) (hN8 : N ≤ 8) (hs : s < N) (hC : cntM f s = true) : Met l yX4_needs wsX4_needs ({ frames := 2, cells := 0, slots := 0, locals := 46 }) (va_Pc [.ref m, .int (nI s)] (rwP G (lzM m q S ++ lzI G (q 5) 64 f))) (va_Qi (S := Unit) (fun (r : Int32) (_ : Unit) => r = -1000002) (rwB G (fun _ : Unit => (lzM m q (upd S 0 0) ++ lzI G (q 5) 64 f))) (lzA (lzM m q S ++ lzI G (q 5) 64 f))) 0 0 (lzA (lzM m q S ++ lzI G (q 5) 64 f)) := by
  have hB : inR (nI s) 0 (f 2 - 1) = true := inR_ok hN hs (by omega)
  refine rw_start (S := Unit) (cc := cX4_needs) (maxL := 3) (ret := (some .int)) (by decide) rfl (Nat.le_of_ble_eq_true rfl) ?_
  intro pp ee ss mm bl me cd A hx hb hr hlk hml hts hown hP hK hD hAe hS ls hl
  have hA0 : ∀ zz : Nat, lzA (lzM m q S ++ lzI G (q 5) 64 f) zz → A zz := fun zz h9 => by rw [hAe]; exact h9
  rw [← hAe]
  clear hAe
  have hown : ss.vm.findClass RX4 = some mm.cls := hown
  have hw1 := hts (.fieldLink RX4 48 "LampSquaresModel" "thrown" "I") (List.mem_of_getElem? (i := 1) rfl)
  have hw3 := hts (.fieldLink RX4 19 "LampSquaresModel" "door" "[I") (List.mem_of_getElem? (i := 3) rfl)
  have hw4 := hts (.constant RX4 204 (-1000002)) (List.mem_of_getElem? (i := 4) rfl)
  have hu_wsX40 : ∀ w ∈ wsX40, w.before ([.ref m, .int (nI s)] : List Value).toArray ss = true := fun w h9 => hts w (List.mem_cons_of_mem _ (List.mem_append_right _ h9))
  have hl : lv_has ls 3 [(0, .ref m), (1, .int (nI s))] := hl
  refine lv_aload_n hx hb dX4_needs_0 rfl (lv_at hl 0 rfl) ?_
  refine lv_iconst (v := 0) hx hb dX4_needs_1 (by decide) ?_
  refine lz_put (G := G) (ci := 4) (C := RX4) (T := TX4) (N := 24) hx hb hu_wsX40 (fun _ h9 => h9) tyX4 tyX4_ok nmX4 hown hK hP hD hS 0 rfl rfl 0 (by decide) hw1 rfl rfl (by decide +kernel) (Nat.le_of_ble_eq_true rfl) dX4_needs_2 (lzM m q (upd S 0 0) ++ lzI G (q 5) 64 f) rfl (fun H locs hP hD hS => ?_)
  refine lv_aload_n hx hb dX4_needs_5 rfl (lv_at hl 0 rfl) ?_
  refine lv_iload_n hx hb dX4_needs_6 rfl (lv_at hl 1 rfl) ?_
  refine ro_calli (va_runV (As := [.int (nI s)]) (rest := []) ⟨hx, hb, hml, hown, hts⟩ (c_X4_isSquare l G m q (upd S 0 0) f (nI s) ) (cwV 1 hts gX4_needs_X4_isSquare rfl rfl rfl (by decide +kernel) ⟨Nat.le_of_ble_eq_true rfl, Nat.le_of_ble_eq_true rfl⟩) (ro_preV hK hP hP (ci := 4) (q0 := 0) rfl rfl) rfl rfl hl.1 rfl (lv_room (Nat.le_of_ble_eq_true rfl)) dX4_needs_7 ⟨Nat.zero_le _, Nat.zero_le _⟩) (fun r_1 hr_1 => ?_)
  refine lv_if_ne (tgt := 16) hx hb dX4_needs_10 (by decide) (fun c_10 => ?_) (fun c_10 => ?_)
  · skip
    have c_10 := b2_n hr_1 c_10
    refine lv_aload_n hx hb dX4_needs_16 rfl (lv_at hl 0 rfl) ?_
    refine lz_get (G := G) (ci := 4) (v := .ref (q 5)) (C := RX4) (T := TX4) (N := 24) hx hb hu_wsX40 (fun _ h9 => h9) hown hK hP 0 rfl rfl 5 (by decide) hw3 rfl rfl dX4_needs_17 ?_
    refine lv_iload_n hx hb dX4_needs_20 rfl (lv_at hl 1 rfl) ?_
    have hPc := hP.sub (ws' := lzI G (q 5) 64 f) [1] rfl
    refine ro_calli (va_runS (As := [.ref (q 5), .int (nI s)]) (rest := []) ⟨hx, hb, hml, hown, hts⟩ (c_X4_counts l G (q 5) f s (by omega)) (cwS 2 hts gX4_needs_X4_counts rfl rfl rfl (by decide +kernel) ⟨Nat.le_of_ble_eq_true rfl, Nat.le_of_ble_eq_true rfl⟩) (ro_pre hK hPc) rfl rfl hl.1 rfl (lv_room (Nat.le_of_ble_eq_true rfl)) dX4_needs_21 ⟨Nat.zero_le _, Nat.zero_le _⟩) (fun r_2 hr_2 => ?_)
    refine lv_if_eq (tgt := 30) hx hb dX4_needs_24 (by decide) (fun c_24 => ?_) (fun c_24 => ?_)
    · skip
      have c_24 := b2_z hr_2 c_24
      exact Bool.noConfusion (hC.symm.trans c_24)
    · skip
      have c_24 := b2_n hr_2 c_24
      refine lv_ldc hx hb hown hw4 dX4_needs_27 ?_
      exact rw_iret (S := Unit) (G := G) (Wd := fun _ : Unit => (lzM m q (upd S 0 0) ++ lzI G (q 5) 64 f)) () hx hb hr hlk dX4_needs_29 hS (hP) (rfl)
  · skip
    have c_10 := b2_z hr_1 c_10
    exact Bool.noConfusion (hB.symm.trans c_10)
set_option maxHeartbeats 4000000 in
set_option maxRecDepth 100000 in
theorem c_X4_needs_ok (l : Launch) (G : lzG) (m : Nat) (q : Nat → Nat) (S : Nat → Int32) (f : Nat → Int32) (s N : Nat) (hN : f 2 = nI N) (hN8 : N ≤ 8) (hs : s < N) (hC : cntM f s = false) : Met l yX4_needs wsX4_needs ({ frames := 2, cells := 0, slots := 0, locals := 46 }) (va_Pc [.ref m, .int (nI s)] (rwP G (lzM m q S ++ lzI G (q 5) 64 f))) (va_Qi (S := Unit) (fun (r : Int32) (_ : Unit) => r = if 0 < f (4 + 5 * s + 2) - f (4 + 5 * s + 3) then f (4 + 5 * s + 2) - f (4 + 5 * s + 3) else 1 - (f (4 + 5 * s + 2) - f (4 + 5 * s + 3))) (rwB G (fun _ : Unit => (lzM m q (upd S 0 0) ++ lzI G (q 5) 64 f))) (lzA (lzM m q S ++ lzI G (q 5) 64 f))) 0 0 (lzA (lzM m q S ++ lzI G (q 5) 64 f)) := by
  have hB : inR (nI s) 0 (f 2 - 1) = true := inR_ok hN hs (by omega)
  refine rw_start (S := Unit) (cc := cX4_needs) (maxL := 3) (ret := (some .int)) (by decide) rfl (Nat.le_of_ble_eq_true rfl) ?_
  intro pp ee ss mm bl me cd A hx hb hr hlk hml hts hown hP hK hD hAe hS ls hl
  have hA0 : ∀ zz : Nat, lzA (lzM m q S ++ lzI G (q 5) 64 f) zz → A zz := fun zz h9 => by rw [hAe]; exact h9
  rw [← hAe]
  clear hAe
  have hown : ss.vm.findClass RX4 = some mm.cls := hown
  have hw1 := hts (.fieldLink RX4 48 "LampSquaresModel" "thrown" "I") (List.mem_of_getElem? (i := 1) rfl)
  have hw3 := hts (.fieldLink RX4 19 "LampSquaresModel" "door" "[I") (List.mem_of_getElem? (i := 3) rfl)
  have hu_wsX40 : ∀ w ∈ wsX40, w.before ([.ref m, .int (nI s)] : List Value).toArray ss = true := fun w h9 => hts w (List.mem_cons_of_mem _ (List.mem_append_right _ h9))
  have hl : lv_has ls 3 [(0, .ref m), (1, .int (nI s))] := hl
  refine lv_aload_n hx hb dX4_needs_0 rfl (lv_at hl 0 rfl) ?_
  refine lv_iconst (v := 0) hx hb dX4_needs_1 (by decide) ?_
  refine lz_put (G := G) (ci := 4) (C := RX4) (T := TX4) (N := 24) hx hb hu_wsX40 (fun _ h9 => h9) tyX4 tyX4_ok nmX4 hown hK hP hD hS 0 rfl rfl 0 (by decide) hw1 rfl rfl (by decide +kernel) (Nat.le_of_ble_eq_true rfl) dX4_needs_2 (lzM m q (upd S 0 0) ++ lzI G (q 5) 64 f) rfl (fun H locs hP hD hS => ?_)
  refine lv_aload_n hx hb dX4_needs_5 rfl (lv_at hl 0 rfl) ?_
  refine lv_iload_n hx hb dX4_needs_6 rfl (lv_at hl 1 rfl) ?_
  refine ro_calli (va_runV (As := [.int (nI s)]) (rest := []) ⟨hx, hb, hml, hown, hts⟩ (c_X4_isSquare l G m q (upd S 0 0) f (nI s) ) (cwV 1 hts gX4_needs_X4_isSquare rfl rfl rfl (by decide +kernel) ⟨Nat.le_of_ble_eq_true rfl, Nat.le_of_ble_eq_true rfl⟩) (ro_preV hK hP hP (ci := 4) (q0 := 0) rfl rfl) rfl rfl hl.1 rfl (lv_room (Nat.le_of_ble_eq_true rfl)) dX4_needs_7 ⟨Nat.zero_le _, Nat.zero_le _⟩) (fun r_1 hr_1 => ?_)
  refine lv_if_ne (tgt := 16) hx hb dX4_needs_10 (by decide) (fun c_10 => ?_) (fun c_10 => ?_)
  · skip
    have c_10 := b2_n hr_1 c_10
    refine lv_aload_n hx hb dX4_needs_16 rfl (lv_at hl 0 rfl) ?_
    refine lz_get (G := G) (ci := 4) (v := .ref (q 5)) (C := RX4) (T := TX4) (N := 24) hx hb hu_wsX40 (fun _ h9 => h9) hown hK hP 0 rfl rfl 5 (by decide) hw3 rfl rfl dX4_needs_17 ?_
    refine lv_iload_n hx hb dX4_needs_20 rfl (lv_at hl 1 rfl) ?_
    have hPc := hP.sub (ws' := lzI G (q 5) 64 f) [1] rfl
    refine ro_calli (va_runS (As := [.ref (q 5), .int (nI s)]) (rest := []) ⟨hx, hb, hml, hown, hts⟩ (c_X4_counts l G (q 5) f s (by omega)) (cwS 2 hts gX4_needs_X4_counts rfl rfl rfl (by decide +kernel) ⟨Nat.le_of_ble_eq_true rfl, Nat.le_of_ble_eq_true rfl⟩) (ro_pre hK hPc) rfl rfl hl.1 rfl (lv_room (Nat.le_of_ble_eq_true rfl)) dX4_needs_21 ⟨Nat.zero_le _, Nat.zero_le _⟩) (fun r_2 hr_2 => ?_)
    refine lv_if_eq (tgt := 30) hx hb dX4_needs_24 (by decide) (fun c_24 => ?_) (fun c_24 => ?_)
    · skip
      have c_24 := b2_z hr_2 c_24
      refine lv_aload_n hx hb dX4_needs_30 rfl (lv_at hl 0 rfl) ?_
      refine lz_get (G := G) (ci := 4) (v := .ref (q 5)) (C := RX4) (T := TX4) (N := 24) hx hb hu_wsX40 (fun _ h9 => h9) hown hK hP 0 rfl rfl 5 (by decide) hw3 rfl rfl dX4_needs_31 ?_
      refine lv_iload_n hx hb dX4_needs_34 rfl (lv_at hl 1 rfl) ?_
      refine lv_iconst (v := 2) hx hb dX4_needs_35 (by decide) ?_
      have hPc := hP.sub (ws' := lzI G (q 5) 64 f) [1] rfl
      refine ro_calli (va_runS (As := [.ref (q 5), .int (nI s), .int 2]) (rest := []) ⟨hx, hb, hml, hown, hts⟩ (c_X4_of l G (q 5) f s 2 (by omega) (by decide)) (cwS 3 hts gX4_needs_X4_of rfl rfl rfl (by decide +kernel) ⟨Nat.le_of_ble_eq_true rfl, Nat.le_of_ble_eq_true rfl⟩) (ro_pre hK hPc) rfl rfl hl.1 rfl (lv_room (Nat.le_of_ble_eq_true rfl)) dX4_needs_36 ⟨Nat.zero_le _, Nat.zero_le _⟩) (fun r_3 hr_3 => ?_)
      refine lz_top (y := f (4 + 5 * s + 2)) hr_3 ?_
      refine lv_aload_n hx hb dX4_needs_39 rfl (lv_at hl 0 rfl) ?_
      refine lz_get (G := G) (ci := 4) (v := .ref (q 5)) (C := RX4) (T := TX4) (N := 24) hx hb hu_wsX40 (fun _ h9 => h9) hown hK hP 0 rfl rfl 5 (by decide) hw3 rfl rfl dX4_needs_40 ?_
      refine lv_iload_n hx hb dX4_needs_43 rfl (lv_at hl 1 rfl) ?_
      refine lv_iconst (v := 3) hx hb dX4_needs_44 (by decide) ?_
      have hPc := hP.sub (ws' := lzI G (q 5) 64 f) [1] rfl
      refine ro_calli (va_runS (As := [.ref (q 5), .int (nI s), .int 3]) (rest := [.int (f (4 + 5 * s + 2))]) ⟨hx, hb, hml, hown, hts⟩ (c_X4_of l G (q 5) f s 3 (by omega) (by decide)) (cwS 3 hts gX4_needs_X4_of rfl rfl rfl (by decide +kernel) ⟨Nat.le_of_ble_eq_true rfl, Nat.le_of_ble_eq_true rfl⟩) (ro_pre hK hPc) rfl rfl hl.1 rfl (lv_room (Nat.le_of_ble_eq_true rfl)) dX4_needs_45 ⟨Nat.zero_le _, Nat.zero_le _⟩) (fun r_4 hr_4 => ?_)
      refine lz_top (y := f (4 + 5 * s + 3)) hr_4 ?_
      refine lv_isub hx hb dX4_needs_48 ?_
      refine lv_istore_n (lv' := [(2, .int ((f (4 + 5 * s + 2)) - (f (4 + 5 * s + 3)))), (0, .ref m), (1, .int (nI s))]) hx hb dX4_needs_49 rfl hl (by decide) rfl (fun ls hl => ?_)
      refine lv_iload_n hx hb dX4_needs_50 rfl (lv_at hl 0 rfl) ?_
      refine lv_if_le (tgt := 58) hx hb dX4_needs_51 (by decide) (fun c_51 => ?_) (fun c_51 => ?_)
      · skip
        have c_51' := Int32.not_lt.mpr c_51
        refine lv_iconst (v := 1) hx hb dX4_needs_58 (by decide) ?_
        refine lv_iload_n hx hb dX4_needs_59 rfl (lv_at hl 0 rfl) ?_
        refine lv_isub hx hb dX4_needs_60 ?_
        exact rw_iret (S := Unit) (G := G) (Wd := fun _ : Unit => (lzM m q (upd S 0 0) ++ lzI G (q 5) 64 f)) () hx hb hr hlk dX4_needs_61 hS (hP) (by first | rw [if_pos c_51'] | rw [if_neg (Int32.not_lt.mpr c_51)])
      · skip
        have c_51' := Int32.not_le.mp c_51
        refine lv_iload_n hx hb dX4_needs_54 rfl (lv_at hl 0 rfl) ?_
        refine lv_goto (tgt := 61) hx hb dX4_needs_55 (by decide) ?_
        exact rw_iret (S := Unit) (G := G) (Wd := fun _ : Unit => (lzM m q (upd S 0 0) ++ lzI G (q 5) 64 f)) () hx hb hr hlk dX4_needs_61 hS (hP) (by first | rw [if_pos c_51'] | rw [if_neg (Int32.not_lt.mpr c_51)])
    · skip
      have c_24 := b2_n hr_2 c_24
      exact Bool.noConfusion (hC.symm.trans c_24)
  · skip
    have c_10 := b2_z hr_1 c_10
    exact Bool.noConfusion (hB.symm.trans c_10)
set_option maxHeartbeats 4000000 in
set_option maxRecDepth 100000 in
theorem c_X4_guests_state (l : Launch) (G : lzG) (m : Nat) (q : Nat → Nat) (S : Nat → Int32) (f : Nat → Int32) (set : Int32) (hR : (decide (0 < f 0)) = false) : Met l yX4_guests wsX4_guests ({ frames := 1, cells := 0, slots := 0, locals := 20 }) (va_Pc [.ref m, .int set] (rwP G (lzM m q S ++ lzI G (q 5) 64 f))) (va_Qi (S := Unit) (fun (r : Int32) (_ : Unit) => r = -1000002) (rwB G (fun _ : Unit => (lzM m q (upd S 0 0) ++ lzI G (q 5) 64 f))) (lzA (lzM m q S ++ lzI G (q 5) 64 f))) 0 0 (lzA (lzM m q S ++ lzI G (q 5) 64 f)) := by
  refine rw_start (S := Unit) (cc := cX4_guests) (maxL := 2) (ret := (some .int)) (by decide) rfl (Nat.le_of_ble_eq_true rfl) ?_
  intro pp ee ss mm bl me cd A hx hb hr hlk hml hts hown hP hK hD hAe hS ls hl
  have hA0 : ∀ zz : Nat, lzA (lzM m q S ++ lzI G (q 5) 64 f) zz → A zz := fun zz h9 => by rw [hAe]; exact h9
  rw [← hAe]
  clear hAe
  have hown : ss.vm.findClass RX4 = some mm.cls := hown
  have hw1 := hts (.fieldLink RX4 48 "LampSquaresModel" "thrown" "I") (List.mem_of_getElem? (i := 1) rfl)
  have hw2 := hts (.constant RX4 204 (-1000002)) (List.mem_of_getElem? (i := 2) rfl)
  have hu_wsX40 : ∀ w ∈ wsX40, w.before ([.ref m, .int set] : List Value).toArray ss = true := fun w h9 => hts w (List.mem_cons_of_mem _ (List.mem_append_right _ h9))
  have hl : lv_has ls 2 [(0, .ref m), (1, .int set)] := hl
  refine lv_aload_n hx hb dX4_guests_0 rfl (lv_at hl 0 rfl) ?_
  refine lv_iconst (v := 0) hx hb dX4_guests_1 (by decide) ?_
  refine lz_put (G := G) (ci := 4) (C := RX4) (T := TX4) (N := 24) hx hb hu_wsX40 (fun _ h9 => h9) tyX4 tyX4_ok nmX4 hown hK hP hD hS 0 rfl rfl 0 (by decide) hw1 rfl rfl (by decide +kernel) (Nat.le_of_ble_eq_true rfl) dX4_guests_2 (lzM m q (upd S 0 0) ++ lzI G (q 5) 64 f) rfl (fun H locs hP hD hS => ?_)
  refine lv_aload_n hx hb dX4_guests_5 rfl (lv_at hl 0 rfl) ?_
  refine ro_calli (va_runV (As := []) (rest := []) ⟨hx, hb, hml, hown, hts⟩ (c_X4_isThere l G m q (upd S 0 0) f ) (cwV 0 hts gX4_guests_X4_isThere rfl rfl rfl (by decide +kernel) ⟨Nat.le_of_ble_eq_true rfl, Nat.le_of_ble_eq_true rfl⟩) (ro_preV hK hP hP (ci := 4) (q0 := 0) rfl rfl) rfl rfl hl.1 rfl (lv_room (Nat.le_of_ble_eq_true rfl)) dX4_guests_6 ⟨Nat.zero_le _, Nat.zero_le _⟩) (fun r_1 hr_1 => ?_)
  refine lv_if_ne (tgt := 15) hx hb dX4_guests_9 (by decide) (fun c_9 => ?_) (fun c_9 => ?_)
  · skip
    have c_9 := b2_n hr_1 c_9
    exact Bool.noConfusion (hR.symm.trans c_9)
  · skip
    have c_9 := b2_z hr_1 c_9
    refine lv_ldc hx hb hown hw2 dX4_guests_12 ?_
    exact rw_iret (S := Unit) (G := G) (Wd := fun _ : Unit => (lzM m q (upd S 0 0) ++ lzI G (q 5) 64 f)) () hx hb hr hlk dX4_guests_14 hS (hP) (rfl)
set_option maxHeartbeats 4000000 in
set_option maxRecDepth 100000 in
theorem c_X4_guests_bad (l : Launch) (G : lzG) (m : Nat) (q : Nat → Nat) (S : Nat → Int32) (f : Nat → Int32) (set : Int32) (hR : (decide (0 < f 0)) = true) (hset : inR set 0 ((1 <<< (f 2 &&& 31)) - 1) = false) : Met l yX4_guests wsX4_guests ({ frames := 2, cells := 0, slots := 0, locals := 46 }) (va_Pc [.ref m, .int set] (rwP G (lzM m q S ++ lzI G (q 5) 64 f))) (va_Qi (S := Unit) (fun (r : Int32) (_ : Unit) => r = -1000001) (rwB G (fun _ : Unit => (lzM m q (upd S 0 0) ++ lzI G (q 5) 64 f))) (lzA (lzM m q S ++ lzI G (q 5) 64 f))) 0 0 (lzA (lzM m q S ++ lzI G (q 5) 64 f)) := by
  refine rw_start (S := Unit) (cc := cX4_guests) (maxL := 2) (ret := (some .int)) (by decide) rfl (Nat.le_of_ble_eq_true rfl) ?_
  intro pp ee ss mm bl me cd A hx hb hr hlk hml hts hown hP hK hD hAe hS ls hl
  have hA0 : ∀ zz : Nat, lzA (lzM m q S ++ lzI G (q 5) 64 f) zz → A zz := fun zz h9 => by rw [hAe]; exact h9
  rw [← hAe]
  clear hAe
  have hown : ss.vm.findClass RX4 = some mm.cls := hown
  have hw1 := hts (.fieldLink RX4 48 "LampSquaresModel" "thrown" "I") (List.mem_of_getElem? (i := 1) rfl)
  have hw3 := hts (.constant RX4 68 (-1000001)) (List.mem_of_getElem? (i := 3) rfl)
  have hu_wsX40 : ∀ w ∈ wsX40, w.before ([.ref m, .int set] : List Value).toArray ss = true := fun w h9 => hts w (List.mem_cons_of_mem _ (List.mem_append_right _ h9))
  have hl : lv_has ls 2 [(0, .ref m), (1, .int set)] := hl
  refine lv_aload_n hx hb dX4_guests_0 rfl (lv_at hl 0 rfl) ?_
  refine lv_iconst (v := 0) hx hb dX4_guests_1 (by decide) ?_
  refine lz_put (G := G) (ci := 4) (C := RX4) (T := TX4) (N := 24) hx hb hu_wsX40 (fun _ h9 => h9) tyX4 tyX4_ok nmX4 hown hK hP hD hS 0 rfl rfl 0 (by decide) hw1 rfl rfl (by decide +kernel) (Nat.le_of_ble_eq_true rfl) dX4_guests_2 (lzM m q (upd S 0 0) ++ lzI G (q 5) 64 f) rfl (fun H locs hP hD hS => ?_)
  refine lv_aload_n hx hb dX4_guests_5 rfl (lv_at hl 0 rfl) ?_
  refine ro_calli (va_runV (As := []) (rest := []) ⟨hx, hb, hml, hown, hts⟩ (c_X4_isThere l G m q (upd S 0 0) f ) (cwV 0 hts gX4_guests_X4_isThere rfl rfl rfl (by decide +kernel) ⟨Nat.le_of_ble_eq_true rfl, Nat.le_of_ble_eq_true rfl⟩) (ro_preV hK hP hP (ci := 4) (q0 := 0) rfl rfl) rfl rfl hl.1 rfl (lv_room (Nat.le_of_ble_eq_true rfl)) dX4_guests_6 ⟨Nat.zero_le _, Nat.zero_le _⟩) (fun r_1 hr_1 => ?_)
  refine lv_if_ne (tgt := 15) hx hb dX4_guests_9 (by decide) (fun c_9 => ?_) (fun c_9 => ?_)
  · skip
    have c_9 := b2_n hr_1 c_9
    refine lv_aload_n hx hb dX4_guests_15 rfl (lv_at hl 0 rfl) ?_
    refine lv_iload_n hx hb dX4_guests_16 rfl (lv_at hl 1 rfl) ?_
    refine ro_calli (va_runV (As := [.int set]) (rest := []) ⟨hx, hb, hml, hown, hts⟩ (c_X4_areSquares l G m q (upd S 0 0) f set ) (cwV 1 hts gX4_guests_X4_areSquares rfl rfl rfl (by decide +kernel) ⟨Nat.le_of_ble_eq_true rfl, Nat.le_of_ble_eq_true rfl⟩) (ro_preV hK hP hP (ci := 4) (q0 := 0) rfl rfl) rfl rfl hl.1 rfl (lv_room (Nat.le_of_ble_eq_true rfl)) dX4_guests_17 ⟨Nat.zero_le _, Nat.zero_le _⟩) (fun r_2 hr_2 => ?_)
    refine lv_if_eq (tgt := 31) hx hb dX4_guests_20 (by decide) (fun c_20 => ?_) (fun c_20 => ?_)
    · skip
      have c_20 := b2_z hr_2 c_20
      refine lv_ldc hx hb hown hw3 dX4_guests_31 ?_
      exact rw_iret (S := Unit) (G := G) (Wd := fun _ : Unit => (lzM m q (upd S 0 0) ++ lzI G (q 5) 64 f)) () hx hb hr hlk dX4_guests_33 hS (hP) (rfl)
    · skip
      have c_20 := b2_n hr_2 c_20
      exact Bool.noConfusion (hset.symm.trans c_20)
  · skip
    have c_9 := b2_z hr_1 c_9
    exact Bool.noConfusion (hR.symm.trans c_9)
set_option maxHeartbeats 4000000 in
set_option maxRecDepth 100000 in
theorem c_X4_guests_ok (l : Launch) (G : lzG) (m : Nat) (q : Nat → Nat) (S : Nat → Int32) (f : Nat → Int32) (set : Int32) (N M : Nat) (hN : f 2 = nI N) (hN8 : N ≤ 8) (hM : f 3 = nI M) (hM5 : M ≤ 5) (hR : (decide (0 < f 0)) = true) (hset : inR set 0 ((1 <<< (f 2 &&& 31)) - 1) = true) : Met l yX4_guests wsX4_guests ({ frames := 6, cells := 0, slots := 0, locals := 137 }) (va_Pc [.ref m, .int set] (rwP G (lzM m q S ++ lzI G (q 5) 64 f))) (va_Qi (S := Unit) (fun (r : Int32) (_ : Unit) => r = gstM f set N M) (rwB G (fun _ : Unit => (lzM m q (upd S 0 0) ++ lzI G (q 5) 64 f))) (lzA (lzM m q S ++ lzI G (q 5) 64 f))) 0 0 (lzA (lzM m q S ++ lzI G (q 5) 64 f)) := by
  refine rw_start (S := Unit) (cc := cX4_guests) (maxL := 2) (ret := (some .int)) (by decide) rfl (Nat.le_of_ble_eq_true rfl) ?_
  intro pp ee ss mm bl me cd A hx hb hr hlk hml hts hown hP hK hD hAe hS ls hl
  have hA0 : ∀ zz : Nat, lzA (lzM m q S ++ lzI G (q 5) 64 f) zz → A zz := fun zz h9 => by rw [hAe]; exact h9
  rw [← hAe]
  clear hAe
  have hown : ss.vm.findClass RX4 = some mm.cls := hown
  have hw1 := hts (.fieldLink RX4 48 "LampSquaresModel" "thrown" "I") (List.mem_of_getElem? (i := 1) rfl)
  have hu_wsX40 : ∀ w ∈ wsX40, w.before ([.ref m, .int set] : List Value).toArray ss = true := fun w h9 => hts w (List.mem_cons_of_mem _ (List.mem_append_right _ h9))
  have hl : lv_has ls 2 [(0, .ref m), (1, .int set)] := hl
  refine lv_aload_n hx hb dX4_guests_0 rfl (lv_at hl 0 rfl) ?_
  refine lv_iconst (v := 0) hx hb dX4_guests_1 (by decide) ?_
  refine lz_put (G := G) (ci := 4) (C := RX4) (T := TX4) (N := 24) hx hb hu_wsX40 (fun _ h9 => h9) tyX4 tyX4_ok nmX4 hown hK hP hD hS 0 rfl rfl 0 (by decide) hw1 rfl rfl (by decide +kernel) (Nat.le_of_ble_eq_true rfl) dX4_guests_2 (lzM m q (upd S 0 0) ++ lzI G (q 5) 64 f) rfl (fun H locs hP hD hS => ?_)
  refine lv_aload_n hx hb dX4_guests_5 rfl (lv_at hl 0 rfl) ?_
  refine ro_calli (va_runV (As := []) (rest := []) ⟨hx, hb, hml, hown, hts⟩ (c_X4_isThere l G m q (upd S 0 0) f ) (cwV 0 hts gX4_guests_X4_isThere rfl rfl rfl (by decide +kernel) ⟨Nat.le_of_ble_eq_true rfl, Nat.le_of_ble_eq_true rfl⟩) (ro_preV hK hP hP (ci := 4) (q0 := 0) rfl rfl) rfl rfl hl.1 rfl (lv_room (Nat.le_of_ble_eq_true rfl)) dX4_guests_6 ⟨Nat.zero_le _, Nat.zero_le _⟩) (fun r_1 hr_1 => ?_)
  refine lv_if_ne (tgt := 15) hx hb dX4_guests_9 (by decide) (fun c_9 => ?_) (fun c_9 => ?_)
  · skip
    have c_9 := b2_n hr_1 c_9
    refine lv_aload_n hx hb dX4_guests_15 rfl (lv_at hl 0 rfl) ?_
    refine lv_iload_n hx hb dX4_guests_16 rfl (lv_at hl 1 rfl) ?_
    refine ro_calli (va_runV (As := [.int set]) (rest := []) ⟨hx, hb, hml, hown, hts⟩ (c_X4_areSquares l G m q (upd S 0 0) f set ) (cwV 1 hts gX4_guests_X4_areSquares rfl rfl rfl (by decide +kernel) ⟨Nat.le_of_ble_eq_true rfl, Nat.le_of_ble_eq_true rfl⟩) (ro_preV hK hP hP (ci := 4) (q0 := 0) rfl rfl) rfl rfl hl.1 rfl (lv_room (Nat.le_of_ble_eq_true rfl)) dX4_guests_17 ⟨Nat.zero_le _, Nat.zero_le _⟩) (fun r_2 hr_2 => ?_)
    refine lv_if_eq (tgt := 31) hx hb dX4_guests_20 (by decide) (fun c_20 => ?_) (fun c_20 => ?_)
    · skip
      have c_20 := b2_z hr_2 c_20
      exact Bool.noConfusion (hset.symm.trans c_20)
    · skip
      have c_20 := b2_n hr_2 c_20
      refine lv_aload_n hx hb dX4_guests_23 rfl (lv_at hl 0 rfl) ?_
      refine lv_iload_n hx hb dX4_guests_24 rfl (lv_at hl 1 rfl) ?_
      refine ro_calli (va_runV (As := [.int set]) (rest := []) ⟨hx, hb, hml, hown, hts⟩ (c_X4_guestsOf l G m q (upd S 0 0) f set N M (hN) (hN8) (hM) (hM5)) (cwV 1 hts gX4_guests_X4_guestsOf rfl rfl rfl (by decide +kernel) ⟨Nat.le_of_ble_eq_true rfl, Nat.le_of_ble_eq_true rfl⟩) (ro_preV hK hP hP (ci := 4) (q0 := 0) rfl rfl) rfl rfl hl.1 rfl (lv_room (Nat.le_of_ble_eq_true rfl)) dX4_guests_25 ⟨Nat.zero_le _, Nat.zero_le _⟩) (fun r_3 hr_3 => ?_)
      refine lz_top (y := gstM f set N M) hr_3 ?_
      refine lv_goto (tgt := 33) hx hb dX4_guests_28 (by decide) ?_
      exact rw_iret (S := Unit) (G := G) (Wd := fun _ : Unit => (lzM m q (upd S 0 0) ++ lzI G (q 5) 64 f)) () hx hb hr hlk dX4_guests_33 hS (hP) (rfl)
  · skip
    have c_9 := b2_z hr_1 c_9
    exact Bool.noConfusion (hR.symm.trans c_9)
set_option maxHeartbeats 4000000 in
set_option maxRecDepth 100000 in
theorem c_X4_fewest_state (l : Launch) (G : lzG) (m : Nat) (q : Nat → Nat) (S : Nat → Int32) (f : Nat → Int32) (want what : Int32) (hR : (decide (0 < f 0)) = false) : Met l yX4_fewest wsX4_fewest ({ frames := 1, cells := 0, slots := 0, locals := 20 }) (va_Pc [.ref m, .int want, .int what] (rwP G (lzM m q S ++ lzI G (q 5) 64 f))) (va_Qi (S := Unit) (fun (r : Int32) (_ : Unit) => r = -1000002) (rwB G (fun _ : Unit => (lzM m q (upd S 0 0) ++ lzI G (q 5) 64 f))) (lzA (lzM m q S ++ lzI G (q 5) 64 f))) 0 0 (lzA (lzM m q S ++ lzI G (q 5) 64 f)) := by
  refine rw_start (S := Unit) (cc := cX4_fewest) (maxL := 4) (ret := (some .int)) (by decide) rfl (Nat.le_of_ble_eq_true rfl) ?_
  intro pp ee ss mm bl me cd A hx hb hr hlk hml hts hown hP hK hD hAe hS ls hl
  have hA0 : ∀ zz : Nat, lzA (lzM m q S ++ lzI G (q 5) 64 f) zz → A zz := fun zz h9 => by rw [hAe]; exact h9
  rw [← hAe]
  clear hAe
  have hown : ss.vm.findClass RX4 = some mm.cls := hown
  have hw1 := hts (.fieldLink RX4 48 "LampSquaresModel" "thrown" "I") (List.mem_of_getElem? (i := 1) rfl)
  have hw2 := hts (.constant RX4 204 (-1000002)) (List.mem_of_getElem? (i := 2) rfl)
  have hu_wsX40 : ∀ w ∈ wsX40, w.before ([.ref m, .int want, .int what] : List Value).toArray ss = true := fun w h9 => hts w (List.mem_cons_of_mem _ (List.mem_append_right _ h9))
  have hl : lv_has ls 4 [(0, .ref m), (1, .int want), (2, .int what)] := hl
  refine lv_aload_n hx hb dX4_fewest_0 rfl (lv_at hl 0 rfl) ?_
  refine lv_iconst (v := 0) hx hb dX4_fewest_1 (by decide) ?_
  refine lz_put (G := G) (ci := 4) (C := RX4) (T := TX4) (N := 24) hx hb hu_wsX40 (fun _ h9 => h9) tyX4 tyX4_ok nmX4 hown hK hP hD hS 0 rfl rfl 0 (by decide) hw1 rfl rfl (by decide +kernel) (Nat.le_of_ble_eq_true rfl) dX4_fewest_2 (lzM m q (upd S 0 0) ++ lzI G (q 5) 64 f) rfl (fun H locs hP hD hS => ?_)
  refine lv_aload_n hx hb dX4_fewest_5 rfl (lv_at hl 0 rfl) ?_
  refine ro_calli (va_runV (As := []) (rest := []) ⟨hx, hb, hml, hown, hts⟩ (c_X4_isThere l G m q (upd S 0 0) f ) (cwV 0 hts gX4_fewest_X4_isThere rfl rfl rfl (by decide +kernel) ⟨Nat.le_of_ble_eq_true rfl, Nat.le_of_ble_eq_true rfl⟩) (ro_preV hK hP hP (ci := 4) (q0 := 0) rfl rfl) rfl rfl hl.1 rfl (lv_room (Nat.le_of_ble_eq_true rfl)) dX4_fewest_6 ⟨Nat.zero_le _, Nat.zero_le _⟩) (fun r_1 hr_1 => ?_)
  refine lv_if_ne (tgt := 15) hx hb dX4_fewest_9 (by decide) (fun c_9 => ?_) (fun c_9 => ?_)
  · skip
    have c_9 := b2_n hr_1 c_9
    exact Bool.noConfusion (hR.symm.trans c_9)
  · skip
    have c_9 := b2_z hr_1 c_9
    refine lv_ldc hx hb hown hw2 dX4_fewest_12 ?_
    exact rw_iret (S := Unit) (G := G) (Wd := fun _ : Unit => (lzM m q (upd S 0 0) ++ lzI G (q 5) 64 f)) () hx hb hr hlk dX4_fewest_14 hS (hP) (rfl)
set_option maxHeartbeats 4000000 in
set_option maxRecDepth 100000 in
theorem c_X4_fewest_bad (l : Launch) (G : lzG) (m : Nat) (q : Nat → Nat) (S : Nat → Int32) (f : Nat → Int32) (want what : Int32) (hR : (decide (0 < f 0)) = true) (hbad : (inR want 0 ((1 <<< (f 3 &&& 31)) - 1) && inR what 0 1) = false) : Met l yX4_fewest wsX4_fewest ({ frames := 2, cells := 0, slots := 0, locals := 46 }) (va_Pc [.ref m, .int want, .int what] (rwP G (lzM m q S ++ lzI G (q 5) 64 f))) (va_Qi (S := Unit) (fun (r : Int32) (_ : Unit) => r = -1000001) (rwB G (fun _ : Unit => (lzM m q (upd S 0 0) ++ lzI G (q 5) 64 f))) (lzA (lzM m q S ++ lzI G (q 5) 64 f))) 0 0 (lzA (lzM m q S ++ lzI G (q 5) 64 f)) := by
  have hbW : (inR want 0 ((1 <<< (f 3 &&& 31)) - 1) && inL what.toInt64 0 1) = false := by rw [show inL what.toInt64 0 1 = inR what 0 1 from inL_of what 0 1]; exact hbad
  refine rw_start (S := Unit) (cc := cX4_fewest) (maxL := 4) (ret := (some .int)) (by decide) rfl (Nat.le_of_ble_eq_true rfl) ?_
  intro pp ee ss mm bl me cd A hx hb hr hlk hml hts hown hP hK hD hAe hS ls hl
  have hA0 : ∀ zz : Nat, lzA (lzM m q S ++ lzI G (q 5) 64 f) zz → A zz := fun zz h9 => by rw [hAe]; exact h9
  rw [← hAe]
  clear hAe
  have hown : ss.vm.findClass RX4 = some mm.cls := hown
  have hw1 := hts (.fieldLink RX4 48 "LampSquaresModel" "thrown" "I") (List.mem_of_getElem? (i := 1) rfl)
  have hw3 := hts (.constant RX4 68 (-1000001)) (List.mem_of_getElem? (i := 3) rfl)
  have hu_wsX40 : ∀ w ∈ wsX40, w.before ([.ref m, .int want, .int what] : List Value).toArray ss = true := fun w h9 => hts w (List.mem_cons_of_mem _ (List.mem_append_right _ h9))
  have hl : lv_has ls 4 [(0, .ref m), (1, .int want), (2, .int what)] := hl
  refine lv_aload_n hx hb dX4_fewest_0 rfl (lv_at hl 0 rfl) ?_
  refine lv_iconst (v := 0) hx hb dX4_fewest_1 (by decide) ?_
  refine lz_put (G := G) (ci := 4) (C := RX4) (T := TX4) (N := 24) hx hb hu_wsX40 (fun _ h9 => h9) tyX4 tyX4_ok nmX4 hown hK hP hD hS 0 rfl rfl 0 (by decide) hw1 rfl rfl (by decide +kernel) (Nat.le_of_ble_eq_true rfl) dX4_fewest_2 (lzM m q (upd S 0 0) ++ lzI G (q 5) 64 f) rfl (fun H locs hP hD hS => ?_)
  refine lv_aload_n hx hb dX4_fewest_5 rfl (lv_at hl 0 rfl) ?_
  refine ro_calli (va_runV (As := []) (rest := []) ⟨hx, hb, hml, hown, hts⟩ (c_X4_isThere l G m q (upd S 0 0) f ) (cwV 0 hts gX4_fewest_X4_isThere rfl rfl rfl (by decide +kernel) ⟨Nat.le_of_ble_eq_true rfl, Nat.le_of_ble_eq_true rfl⟩) (ro_preV hK hP hP (ci := 4) (q0 := 0) rfl rfl) rfl rfl hl.1 rfl (lv_room (Nat.le_of_ble_eq_true rfl)) dX4_fewest_6 ⟨Nat.zero_le _, Nat.zero_le _⟩) (fun r_1 hr_1 => ?_)
  refine lv_if_ne (tgt := 15) hx hb dX4_fewest_9 (by decide) (fun c_9 => ?_) (fun c_9 => ?_)
  · skip
    have c_9 := b2_n hr_1 c_9
    refine lv_aload_n hx hb dX4_fewest_15 rfl (lv_at hl 0 rfl) ?_
    refine lv_iload_n hx hb dX4_fewest_16 rfl (lv_at hl 1 rfl) ?_
    refine ro_calli (va_runV (As := [.int want]) (rest := []) ⟨hx, hb, hml, hown, hts⟩ (c_X4_areVisitors l G m q (upd S 0 0) f want ) (cwV 1 hts gX4_fewest_X4_areVisitors rfl rfl rfl (by decide +kernel) ⟨Nat.le_of_ble_eq_true rfl, Nat.le_of_ble_eq_true rfl⟩) (ro_preV hK hP hP (ci := 4) (q0 := 0) rfl rfl) rfl rfl hl.1 rfl (lv_room (Nat.le_of_ble_eq_true rfl)) dX4_fewest_17 ⟨Nat.zero_le _, Nat.zero_le _⟩) (fun r_2 hr_2 => ?_)
    refine lv_if_eq (tgt := 33) hx hb dX4_fewest_20 (by decide) (fun c_20 => ?_) (fun c_20 => ?_)
    · skip
      have c_20 := b2_z hr_2 c_20
      refine lv_ldc hx hb hown hw3 dX4_fewest_33 ?_
      exact rw_iret (S := Unit) (G := G) (Wd := fun _ : Unit => (lzM m q (upd S 0 0) ++ lzI G (q 5) 64 f)) () hx hb hr hlk dX4_fewest_35 hS (hP) (rfl)
    · skip
      have c_20 := b2_n hr_2 c_20
      refine lv_iload_n hx hb dX4_fewest_23 rfl (lv_at hl 2 rfl) ?_
      refine lv_i2l hx hb dX4_fewest_24 rfl ?_
      refine lv_lconst (v := 0) hx hb dX4_fewest_25 (by decide) ?_
      refine lv_lconst (v := 1) hx hb dX4_fewest_26 (by decide) ?_
      refine ro_calli (va_runS (As := [.long what.toInt64, .long 0, .long 1]) (rest := []) ⟨hx, hb, hml, hown, hts⟩ (c_X4_in l G what.toInt64 0 1 ) (cwS 3 hts gX4_fewest_X4_in rfl rfl rfl (by decide +kernel) ⟨Nat.le_of_ble_eq_true rfl, Nat.le_of_ble_eq_true rfl⟩) (ro_pre hK (fun k q h => by simp at h)) rfl rfl hl.1 rfl (lv_room (Nat.le_of_ble_eq_true rfl)) dX4_fewest_27 ⟨Nat.zero_le _, Nat.zero_le _⟩) (fun r_3 hr_3 => ?_)
      refine lv_if_ne (tgt := 36) hx hb dX4_fewest_30 (by decide) (fun c_30 => ?_) (fun c_30 => ?_)
      · skip
        have c_30 := b2_n hr_3 c_30
        exact Bool.noConfusion (hbW.symm.trans (by rw [c_20, c_30] <;> rfl))
      · skip
        have c_30 := b2_z hr_3 c_30
        refine lv_ldc hx hb hown hw3 dX4_fewest_33 ?_
        exact rw_iret (S := Unit) (G := G) (Wd := fun _ : Unit => (lzM m q (upd S 0 0) ++ lzI G (q 5) 64 f)) () hx hb hr hlk dX4_fewest_35 hS (hP) (rfl)
  · skip
    have c_9 := b2_z hr_1 c_9
    exact Bool.noConfusion (hR.symm.trans c_9)
set_option maxHeartbeats 4000000 in
set_option maxRecDepth 100000 in
theorem c_X4_fewest_ok (l : Launch) (G : lzG) (m : Nat) (q : Nat → Nat) (S : Nat → Int32) (f : Nat → Int32) (want what : Int32) (N M : Nat) (hN : f 2 = nI N) (hN8 : N ≤ 8) (hM : f 3 = nI M) (hM5 : M ≤ 5) (hR : (decide (0 < f 0)) = true) (hvs : inR want 0 ((1 <<< (f 3 &&& 31)) - 1) = true) (hw : inR what 0 1 = true) : Met l yX4_fewest wsX4_fewest ({ frames := 7, cells := 0, slots := 0, locals := 162 }) (va_Pc [.ref m, .int want, .int what] (rwP G (lzM m q S ++ lzI G (q 5) 64 f))) (va_Qi (S := Unit) (fun (r : Int32) (_ : Unit) => r = if (fewM f (nI (2 ^ N - 1)) want N M (2 ^ N - 1 + 1)) = -1000000 then (fewM f (nI (2 ^ N - 1)) want N M (2 ^ N - 1 + 1)) else if what = 1 then (fewM f (nI (2 ^ N - 1)) want N M (2 ^ N - 1 + 1)) else bitM (fewM f (nI (2 ^ N - 1)) want N M (2 ^ N - 1 + 1))) (rwB G (fun _ : Unit => (lzM m q (upd S 0 0) ++ lzI G (q 5) 64 f))) (lzA (lzM m q S ++ lzI G (q 5) 64 f))) 0 0 (lzA (lzM m q S ++ lzI G (q 5) 64 f)) := by
  have hwL : inL what.toInt64 0 1 = true := (inL_of what 0 1).trans hw
  refine rw_start (S := Unit) (cc := cX4_fewest) (maxL := 4) (ret := (some .int)) (by decide) rfl (Nat.le_of_ble_eq_true rfl) ?_
  intro pp ee ss mm bl me cd A hx hb hr hlk hml hts hown hP hK hD hAe hS ls hl
  have hA0 : ∀ zz : Nat, lzA (lzM m q S ++ lzI G (q 5) 64 f) zz → A zz := fun zz h9 => by rw [hAe]; exact h9
  rw [← hAe]
  clear hAe
  have hown : ss.vm.findClass RX4 = some mm.cls := hown
  have hw1 := hts (.fieldLink RX4 48 "LampSquaresModel" "thrown" "I") (List.mem_of_getElem? (i := 1) rfl)
  have hw4 := hts (.fieldLink RX4 19 "LampSquaresModel" "door" "[I") (List.mem_of_getElem? (i := 4) rfl)
  have hw5 := hts (.constant RX4 91 (-1000000)) (List.mem_of_getElem? (i := 5) rfl)
  have hu_wsX40 : ∀ w ∈ wsX40, w.before ([.ref m, .int want, .int what] : List Value).toArray ss = true := fun w h9 => hts w (List.mem_cons_of_mem _ (List.mem_append_right _ h9))
  have hl : lv_has ls 4 [(0, .ref m), (1, .int want), (2, .int what)] := hl
  refine lv_aload_n hx hb dX4_fewest_0 rfl (lv_at hl 0 rfl) ?_
  refine lv_iconst (v := 0) hx hb dX4_fewest_1 (by decide) ?_
  refine lz_put (G := G) (ci := 4) (C := RX4) (T := TX4) (N := 24) hx hb hu_wsX40 (fun _ h9 => h9) tyX4 tyX4_ok nmX4 hown hK hP hD hS 0 rfl rfl 0 (by decide) hw1 rfl rfl (by decide +kernel) (Nat.le_of_ble_eq_true rfl) dX4_fewest_2 (lzM m q (upd S 0 0) ++ lzI G (q 5) 64 f) rfl (fun H locs hP hD hS => ?_)
  refine lv_aload_n hx hb dX4_fewest_5 rfl (lv_at hl 0 rfl) ?_
  refine ro_calli (va_runV (As := []) (rest := []) ⟨hx, hb, hml, hown, hts⟩ (c_X4_isThere l G m q (upd S 0 0) f ) (cwV 0 hts gX4_fewest_X4_isThere rfl rfl rfl (by decide +kernel) ⟨Nat.le_of_ble_eq_true rfl, Nat.le_of_ble_eq_true rfl⟩) (ro_preV hK hP hP (ci := 4) (q0 := 0) rfl rfl) rfl rfl hl.1 rfl (lv_room (Nat.le_of_ble_eq_true rfl)) dX4_fewest_6 ⟨Nat.zero_le _, Nat.zero_le _⟩) (fun r_1 hr_1 => ?_)
  refine lv_if_ne (tgt := 15) hx hb dX4_fewest_9 (by decide) (fun c_9 => ?_) (fun c_9 => ?_)
  · skip
    have c_9 := b2_n hr_1 c_9
    refine lv_aload_n hx hb dX4_fewest_15 rfl (lv_at hl 0 rfl) ?_
    refine lv_iload_n hx hb dX4_fewest_16 rfl (lv_at hl 1 rfl) ?_
    refine ro_calli (va_runV (As := [.int want]) (rest := []) ⟨hx, hb, hml, hown, hts⟩ (c_X4_areVisitors l G m q (upd S 0 0) f want ) (cwV 1 hts gX4_fewest_X4_areVisitors rfl rfl rfl (by decide +kernel) ⟨Nat.le_of_ble_eq_true rfl, Nat.le_of_ble_eq_true rfl⟩) (ro_preV hK hP hP (ci := 4) (q0 := 0) rfl rfl) rfl rfl hl.1 rfl (lv_room (Nat.le_of_ble_eq_true rfl)) dX4_fewest_17 ⟨Nat.zero_le _, Nat.zero_le _⟩) (fun r_2 hr_2 => ?_)
    refine lv_if_eq (tgt := 33) hx hb dX4_fewest_20 (by decide) (fun c_20 => ?_) (fun c_20 => ?_)
    · skip
      have c_20 := b2_z hr_2 c_20
      exact Bool.noConfusion (hvs.symm.trans c_20)
    · skip
      have c_20 := b2_n hr_2 c_20
      refine lv_iload_n hx hb dX4_fewest_23 rfl (lv_at hl 2 rfl) ?_
      refine lv_i2l hx hb dX4_fewest_24 rfl ?_
      refine lv_lconst (v := 0) hx hb dX4_fewest_25 (by decide) ?_
      refine lv_lconst (v := 1) hx hb dX4_fewest_26 (by decide) ?_
      refine ro_calli (va_runS (As := [.long what.toInt64, .long 0, .long 1]) (rest := []) ⟨hx, hb, hml, hown, hts⟩ (c_X4_in l G what.toInt64 0 1 ) (cwS 3 hts gX4_fewest_X4_in rfl rfl rfl (by decide +kernel) ⟨Nat.le_of_ble_eq_true rfl, Nat.le_of_ble_eq_true rfl⟩) (ro_pre hK (fun k q h => by simp at h)) rfl rfl hl.1 rfl (lv_room (Nat.le_of_ble_eq_true rfl)) dX4_fewest_27 ⟨Nat.zero_le _, Nat.zero_le _⟩) (fun r_3 hr_3 => ?_)
      refine lv_if_ne (tgt := 36) hx hb dX4_fewest_30 (by decide) (fun c_30 => ?_) (fun c_30 => ?_)
      · skip
        have c_30 := b2_n hr_3 c_30
        refine lv_aload_n hx hb dX4_fewest_36 rfl (lv_at hl 0 rfl) ?_
        refine lv_iconst (v := 1) hx hb dX4_fewest_37 (by decide) ?_
        refine lv_aload_n hx hb dX4_fewest_38 rfl (lv_at hl 0 rfl) ?_
        refine lz_get (G := G) (ci := 4) (v := .ref (q 5)) (C := RX4) (T := TX4) (N := 24) hx hb hu_wsX40 (fun _ h9 => h9) hown hK hP 0 rfl rfl 5 (by decide) hw4 rfl rfl dX4_fewest_39 ?_
        refine lv_iconst (v := 2) hx hb dX4_fewest_42 (by decide) ?_
        refine lz_iald (f := f) hx hb hK hP 1 rfl 2 (by omega) (Nat.le_of_ble_eq_true rfl) dX4_fewest_43 ?_
        refine lv_ishl hx hb dX4_fewest_44 ?_
        refine lv_iconst (v := 1) hx hb dX4_fewest_45 (by decide) ?_
        refine lv_isub hx hb dX4_fewest_46 ?_
        refine lz_top (y := nI (2 ^ N - 1)) (all_sq hN hN8) ?_
        refine lv_iload_n hx hb dX4_fewest_47 rfl (lv_at hl 1 rfl) ?_
        refine ro_calli (va_runV (As := [.int (nI (2 ^ N - 1)), .int want]) (rest := []) ⟨hx, hb, hml, hown, hts⟩ (c_X4_fewestOf l G m q (upd S 0 0) f (2 ^ N - 1) want N M (hN) (hN8) (hM) (hM5) (pow_256 hN8)) (cwV 2 hts gX4_fewest_X4_fewestOf rfl rfl rfl (by decide +kernel) ⟨Nat.le_of_ble_eq_true rfl, Nat.le_of_ble_eq_true rfl⟩) (ro_preV hK hP hP (ci := 4) (q0 := 0) rfl rfl) rfl rfl hl.1 rfl (lv_room (Nat.le_of_ble_eq_true rfl)) dX4_fewest_48 ⟨Nat.zero_le _, Nat.zero_le _⟩) (fun r_4 hr_4 => ?_)
        refine lz_top (y := fewM f (nI (2 ^ N - 1)) want N M ((2 ^ N - 1) + 1)) hr_4 ?_
        refine lv_istore_n (lv' := [(3, .int (fewM f (nI (2 ^ N - 1)) want N M ((2 ^ N - 1) + 1))), (0, .ref m), (1, .int want), (2, .int what)]) hx hb dX4_fewest_51 rfl hl (by decide) rfl (fun ls hl => ?_)
        refine lv_iload_n hx hb dX4_fewest_52 rfl (lv_at hl 0 rfl) ?_
        refine lv_ldc hx hb hown hw5 dX4_fewest_53 ?_
        refine lv_icmp_eq (tgt := 63) hx hb dX4_fewest_55 (by decide) (fun c_55 => ?_) (fun c_55 => ?_)
        · skip
          refine lv_iload_n hx hb dX4_fewest_63 rfl (lv_at hl 0 rfl) ?_
          refine lv_goto (tgt := 71) hx hb dX4_fewest_64 (by decide) ?_
          exact rw_iret (S := Unit) (G := G) (Wd := fun _ : Unit => (lzM m q (upd S 0 0) ++ lzI G (q 5) 64 f)) () hx hb hr hlk dX4_fewest_71 hS (hP) (by first | rw [if_pos c_55] | rw [if_neg c_55, if_pos c_60] | rw [if_neg c_55, if_neg c_60])
        · skip
          refine lv_iload_n hx hb dX4_fewest_58 rfl (lv_at hl 3 rfl) ?_
          refine lv_iconst (v := 1) hx hb dX4_fewest_59 (by decide) ?_
          refine lv_icmp_ne (tgt := 67) hx hb dX4_fewest_60 (by decide) (fun c_60 => ?_) (fun c_60 => ?_)
          · skip
            refine lv_iload_n hx hb dX4_fewest_67 rfl (lv_at hl 0 rfl) ?_
            refine ro_calli (va_runS (As := [.int (fewM f (nI (2 ^ N - 1)) want N M ((2 ^ N - 1) + 1))]) (rest := []) ⟨hx, hb, hml, hown, hts⟩ (c_X4_bits l G (fewM f (nI (2 ^ N - 1)) want N M ((2 ^ N - 1) + 1)) ) (cwS 1 hts gX4_fewest_X4_bits rfl rfl rfl (by decide +kernel) ⟨Nat.le_of_ble_eq_true rfl, Nat.le_of_ble_eq_true rfl⟩) (ro_pre hK (fun k q h => by simp at h)) rfl rfl hl.1 rfl (lv_room (Nat.le_of_ble_eq_true rfl)) dX4_fewest_68 ⟨Nat.zero_le _, Nat.zero_le _⟩) (fun r_5 hr_5 => ?_)
            refine lz_top (y := bitM (fewM f (nI (2 ^ N - 1)) want N M ((2 ^ N - 1) + 1))) hr_5 ?_
            exact rw_iret (S := Unit) (G := G) (Wd := fun _ : Unit => (lzM m q (upd S 0 0) ++ lzI G (q 5) 64 f)) () hx hb hr hlk dX4_fewest_71 hS (hP) (by first | rw [if_pos c_55] | rw [if_neg c_55, if_pos c_60] | rw [if_neg c_55, if_neg c_60])
          · skip
            refine lv_iload_n hx hb dX4_fewest_63 rfl (lv_at hl 0 rfl) ?_
            refine lv_goto (tgt := 71) hx hb dX4_fewest_64 (by decide) ?_
            exact rw_iret (S := Unit) (G := G) (Wd := fun _ : Unit => (lzM m q (upd S 0 0) ++ lzI G (q 5) 64 f)) () hx hb hr hlk dX4_fewest_71 hS (hP) (by first | rw [if_pos c_55] | rw [if_neg c_55, if_pos c_60] | rw [if_neg c_55, if_neg c_60])
      · skip
        have c_30 := b2_z hr_3 c_30
        exact Bool.noConfusion (hwL.symm.trans c_30)
  · skip
    have c_9 := b2_z hr_1 c_9
    exact Bool.noConfusion (hR.symm.trans c_9)
set_option maxHeartbeats 4000000 in
set_option maxRecDepth 100000 in
theorem c_X4_save_state (l : Launch) (G : lzG) (m : Nat) (q : Nat → Nat) (S : Nat → Int32) (f : Nat → Int32) (set what : Int32) (hR : (decide (0 < f 0)) = false) : Met l yX4_save wsX4_save ({ frames := 1, cells := 0, slots := 0, locals := 20 }) (va_Pc [.ref m, .int set, .int what] (rwP G (lzM m q S ++ lzI G (q 5) 64 f))) (va_Qi (S := Unit) (fun (r : Int32) (_ : Unit) => r = -1000002) (rwB G (fun _ : Unit => (lzM m q (upd S 0 0) ++ lzI G (q 5) 64 f))) (lzA (lzM m q S ++ lzI G (q 5) 64 f))) 0 0 (lzA (lzM m q S ++ lzI G (q 5) 64 f)) := by
  refine rw_start (S := Unit) (cc := cX4_save) (maxL := 4) (ret := (some .int)) (by decide) rfl (Nat.le_of_ble_eq_true rfl) ?_
  intro pp ee ss mm bl me cd A hx hb hr hlk hml hts hown hP hK hD hAe hS ls hl
  have hA0 : ∀ zz : Nat, lzA (lzM m q S ++ lzI G (q 5) 64 f) zz → A zz := fun zz h9 => by rw [hAe]; exact h9
  rw [← hAe]
  clear hAe
  have hown : ss.vm.findClass RX4 = some mm.cls := hown
  have hw1 := hts (.fieldLink RX4 48 "LampSquaresModel" "thrown" "I") (List.mem_of_getElem? (i := 1) rfl)
  have hw2 := hts (.constant RX4 204 (-1000002)) (List.mem_of_getElem? (i := 2) rfl)
  have hu_wsX40 : ∀ w ∈ wsX40, w.before ([.ref m, .int set, .int what] : List Value).toArray ss = true := fun w h9 => hts w (List.mem_cons_of_mem _ (List.mem_append_right _ h9))
  have hl : lv_has ls 4 [(0, .ref m), (1, .int set), (2, .int what)] := hl
  refine lv_aload_n hx hb dX4_save_0 rfl (lv_at hl 0 rfl) ?_
  refine lv_iconst (v := 0) hx hb dX4_save_1 (by decide) ?_
  refine lz_put (G := G) (ci := 4) (C := RX4) (T := TX4) (N := 24) hx hb hu_wsX40 (fun _ h9 => h9) tyX4 tyX4_ok nmX4 hown hK hP hD hS 0 rfl rfl 0 (by decide) hw1 rfl rfl (by decide +kernel) (Nat.le_of_ble_eq_true rfl) dX4_save_2 (lzM m q (upd S 0 0) ++ lzI G (q 5) 64 f) rfl (fun H locs hP hD hS => ?_)
  refine lv_aload_n hx hb dX4_save_5 rfl (lv_at hl 0 rfl) ?_
  refine ro_calli (va_runV (As := []) (rest := []) ⟨hx, hb, hml, hown, hts⟩ (c_X4_isThere l G m q (upd S 0 0) f ) (cwV 0 hts gX4_save_X4_isThere rfl rfl rfl (by decide +kernel) ⟨Nat.le_of_ble_eq_true rfl, Nat.le_of_ble_eq_true rfl⟩) (ro_preV hK hP hP (ci := 4) (q0 := 0) rfl rfl) rfl rfl hl.1 rfl (lv_room (Nat.le_of_ble_eq_true rfl)) dX4_save_6 ⟨Nat.zero_le _, Nat.zero_le _⟩) (fun r_1 hr_1 => ?_)
  refine lv_if_ne (tgt := 15) hx hb dX4_save_9 (by decide) (fun c_9 => ?_) (fun c_9 => ?_)
  · skip
    have c_9 := b2_n hr_1 c_9
    exact Bool.noConfusion (hR.symm.trans c_9)
  · skip
    have c_9 := b2_z hr_1 c_9
    refine lv_ldc hx hb hown hw2 dX4_save_12 ?_
    exact rw_iret (S := Unit) (G := G) (Wd := fun _ : Unit => (lzM m q (upd S 0 0) ++ lzI G (q 5) 64 f)) () hx hb hr hlk dX4_save_14 hS (hP) (rfl)
set_option maxHeartbeats 4000000 in
set_option maxRecDepth 100000 in
theorem c_X4_save_bad (l : Launch) (G : lzG) (m : Nat) (q : Nat → Nat) (S : Nat → Int32) (f : Nat → Int32) (set what : Int32) (hR : (decide (0 < f 0)) = true) (hbad : (inR set 0 ((1 <<< (f 2 &&& 31)) - 1) && inR what 0 1) = false) : Met l yX4_save wsX4_save ({ frames := 2, cells := 0, slots := 0, locals := 46 }) (va_Pc [.ref m, .int set, .int what] (rwP G (lzM m q S ++ lzI G (q 5) 64 f))) (va_Qi (S := Unit) (fun (r : Int32) (_ : Unit) => r = -1000001) (rwB G (fun _ : Unit => (lzM m q (upd S 0 0) ++ lzI G (q 5) 64 f))) (lzA (lzM m q S ++ lzI G (q 5) 64 f))) 0 0 (lzA (lzM m q S ++ lzI G (q 5) 64 f)) := by
  have hbW : (inR set 0 ((1 <<< (f 2 &&& 31)) - 1) && inL what.toInt64 0 1) = false := by rw [show inL what.toInt64 0 1 = inR what 0 1 from inL_of what 0 1]; exact hbad
  refine rw_start (S := Unit) (cc := cX4_save) (maxL := 4) (ret := (some .int)) (by decide) rfl (Nat.le_of_ble_eq_true rfl) ?_
  intro pp ee ss mm bl me cd A hx hb hr hlk hml hts hown hP hK hD hAe hS ls hl
  have hA0 : ∀ zz : Nat, lzA (lzM m q S ++ lzI G (q 5) 64 f) zz → A zz := fun zz h9 => by rw [hAe]; exact h9
  rw [← hAe]
  clear hAe
  have hown : ss.vm.findClass RX4 = some mm.cls := hown
  have hw1 := hts (.fieldLink RX4 48 "LampSquaresModel" "thrown" "I") (List.mem_of_getElem? (i := 1) rfl)
  have hw3 := hts (.constant RX4 68 (-1000001)) (List.mem_of_getElem? (i := 3) rfl)
  have hu_wsX40 : ∀ w ∈ wsX40, w.before ([.ref m, .int set, .int what] : List Value).toArray ss = true := fun w h9 => hts w (List.mem_cons_of_mem _ (List.mem_append_right _ h9))
  have hl : lv_has ls 4 [(0, .ref m), (1, .int set), (2, .int what)] := hl
  refine lv_aload_n hx hb dX4_save_0 rfl (lv_at hl 0 rfl) ?_
  refine lv_iconst (v := 0) hx hb dX4_save_1 (by decide) ?_
  refine lz_put (G := G) (ci := 4) (C := RX4) (T := TX4) (N := 24) hx hb hu_wsX40 (fun _ h9 => h9) tyX4 tyX4_ok nmX4 hown hK hP hD hS 0 rfl rfl 0 (by decide) hw1 rfl rfl (by decide +kernel) (Nat.le_of_ble_eq_true rfl) dX4_save_2 (lzM m q (upd S 0 0) ++ lzI G (q 5) 64 f) rfl (fun H locs hP hD hS => ?_)
  refine lv_aload_n hx hb dX4_save_5 rfl (lv_at hl 0 rfl) ?_
  refine ro_calli (va_runV (As := []) (rest := []) ⟨hx, hb, hml, hown, hts⟩ (c_X4_isThere l G m q (upd S 0 0) f ) (cwV 0 hts gX4_save_X4_isThere rfl rfl rfl (by decide +kernel) ⟨Nat.le_of_ble_eq_true rfl, Nat.le_of_ble_eq_true rfl⟩) (ro_preV hK hP hP (ci := 4) (q0 := 0) rfl rfl) rfl rfl hl.1 rfl (lv_room (Nat.le_of_ble_eq_true rfl)) dX4_save_6 ⟨Nat.zero_le _, Nat.zero_le _⟩) (fun r_1 hr_1 => ?_)
  refine lv_if_ne (tgt := 15) hx hb dX4_save_9 (by decide) (fun c_9 => ?_) (fun c_9 => ?_)
  · skip
    have c_9 := b2_n hr_1 c_9
    refine lv_aload_n hx hb dX4_save_15 rfl (lv_at hl 0 rfl) ?_
    refine lv_iload_n hx hb dX4_save_16 rfl (lv_at hl 1 rfl) ?_
    refine ro_calli (va_runV (As := [.int set]) (rest := []) ⟨hx, hb, hml, hown, hts⟩ (c_X4_areSquares l G m q (upd S 0 0) f set ) (cwV 1 hts gX4_save_X4_areSquares rfl rfl rfl (by decide +kernel) ⟨Nat.le_of_ble_eq_true rfl, Nat.le_of_ble_eq_true rfl⟩) (ro_preV hK hP hP (ci := 4) (q0 := 0) rfl rfl) rfl rfl hl.1 rfl (lv_room (Nat.le_of_ble_eq_true rfl)) dX4_save_17 ⟨Nat.zero_le _, Nat.zero_le _⟩) (fun r_2 hr_2 => ?_)
    refine lv_if_eq (tgt := 33) hx hb dX4_save_20 (by decide) (fun c_20 => ?_) (fun c_20 => ?_)
    · skip
      have c_20 := b2_z hr_2 c_20
      refine lv_ldc hx hb hown hw3 dX4_save_33 ?_
      exact rw_iret (S := Unit) (G := G) (Wd := fun _ : Unit => (lzM m q (upd S 0 0) ++ lzI G (q 5) 64 f)) () hx hb hr hlk dX4_save_35 hS (hP) (rfl)
    · skip
      have c_20 := b2_n hr_2 c_20
      refine lv_iload_n hx hb dX4_save_23 rfl (lv_at hl 2 rfl) ?_
      refine lv_i2l hx hb dX4_save_24 rfl ?_
      refine lv_lconst (v := 0) hx hb dX4_save_25 (by decide) ?_
      refine lv_lconst (v := 1) hx hb dX4_save_26 (by decide) ?_
      refine ro_calli (va_runS (As := [.long what.toInt64, .long 0, .long 1]) (rest := []) ⟨hx, hb, hml, hown, hts⟩ (c_X4_in l G what.toInt64 0 1 ) (cwS 3 hts gX4_save_X4_in rfl rfl rfl (by decide +kernel) ⟨Nat.le_of_ble_eq_true rfl, Nat.le_of_ble_eq_true rfl⟩) (ro_pre hK (fun k q h => by simp at h)) rfl rfl hl.1 rfl (lv_room (Nat.le_of_ble_eq_true rfl)) dX4_save_27 ⟨Nat.zero_le _, Nat.zero_le _⟩) (fun r_3 hr_3 => ?_)
      refine lv_if_ne (tgt := 36) hx hb dX4_save_30 (by decide) (fun c_30 => ?_) (fun c_30 => ?_)
      · skip
        have c_30 := b2_n hr_3 c_30
        exact Bool.noConfusion (hbW.symm.trans (by rw [c_20, c_30] <;> rfl))
      · skip
        have c_30 := b2_z hr_3 c_30
        refine lv_ldc hx hb hown hw3 dX4_save_33 ?_
        exact rw_iret (S := Unit) (G := G) (Wd := fun _ : Unit => (lzM m q (upd S 0 0) ++ lzI G (q 5) 64 f)) () hx hb hr hlk dX4_save_35 hS (hP) (rfl)
  · skip
    have c_9 := b2_z hr_1 c_9
    exact Bool.noConfusion (hR.symm.trans c_9)
set_option maxHeartbeats 4000000 in
set_option maxRecDepth 100000 in
theorem c_X4_save_ok (l : Launch) (G : lzG) (m : Nat) (q : Nat → Nat) (S : Nat → Int32) (f : Nat → Int32) (O : Nat) (what : Int32) (N M : Nat) (hN : f 2 = nI N) (hN8 : N ≤ 8) (hM : f 3 = nI M) (hM5 : M ≤ 5) (hR : (decide (0 < f 0)) = true) (hO : O < 256) (hset : inR (nI O) 0 ((1 <<< (f 2 &&& 31)) - 1) = true) (hw : inR what 0 1 = true) : Met l yX4_save wsX4_save ({ frames := 7, cells := 0, slots := 0, locals := 162 }) (va_Pc [.ref m, .int (nI O), .int what] (rwP G (lzM m q S ++ lzI G (q 5) 64 f))) (va_Qi (S := Unit) (fun (r : Int32) (_ : Unit) => r = if what = 1 then (fewM f (nI O) (gstM f (nI O) N M) N M (O + 1)) else bitM (fewM f (nI O) (gstM f (nI O) N M) N M (O + 1))) (rwB G (fun _ : Unit => (lzM m q (upd S 0 0) ++ lzI G (q 5) 64 f))) (lzA (lzM m q S ++ lzI G (q 5) 64 f))) 0 0 (lzA (lzM m q S ++ lzI G (q 5) 64 f)) := by
  have hwL : inL what.toInt64 0 1 = true := (inL_of what 0 1).trans hw
  refine rw_start (S := Unit) (cc := cX4_save) (maxL := 4) (ret := (some .int)) (by decide) rfl (Nat.le_of_ble_eq_true rfl) ?_
  intro pp ee ss mm bl me cd A hx hb hr hlk hml hts hown hP hK hD hAe hS ls hl
  have hA0 : ∀ zz : Nat, lzA (lzM m q S ++ lzI G (q 5) 64 f) zz → A zz := fun zz h9 => by rw [hAe]; exact h9
  rw [← hAe]
  clear hAe
  have hown : ss.vm.findClass RX4 = some mm.cls := hown
  have hw1 := hts (.fieldLink RX4 48 "LampSquaresModel" "thrown" "I") (List.mem_of_getElem? (i := 1) rfl)
  have hu_wsX40 : ∀ w ∈ wsX40, w.before ([.ref m, .int (nI O), .int what] : List Value).toArray ss = true := fun w h9 => hts w (List.mem_cons_of_mem _ (List.mem_append_right _ h9))
  have hl : lv_has ls 4 [(0, .ref m), (1, .int (nI O)), (2, .int what)] := hl
  refine lv_aload_n hx hb dX4_save_0 rfl (lv_at hl 0 rfl) ?_
  refine lv_iconst (v := 0) hx hb dX4_save_1 (by decide) ?_
  refine lz_put (G := G) (ci := 4) (C := RX4) (T := TX4) (N := 24) hx hb hu_wsX40 (fun _ h9 => h9) tyX4 tyX4_ok nmX4 hown hK hP hD hS 0 rfl rfl 0 (by decide) hw1 rfl rfl (by decide +kernel) (Nat.le_of_ble_eq_true rfl) dX4_save_2 (lzM m q (upd S 0 0) ++ lzI G (q 5) 64 f) rfl (fun H locs hP hD hS => ?_)
  refine lv_aload_n hx hb dX4_save_5 rfl (lv_at hl 0 rfl) ?_
  refine ro_calli (va_runV (As := []) (rest := []) ⟨hx, hb, hml, hown, hts⟩ (c_X4_isThere l G m q (upd S 0 0) f ) (cwV 0 hts gX4_save_X4_isThere rfl rfl rfl (by decide +kernel) ⟨Nat.le_of_ble_eq_true rfl, Nat.le_of_ble_eq_true rfl⟩) (ro_preV hK hP hP (ci := 4) (q0 := 0) rfl rfl) rfl rfl hl.1 rfl (lv_room (Nat.le_of_ble_eq_true rfl)) dX4_save_6 ⟨Nat.zero_le _, Nat.zero_le _⟩) (fun r_1 hr_1 => ?_)
  refine lv_if_ne (tgt := 15) hx hb dX4_save_9 (by decide) (fun c_9 => ?_) (fun c_9 => ?_)
  · skip
    have c_9 := b2_n hr_1 c_9
    refine lv_aload_n hx hb dX4_save_15 rfl (lv_at hl 0 rfl) ?_
    refine lv_iload_n hx hb dX4_save_16 rfl (lv_at hl 1 rfl) ?_
    refine ro_calli (va_runV (As := [.int (nI O)]) (rest := []) ⟨hx, hb, hml, hown, hts⟩ (c_X4_areSquares l G m q (upd S 0 0) f (nI O) ) (cwV 1 hts gX4_save_X4_areSquares rfl rfl rfl (by decide +kernel) ⟨Nat.le_of_ble_eq_true rfl, Nat.le_of_ble_eq_true rfl⟩) (ro_preV hK hP hP (ci := 4) (q0 := 0) rfl rfl) rfl rfl hl.1 rfl (lv_room (Nat.le_of_ble_eq_true rfl)) dX4_save_17 ⟨Nat.zero_le _, Nat.zero_le _⟩) (fun r_2 hr_2 => ?_)
    refine lv_if_eq (tgt := 33) hx hb dX4_save_20 (by decide) (fun c_20 => ?_) (fun c_20 => ?_)
    · skip
      have c_20 := b2_z hr_2 c_20
      exact Bool.noConfusion (hset.symm.trans c_20)
    · skip
      have c_20 := b2_n hr_2 c_20
      refine lv_iload_n hx hb dX4_save_23 rfl (lv_at hl 2 rfl) ?_
      refine lv_i2l hx hb dX4_save_24 rfl ?_
      refine lv_lconst (v := 0) hx hb dX4_save_25 (by decide) ?_
      refine lv_lconst (v := 1) hx hb dX4_save_26 (by decide) ?_
      refine ro_calli (va_runS (As := [.long what.toInt64, .long 0, .long 1]) (rest := []) ⟨hx, hb, hml, hown, hts⟩ (c_X4_in l G what.toInt64 0 1 ) (cwS 3 hts gX4_save_X4_in rfl rfl rfl (by decide +kernel) ⟨Nat.le_of_ble_eq_true rfl, Nat.le_of_ble_eq_true rfl⟩) (ro_pre hK (fun k q h => by simp at h)) rfl rfl hl.1 rfl (lv_room (Nat.le_of_ble_eq_true rfl)) dX4_save_27 ⟨Nat.zero_le _, Nat.zero_le _⟩) (fun r_3 hr_3 => ?_)
      refine lv_if_ne (tgt := 36) hx hb dX4_save_30 (by decide) (fun c_30 => ?_) (fun c_30 => ?_)
      · skip
        have c_30 := b2_n hr_3 c_30
        refine lv_aload_n hx hb dX4_save_36 rfl (lv_at hl 0 rfl) ?_
        refine lv_iload_n hx hb dX4_save_37 rfl (lv_at hl 1 rfl) ?_
        refine lv_aload_n hx hb dX4_save_38 rfl (lv_at hl 0 rfl) ?_
        refine lv_iload_n hx hb dX4_save_39 rfl (lv_at hl 1 rfl) ?_
        refine ro_calli (va_runV (As := [.int (nI O)]) (rest := [.int (nI O), .ref m]) ⟨hx, hb, hml, hown, hts⟩ (c_X4_guestsOf l G m q (upd S 0 0) f (nI O) N M (hN) (hN8) (hM) (hM5)) (cwV 1 hts gX4_save_X4_guestsOf rfl rfl rfl (by decide +kernel) ⟨Nat.le_of_ble_eq_true rfl, Nat.le_of_ble_eq_true rfl⟩) (ro_preV hK hP hP (ci := 4) (q0 := 0) rfl rfl) rfl rfl hl.1 rfl (lv_room (Nat.le_of_ble_eq_true rfl)) dX4_save_40 ⟨Nat.zero_le _, Nat.zero_le _⟩) (fun r_4 hr_4 => ?_)
        refine lz_top (y := gstM f (nI O) N M) hr_4 ?_
        refine ro_calli (va_runV (As := [.int (nI O), .int (gstM f (nI O) N M)]) (rest := []) ⟨hx, hb, hml, hown, hts⟩ (c_X4_fewestOf l G m q (upd S 0 0) f O (gstM f (nI O) N M) N M (hN) (hN8) (hM) (hM5) (hO)) (cwV 2 hts gX4_save_X4_fewestOf rfl rfl rfl (by decide +kernel) ⟨Nat.le_of_ble_eq_true rfl, Nat.le_of_ble_eq_true rfl⟩) (ro_preV hK hP hP (ci := 4) (q0 := 0) rfl rfl) rfl rfl hl.1 rfl (lv_room (Nat.le_of_ble_eq_true rfl)) dX4_save_43 ⟨Nat.zero_le _, Nat.zero_le _⟩) (fun r_5 hr_5 => ?_)
        refine lz_top (y := fewM f (nI O) (gstM f (nI O) N M) N M (O + 1)) hr_5 ?_
        refine lv_istore_n (lv' := [(3, .int (fewM f (nI O) (gstM f (nI O) N M) N M (O + 1))), (0, .ref m), (1, .int (nI O)), (2, .int what)]) hx hb dX4_save_46 rfl hl (by decide) rfl (fun ls hl => ?_)
        refine lv_iload_n hx hb dX4_save_47 rfl (lv_at hl 3 rfl) ?_
        refine lv_iconst (v := 1) hx hb dX4_save_48 (by decide) ?_
        refine lv_icmp_ne (tgt := 56) hx hb dX4_save_49 (by decide) (fun c_49 => ?_) (fun c_49 => ?_)
        · skip
          refine lv_iload_n hx hb dX4_save_56 rfl (lv_at hl 0 rfl) ?_
          refine ro_calli (va_runS (As := [.int (fewM f (nI O) (gstM f (nI O) N M) N M (O + 1))]) (rest := []) ⟨hx, hb, hml, hown, hts⟩ (c_X4_bits l G (fewM f (nI O) (gstM f (nI O) N M) N M (O + 1)) ) (cwS 1 hts gX4_save_X4_bits rfl rfl rfl (by decide +kernel) ⟨Nat.le_of_ble_eq_true rfl, Nat.le_of_ble_eq_true rfl⟩) (ro_pre hK (fun k q h => by simp at h)) rfl rfl hl.1 rfl (lv_room (Nat.le_of_ble_eq_true rfl)) dX4_save_57 ⟨Nat.zero_le _, Nat.zero_le _⟩) (fun r_6 hr_6 => ?_)
          refine lz_top (y := bitM (fewM f (nI O) (gstM f (nI O) N M) N M (O + 1))) hr_6 ?_
          exact rw_iret (S := Unit) (G := G) (Wd := fun _ : Unit => (lzM m q (upd S 0 0) ++ lzI G (q 5) 64 f)) () hx hb hr hlk dX4_save_60 hS (hP) (by first | rw [if_pos c_49] | rw [if_neg c_49])
        · skip
          refine lv_iload_n hx hb dX4_save_52 rfl (lv_at hl 0 rfl) ?_
          refine lv_goto (tgt := 60) hx hb dX4_save_53 (by decide) ?_
          exact rw_iret (S := Unit) (G := G) (Wd := fun _ : Unit => (lzM m q (upd S 0 0) ++ lzI G (q 5) 64 f)) () hx hb hr hlk dX4_save_60 hS (hP) (by first | rw [if_pos c_49] | rw [if_neg c_49])
      · skip
        have c_30 := b2_z hr_3 c_30
        exact Bool.noConfusion (hwL.symm.trans c_30)
  · skip
    have c_9 := b2_z hr_1 c_9
    exact Bool.noConfusion (hR.symm.trans c_9)
set_option maxHeartbeats 4000000 in
set_option maxRecDepth 100000 in
theorem c_X4_trace_bad (l : Launch) (G : lzG) (m : Nat) (q : Nat → Nat) (S : Nat → Int32) (t : Nat → Int32) (i : Int32) (hbad : inR i 0 (S 23 - 1) = false) : Met l yX4_trace wsX4_trace ({ frames := 1, cells := 0, slots := 0, locals := 25 }) (va_Pc [.ref m, .int i] (rwP G (lzM m q S ++ lzI G (q 22) 16 t))) (va_Qi (S := Unit) (fun (r : Int32) (_ : Unit) => r = -1000000) (rwB G (fun _ : Unit => (lzM m q (upd S 0 0) ++ lzI G (q 22) 16 t))) (lzA (lzM m q S ++ lzI G (q 22) 16 t))) 0 0 (lzA (lzM m q S ++ lzI G (q 22) 16 t)) := by
  have hbL : inL i.toInt64 0 (S 23 - 1).toInt64 = false := (inL_of i 0 (S 23 - 1)).trans hbad
  refine rw_start (S := Unit) (cc := cX4_trace) (maxL := 2) (ret := (some .int)) (by decide) rfl (Nat.le_of_ble_eq_true rfl) ?_
  intro pp ee ss mm bl me cd A hx hb hr hlk hml hts hown hP hK hD hAe hS ls hl
  have hA0 : ∀ zz : Nat, lzA (lzM m q S ++ lzI G (q 22) 16 t) zz → A zz := fun zz h9 => by rw [hAe]; exact h9
  rw [← hAe]
  clear hAe
  have hown : ss.vm.findClass RX4 = some mm.cls := hown
  have hw1 := hts (.fieldLink RX4 48 "LampSquaresModel" "thrown" "I") (List.mem_of_getElem? (i := 1) rfl)
  have hw2 := hts (.fieldLink RX4 263 "LampSquaresModel" "traced" "I") (List.mem_of_getElem? (i := 2) rfl)
  have hw4 := hts (.constant RX4 91 (-1000000)) (List.mem_of_getElem? (i := 4) rfl)
  have hu_wsX40 : ∀ w ∈ wsX40, w.before ([.ref m, .int i] : List Value).toArray ss = true := fun w h9 => hts w (List.mem_cons_of_mem _ (List.mem_append_right _ h9))
  have hl : lv_has ls 2 [(0, .ref m), (1, .int i)] := hl
  refine lv_aload_n hx hb dX4_trace_0 rfl (lv_at hl 0 rfl) ?_
  refine lv_iconst (v := 0) hx hb dX4_trace_1 (by decide) ?_
  refine lz_put (G := G) (ci := 4) (C := RX4) (T := TX4) (N := 24) hx hb hu_wsX40 (fun _ h9 => h9) tyX4 tyX4_ok nmX4 hown hK hP hD hS 0 rfl rfl 0 (by decide) hw1 rfl rfl (by decide +kernel) (Nat.le_of_ble_eq_true rfl) dX4_trace_2 (lzM m q (upd S 0 0) ++ lzI G (q 22) 16 t) rfl (fun H locs hP hD hS => ?_)
  refine lv_iload_n hx hb dX4_trace_5 rfl (lv_at hl 1 rfl) ?_
  refine lv_i2l hx hb dX4_trace_6 rfl ?_
  refine lv_lconst (v := 0) hx hb dX4_trace_7 (by decide) ?_
  refine lv_aload_n hx hb dX4_trace_8 rfl (lv_at hl 0 rfl) ?_
  refine lz_get (G := G) (ci := 4) (v := .int (S 23)) (C := RX4) (T := TX4) (N := 24) hx hb hu_wsX40 (fun _ h9 => h9) hown hK hP 0 rfl rfl 23 (by decide) hw2 rfl rfl dX4_trace_9 ?_
  refine lv_iconst (v := 1) hx hb dX4_trace_12 (by decide) ?_
  refine lv_isub hx hb dX4_trace_13 ?_
  refine lv_i2l hx hb dX4_trace_14 rfl ?_
  refine ro_calli (va_runS (As := [.long i.toInt64, .long 0, .long (((S 23) - 1).toInt64)]) (rest := []) ⟨hx, hb, hml, hown, hts⟩ (c_X4_in l G i.toInt64 0 (((S 23) - 1).toInt64) ) (cwS 3 hts gX4_trace_X4_in rfl rfl rfl (by decide +kernel) ⟨Nat.le_of_ble_eq_true rfl, Nat.le_of_ble_eq_true rfl⟩) (ro_pre hK (fun k q h => by simp at h)) rfl rfl hl.1 rfl (lv_room (Nat.le_of_ble_eq_true rfl)) dX4_trace_15 ⟨Nat.zero_le _, Nat.zero_le _⟩) (fun r_1 hr_1 => ?_)
  refine lv_if_eq (tgt := 30) hx hb dX4_trace_18 (by decide) (fun c_18 => ?_) (fun c_18 => ?_)
  · skip
    have c_18 := b2_z hr_1 c_18
    refine lv_ldc hx hb hown hw4 dX4_trace_30 ?_
    exact rw_iret (S := Unit) (G := G) (Wd := fun _ : Unit => (lzM m q (upd S 0 0) ++ lzI G (q 22) 16 t)) () hx hb hr hlk dX4_trace_32 hS (hP) (rfl)
  · skip
    have c_18 := b2_n hr_1 c_18
    exact Bool.noConfusion (hbL.symm.trans c_18)
set_option maxHeartbeats 4000000 in
set_option maxRecDepth 100000 in
theorem c_X4_trace_ok (l : Launch) (G : lzG) (m : Nat) (q : Nat → Nat) (S : Nat → Int32) (t : Nat → Int32) (i T : Nat) (hT : S 23 = nI T) (hT16 : T ≤ 16) (hi : i < T) : Met l yX4_trace wsX4_trace ({ frames := 1, cells := 0, slots := 0, locals := 25 }) (va_Pc [.ref m, .int (nI i)] (rwP G (lzM m q S ++ lzI G (q 22) 16 t))) (va_Qi (S := Unit) (fun (r : Int32) (_ : Unit) => r = t i) (rwB G (fun _ : Unit => (lzM m q (upd S 0 0) ++ lzI G (q 22) 16 t))) (lzA (lzM m q S ++ lzI G (q 22) 16 t))) 0 0 (lzA (lzM m q S ++ lzI G (q 22) 16 t)) := by
  have hA : inL (nI i).toInt64 0 (S 23 - 1).toInt64 = true := (inL_of (nI i) 0 (S 23 - 1)).trans (inR_ok hT hi (by omega))
  refine rw_start (S := Unit) (cc := cX4_trace) (maxL := 2) (ret := (some .int)) (by decide) rfl (Nat.le_of_ble_eq_true rfl) ?_
  intro pp ee ss mm bl me cd A hx hb hr hlk hml hts hown hP hK hD hAe hS ls hl
  have hA0 : ∀ zz : Nat, lzA (lzM m q S ++ lzI G (q 22) 16 t) zz → A zz := fun zz h9 => by rw [hAe]; exact h9
  rw [← hAe]
  clear hAe
  have hown : ss.vm.findClass RX4 = some mm.cls := hown
  have hw1 := hts (.fieldLink RX4 48 "LampSquaresModel" "thrown" "I") (List.mem_of_getElem? (i := 1) rfl)
  have hw2 := hts (.fieldLink RX4 263 "LampSquaresModel" "traced" "I") (List.mem_of_getElem? (i := 2) rfl)
  have hw3 := hts (.fieldLink RX4 45 "LampSquaresModel" "trace" "[I") (List.mem_of_getElem? (i := 3) rfl)
  have hu_wsX40 : ∀ w ∈ wsX40, w.before ([.ref m, .int (nI i)] : List Value).toArray ss = true := fun w h9 => hts w (List.mem_cons_of_mem _ (List.mem_append_right _ h9))
  have hl : lv_has ls 2 [(0, .ref m), (1, .int (nI i))] := hl
  refine lv_aload_n hx hb dX4_trace_0 rfl (lv_at hl 0 rfl) ?_
  refine lv_iconst (v := 0) hx hb dX4_trace_1 (by decide) ?_
  refine lz_put (G := G) (ci := 4) (C := RX4) (T := TX4) (N := 24) hx hb hu_wsX40 (fun _ h9 => h9) tyX4 tyX4_ok nmX4 hown hK hP hD hS 0 rfl rfl 0 (by decide) hw1 rfl rfl (by decide +kernel) (Nat.le_of_ble_eq_true rfl) dX4_trace_2 (lzM m q (upd S 0 0) ++ lzI G (q 22) 16 t) rfl (fun H locs hP hD hS => ?_)
  refine lv_iload_n hx hb dX4_trace_5 rfl (lv_at hl 1 rfl) ?_
  refine lv_i2l hx hb dX4_trace_6 rfl ?_
  refine lv_lconst (v := 0) hx hb dX4_trace_7 (by decide) ?_
  refine lv_aload_n hx hb dX4_trace_8 rfl (lv_at hl 0 rfl) ?_
  refine lz_get (G := G) (ci := 4) (v := .int (S 23)) (C := RX4) (T := TX4) (N := 24) hx hb hu_wsX40 (fun _ h9 => h9) hown hK hP 0 rfl rfl 23 (by decide) hw2 rfl rfl dX4_trace_9 ?_
  refine lv_iconst (v := 1) hx hb dX4_trace_12 (by decide) ?_
  refine lv_isub hx hb dX4_trace_13 ?_
  refine lv_i2l hx hb dX4_trace_14 rfl ?_
  refine ro_calli (va_runS (As := [.long ((nI i).toInt64), .long 0, .long (((S 23) - 1).toInt64)]) (rest := []) ⟨hx, hb, hml, hown, hts⟩ (c_X4_in l G ((nI i).toInt64) 0 (((S 23) - 1).toInt64) ) (cwS 3 hts gX4_trace_X4_in rfl rfl rfl (by decide +kernel) ⟨Nat.le_of_ble_eq_true rfl, Nat.le_of_ble_eq_true rfl⟩) (ro_pre hK (fun k q h => by simp at h)) rfl rfl hl.1 rfl (lv_room (Nat.le_of_ble_eq_true rfl)) dX4_trace_15 ⟨Nat.zero_le _, Nat.zero_le _⟩) (fun r_1 hr_1 => ?_)
  refine lv_if_eq (tgt := 30) hx hb dX4_trace_18 (by decide) (fun c_18 => ?_) (fun c_18 => ?_)
  · skip
    have c_18 := b2_z hr_1 c_18
    exact Bool.noConfusion (hA.symm.trans c_18)
  · skip
    have c_18 := b2_n hr_1 c_18
    refine lv_aload_n hx hb dX4_trace_21 rfl (lv_at hl 0 rfl) ?_
    refine lz_get (G := G) (ci := 4) (v := .ref (q 22)) (C := RX4) (T := TX4) (N := 24) hx hb hu_wsX40 (fun _ h9 => h9) hown hK hP 0 rfl rfl 22 (by decide) hw3 rfl rfl dX4_trace_22 ?_
    refine lv_iload_n hx hb dX4_trace_25 rfl (lv_at hl 1 rfl) ?_
    refine lz_iald (f := t) hx hb hK hP 1 rfl i (by omega) (Nat.le_of_ble_eq_true rfl) dX4_trace_26 ?_
    refine lv_goto (tgt := 32) hx hb dX4_trace_27 (by decide) ?_
    exact rw_iret (S := Unit) (G := G) (Wd := fun _ : Unit => (lzM m q (upd S 0 0) ++ lzI G (q 22) 16 t)) () hx hb hr hlk dX4_trace_32 hS (hP) (rfl)
