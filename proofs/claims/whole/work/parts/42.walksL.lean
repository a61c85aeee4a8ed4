set_option maxHeartbeats 4000000 in
set_option maxRecDepth 100000 in
theorem c_X4_image_bad (l : Launch) (G : lzG) (m : Nat) (q : Nat → Nat) (S : Nat → Int32) (f ik kp : Nat → Int32) (a : Int32) (hbad : inR a 0 1 = false) : Met l yX4_image wsX4_image ({ frames := 1, cells := 0, slots := 0, locals := 25 }) (va_Pc [.ref m, .int a] (rwP G (lzM m q S ++ (lzI G (q 5) 64 f ++ (lzZ G (q 20) 2 ik ++ (lzI G (q 21) 128 kp)))))) (va_Qi (S := Unit) (fun (r : Int32) (_ : Unit) => r = -1000001) (rwB G (fun _ : Unit => (lzM m q (upd S 0 0) ++ (lzI G (q 5) 64 f ++ (lzZ G (q 20) 2 ik ++ (lzI G (q 21) 128 kp)))))) (lzA (lzM m q S ++ (lzI G (q 5) 64 f ++ (lzZ G (q 20) 2 ik ++ (lzI G (q 21) 128 kp)))))) 0 0 (lzA (lzM m q S ++ (lzI G (q 5) 64 f ++ (lzZ G (q 20) 2 ik ++ (lzI G (q 21) 128 kp))))) := by
  have hbL : inL a.toInt64 0 1 = false := (inL_of a 0 1).trans hbad
  refine rw_start (S := Unit) (cc := cX4_image) (maxL := 3) (ret := (some .int)) (by decide) rfl (Nat.le_of_ble_eq_true rfl) ?_
  intro pp ee ss mm bl me cd A hx hb hr hlk hml hts hown hP hK hD hAe hS ls hl
  have hA0 : ∀ zz : Nat, lzA (lzM m q S ++ (lzI G (q 5) 64 f ++ (lzZ G (q 20) 2 ik ++ (lzI G (q 21) 128 kp)))) zz → A zz := fun zz h9 => by rw [hAe]; exact h9
  rw [← hAe]
  clear hAe
  have hown : ss.vm.findClass RX4 = some mm.cls := hown
  have hw1 := hts (.fieldLink RX4 48 "LampSquaresModel" "thrown" "I") (List.mem_of_getElem? (i := 1) rfl)
  have hw2 := hts (.constant RX4 68 (-1000001)) (List.mem_of_getElem? (i := 2) rfl)
  have hu_wsX40 : ∀ w ∈ wsX40, w.before ([.ref m, .int a] : List Value).toArray ss = true := fun w h9 => hts w (List.mem_cons_of_mem _ (List.mem_append_right _ h9))
  have hl : lv_has ls 3 [(0, .ref m), (1, .int a)] := hl
  refine lv_aload_n hx hb dX4_image_0 rfl (lv_at hl 0 rfl) ?_
  refine lv_iconst (v := 0) hx hb dX4_image_1 (by decide) ?_
  refine lz_put (G := G) (ci := 4) (C := RX4) (T := TX4) (N := 24) hx hb hu_wsX40 (fun _ h9 => h9) tyX4 tyX4_ok nmX4 hown hK hP hD hS 0 rfl rfl 0 (by decide) hw1 rfl rfl (by decide +kernel) (Nat.le_of_ble_eq_true rfl) dX4_image_2 (lzM m q (upd S 0 0) ++ (lzI G (q 5) 64 f ++ (lzZ G (q 20) 2 ik ++ (lzI G (q 21) 128 kp)))) rfl (fun H locs hP hD hS => ?_)
  refine lv_iload_n hx hb dX4_image_5 rfl (lv_at hl 1 rfl) ?_
  refine lv_i2l hx hb dX4_image_6 rfl ?_
  refine lv_lconst (v := 0) hx hb dX4_image_7 (by decide) ?_
  refine lv_lconst (v := 1) hx hb dX4_image_8 (by decide) ?_
  refine ro_calli (va_runS (As := [.long a.toInt64, .long 0, .long 1]) (rest := []) ⟨hx, hb, hml, hown, hts⟩ (c_X4_in l G a.toInt64 0 1 ) (cwS 3 hts gX4_image_X4_in rfl rfl rfl (by decide +kernel) ⟨Nat.le_of_ble_eq_true rfl, Nat.le_of_ble_eq_true rfl⟩) (ro_pre hK (fun k q h => by simp at h)) rfl rfl hl.1 rfl (lv_room (Nat.le_of_ble_eq_true rfl)) dX4_image_9 ⟨Nat.zero_le _, Nat.zero_le _⟩) (fun r_1 hr_1 => ?_)
  refine lv_if_ne (tgt := 18) hx hb dX4_image_12 (by decide) (fun c_12 => ?_) (fun c_12 => ?_)
  · skip
    have c_12 := b2_n hr_1 c_12
    exact Bool.noConfusion (hbL.symm.trans c_12)
  · skip
    have c_12 := b2_z hr_1 c_12
    refine lv_ldc hx hb hown hw2 dX4_image_15 ?_
    exact rw_iret (S := Unit) (G := G) (Wd := fun _ : Unit => (lzM m q (upd S 0 0) ++ (lzI G (q 5) 64 f ++ (lzZ G (q 20) 2 ik ++ (lzI G (q 21) 128 kp))))) () hx hb hr hlk dX4_image_17 hS (hP) (rfl)
set_option maxHeartbeats 4000000 in
set_option maxRecDepth 100000 in
theorem c_X4_restore_bad (l : Launch) (G : lzG) (m : Nat) (q : Nat → Nat) (S : Nat → Int32) (f ik kp : Nat → Int32) (a : Int32) (hbad : inR a 0 1 = false) : Met l yX4_restore wsX4_restore ({ frames := 1, cells := 0, slots := 0, locals := 25 }) (va_Pc [.ref m, .int a] (rwP G (lzM m q S ++ (lzI G (q 5) 64 f ++ (lzZ G (q 20) 2 ik ++ (lzI G (q 21) 128 kp)))))) (va_Qi (S := Unit) (fun (r : Int32) (_ : Unit) => r = -1000001) (rwB G (fun _ : Unit => (lzM m q (upd S 0 0) ++ (lzI G (q 5) 64 f ++ (lzZ G (q 20) 2 ik ++ (lzI G (q 21) 128 kp)))))) (lzA (lzM m q S ++ (lzI G (q 5) 64 f ++ (lzZ G (q 20) 2 ik ++ (lzI G (q 21) 128 kp)))))) 0 0 (lzA (lzM m q S ++ (lzI G (q 5) 64 f ++ (lzZ G (q 20) 2 ik ++ (lzI G (q 21) 128 kp))))) := by
  have hbL : inL a.toInt64 0 1 = false := (inL_of a 0 1).trans hbad
  refine rw_start (S := Unit) (cc := cX4_restore) (maxL := 3) (ret := (some .int)) (by decide) rfl (Nat.le_of_ble_eq_true rfl) ?_
  intro pp ee ss mm bl me cd A hx hb hr hlk hml hts hown hP hK hD hAe hS ls hl
  have hA0 : ∀ zz : Nat, lzA (lzM m q S ++ (lzI G (q 5) 64 f ++ (lzZ G (q 20) 2 ik ++ (lzI G (q 21) 128 kp)))) zz → A zz := fun zz h9 => by rw [hAe]; exact h9
  rw [← hAe]
  clear hAe
  have hown : ss.vm.findClass RX4 = some mm.cls := hown
  have hw1 := hts (.fieldLink RX4 48 "LampSquaresModel" "thrown" "I") (List.mem_of_getElem? (i := 1) rfl)
  have hw2 := hts (.constant RX4 68 (-1000001)) (List.mem_of_getElem? (i := 2) rfl)
  have hu_wsX40 : ∀ w ∈ wsX40, w.before ([.ref m, .int a] : List Value).toArray ss = true := fun w h9 => hts w (List.mem_cons_of_mem _ (List.mem_append_right _ h9))
  have hl : lv_has ls 3 [(0, .ref m), (1, .int a)] := hl
  refine lv_aload_n hx hb dX4_restore_0 rfl (lv_at hl 0 rfl) ?_
  refine lv_iconst (v := 0) hx hb dX4_restore_1 (by decide) ?_
  refine lz_put (G := G) (ci := 4) (C := RX4) (T := TX4) (N := 24) hx hb hu_wsX40 (fun _ h9 => h9) tyX4 tyX4_ok nmX4 hown hK hP hD hS 0 rfl rfl 0 (by decide) hw1 rfl rfl (by decide +kernel) (Nat.le_of_ble_eq_true rfl) dX4_restore_2 (lzM m q (upd S 0 0) ++ (lzI G (q 5) 64 f ++ (lzZ G (q 20) 2 ik ++ (lzI G (q 21) 128 kp)))) rfl (fun H locs hP hD hS => ?_)
  refine lv_iload_n hx hb dX4_restore_5 rfl (lv_at hl 1 rfl) ?_
  refine lv_i2l hx hb dX4_restore_6 rfl ?_
  refine lv_lconst (v := 0) hx hb dX4_restore_7 (by decide) ?_
  refine lv_lconst (v := 1) hx hb dX4_restore_8 (by decide) ?_
  refine ro_calli (va_runS (As := [.long a.toInt64, .long 0, .long 1]) (rest := []) ⟨hx, hb, hml, hown, hts⟩ (c_X4_in l G a.toInt64 0 1 ) (cwS 3 hts gX4_restore_X4_in rfl rfl rfl (by decide +kernel) ⟨Nat.le_of_ble_eq_true rfl, Nat.le_of_ble_eq_true rfl⟩) (ro_pre hK (fun k q h => by simp at h)) rfl rfl hl.1 rfl (lv_room (Nat.le_of_ble_eq_true rfl)) dX4_restore_9 ⟨Nat.zero_le _, Nat.zero_le _⟩) (fun r_1 hr_1 => ?_)
  refine lv_if_ne (tgt := 18) hx hb dX4_restore_12 (by decide) (fun c_12 => ?_) (fun c_12 => ?_)
  · skip
    have c_12 := b2_n hr_1 c_12
    exact Bool.noConfusion (hbL.symm.trans c_12)
  · skip
    have c_12 := b2_z hr_1 c_12
    refine lv_ldc hx hb hown hw2 dX4_restore_15 ?_
    exact rw_iret (S := Unit) (G := G) (Wd := fun _ : Unit => (lzM m q (upd S 0 0) ++ (lzI G (q 5) 64 f ++ (lzZ G (q 20) 2 ik ++ (lzI G (q 21) 128 kp))))) () hx hb hr hlk dX4_restore_17 hS (hP) (rfl)
set_option maxHeartbeats 4000000 in
set_option maxRecDepth 100000 in
theorem c_X4_image_state (l : Launch) (G : lzG) (m : Nat) (q : Nat → Nat) (S : Nat → Int32) (f ik kp : Nat → Int32) (im : Nat) (him : im < 2) (hR : (decide (0 < f 0)) = false) : Met l yX4_image wsX4_image ({ frames := 1, cells := 0, slots := 0, locals := 25 }) (va_Pc [.ref m, .int (nI im)] (rwP G (lzM m q S ++ (lzI G (q 5) 64 f ++ (lzZ G (q 20) 2 ik ++ (lzI G (q 21) 128 kp)))))) (va_Qi (S := Unit) (fun (r : Int32) (_ : Unit) => r = -1000002) (rwB G (fun _ : Unit => (lzM m q (upd S 0 0) ++ (lzI G (q 5) 64 f ++ (lzZ G (q 20) 2 ik ++ (lzI G (q 21) 128 kp)))))) (lzA (lzM m q S ++ (lzI G (q 5) 64 f ++ (lzZ G (q 20) 2 ik ++ (lzI G (q 21) 128 kp)))))) 0 0 (lzA (lzM m q S ++ (lzI G (q 5) 64 f ++ (lzZ G (q 20) 2 ik ++ (lzI G (q 21) 128 kp))))) := by
  have hiL : inL (nI im).toInt64 0 1 = true := (by decide +kernel : ∀ k, k < 2 → inL (nI k).toInt64 0 1 = true) im him
  refine rw_start (S := Unit) (cc := cX4_image) (maxL := 3) (ret := (some .int)) (by decide) rfl (Nat.le_of_ble_eq_true rfl) ?_
  intro pp ee ss mm bl me cd A hx hb hr hlk hml hts hown hP hK hD hAe hS ls hl
  have hA0 : ∀ zz : Nat, lzA (lzM m q S ++ (lzI G (q 5) 64 f ++ (lzZ G (q 20) 2 ik ++ (lzI G (q 21) 128 kp)))) zz → A zz := fun zz h9 => by rw [hAe]; exact h9
  rw [← hAe]
  clear hAe
  have hown : ss.vm.findClass RX4 = some mm.cls := hown
  have hw1 := hts (.fieldLink RX4 48 "LampSquaresModel" "thrown" "I") (List.mem_of_getElem? (i := 1) rfl)
  have hw3 := hts (.constant RX4 204 (-1000002)) (List.mem_of_getElem? (i := 3) rfl)
  have hu_wsX40 : ∀ w ∈ wsX40, w.before ([.ref m, .int (nI im)] : List Value).toArray ss = true := fun w h9 => hts w (List.mem_cons_of_mem _ (List.mem_append_right _ h9))
  have hl : lv_has ls 3 [(0, .ref m), (1, .int (nI im))] := hl
  refine lv_aload_n hx hb dX4_image_0 rfl (lv_at hl 0 rfl) ?_
  refine lv_iconst (v := 0) hx hb dX4_image_1 (by decide) ?_
  refine lz_put (G := G) (ci := 4) (C := RX4) (T := TX4) (N := 24) hx hb hu_wsX40 (fun _ h9 => h9) tyX4 tyX4_ok nmX4 hown hK hP hD hS 0 rfl rfl 0 (by decide) hw1 rfl rfl (by decide +kernel) (Nat.le_of_ble_eq_true rfl) dX4_image_2 (lzM m q (upd S 0 0) ++ (lzI G (q 5) 64 f ++ (lzZ G (q 20) 2 ik ++ (lzI G (q 21) 128 kp)))) rfl (fun H locs hP hD hS => ?_)
  refine lv_iload_n hx hb dX4_image_5 rfl (lv_at hl 1 rfl) ?_
  refine lv_i2l hx hb dX4_image_6 rfl ?_
  refine lv_lconst (v := 0) hx hb dX4_image_7 (by decide) ?_
  refine lv_lconst (v := 1) hx hb dX4_image_8 (by decide) ?_
  refine ro_calli (va_runS (As := [.long ((nI im).toInt64), .long 0, .long 1]) (rest := []) ⟨hx, hb, hml, hown, hts⟩ (c_X4_in l G ((nI im).toInt64) 0 1 ) (cwS 3 hts gX4_image_X4_in rfl rfl rfl (by decide +kernel) ⟨Nat.le_of_ble_eq_true rfl, Nat.le_of_ble_eq_true rfl⟩) (ro_pre hK (fun k q h => by simp at h)) rfl rfl hl.1 rfl (lv_room (Nat.le_of_ble_eq_true rfl)) dX4_image_9 ⟨Nat.zero_le _, Nat.zero_le _⟩) (fun r_1 hr_1 => ?_)
  refine lv_if_ne (tgt := 18) hx hb dX4_image_12 (by decide) (fun c_12 => ?_) (fun c_12 => ?_)
  · skip
    have c_12 := b2_n hr_1 c_12
    refine lv_aload_n hx hb dX4_image_18 rfl (lv_at hl 0 rfl) ?_
    have hPc := hP.sub (ws' := (lzM m q (upd S 0 0) ++ lzI G (q 5) 64 f)) [0, 1] rfl
    refine ro_calli (va_runV (As := []) (rest := []) ⟨hx, hb, hml, hown, hts⟩ (c_X4_isThere l G m q (upd S 0 0) f ) (cwV 0 hts gX4_image_X4_isThere rfl rfl rfl (by decide +kernel) ⟨Nat.le_of_ble_eq_true rfl, Nat.le_of_ble_eq_true rfl⟩) (ro_preV hK hPc hP (ci := 4) (q0 := 0) rfl rfl) rfl rfl hl.1 rfl (lv_room (Nat.le_of_ble_eq_true rfl)) dX4_image_19 ⟨Nat.zero_le _, Nat.zero_le _⟩) (fun r_2 hr_2 => ?_)
    refine lv_if_ne (tgt := 28) hx hb dX4_image_22 (by decide) (fun c_22 => ?_) (fun c_22 => ?_)
    · skip
      have c_22 := b2_n hr_2 c_22
      exact Bool.noConfusion (hR.symm.trans c_22)
    · skip
      have c_22 := b2_z hr_2 c_22
      refine lv_ldc hx hb hown hw3 dX4_image_25 ?_
      exact rw_iret (S := Unit) (G := G) (Wd := fun _ : Unit => (lzM m q (upd S 0 0) ++ (lzI G (q 5) 64 f ++ (lzZ G (q 20) 2 ik ++ (lzI G (q 21) 128 kp))))) () hx hb hr hlk dX4_image_27 hS (hP) (rfl)
  · skip
    have c_12 := b2_z hr_1 c_12
    exact Bool.noConfusion (hiL.symm.trans c_12)
set_option maxHeartbeats 4000000 in
set_option maxRecDepth 100000 in
theorem c_X4_image_ok (l : Launch) (G : lzG) (m : Nat) (q : Nat → Nat) (S : Nat → Int32) (f ik kp : Nat → Int32) (im : Nat) (him : im < 2) (hR : (decide (0 < f 0)) = true) : Met l yX4_image wsX4_image ({ frames := 1, cells := 0, slots := 0, locals := 25 }) (va_Pc [.ref m, .int (nI im)] (rwP G (lzM m q S ++ (lzI G (q 5) 64 f ++ (lzZ G (q 20) 2 ik ++ (lzI G (q 21) 128 kp)))))) (va_Qi (S := Unit) (fun (r : Int32) (_ : Unit) => r = 1) (rwB G (fun _ : Unit => (lzM m q (upd S 0 0) ++ (lzI G (q 5) 64 f ++ (lzZ G (q 20) 2 (upd ik im 1) ++ (lzI G (q 21) 128 (putW kp f im 64))))))) (lzA (lzM m q S ++ (lzI G (q 5) 64 f ++ (lzZ G (q 20) 2 ik ++ (lzI G (q 21) 128 kp)))))) 0 0 (lzA (lzM m q S ++ (lzI G (q 5) 64 f ++ (lzZ G (q 20) 2 ik ++ (lzI G (q 21) 128 kp))))) := by
  have hiL : inL (nI im).toInt64 0 1 = true := (by decide +kernel : ∀ k, k < 2 → inL (nI k).toInt64 0 1 = true) im him
  refine rw_start (S := Unit) (cc := cX4_image) (maxL := 3) (ret := (some .int)) (by decide) rfl (Nat.le_of_ble_eq_true rfl) ?_
  intro pp ee ss mm bl me cd A hx hb hr hlk hml hts hown hP hK hD hAe hS ls hl
  have hA0 : ∀ zz : Nat, lzA (lzM m q S ++ (lzI G (q 5) 64 f ++ (lzZ G (q 20) 2 ik ++ (lzI G (q 21) 128 kp)))) zz → A zz := fun zz h9 => by rw [hAe]; exact h9
  rw [← hAe]
  clear hAe
  have hown : ss.vm.findClass RX4 = some mm.cls := hown
  have hw1 := hts (.fieldLink RX4 48 "LampSquaresModel" "thrown" "I") (List.mem_of_getElem? (i := 1) rfl)
  have hw4 := hts (.fieldLink RX4 42 "LampSquaresModel" "kept" "[I") (List.mem_of_getElem? (i := 4) rfl)
  have hw5 := hts (.fieldLink RX4 19 "LampSquaresModel" "door" "[I") (List.mem_of_getElem? (i := 5) rfl)
  have hw6 := hts (.fieldLink RX4 38 "LampSquaresModel" "isKept" "[Z") (List.mem_of_getElem? (i := 6) rfl)
  have hu_wsX40 : ∀ w ∈ wsX40, w.before ([.ref m, .int (nI im)] : List Value).toArray ss = true := fun w h9 => hts w (List.mem_cons_of_mem _ (List.mem_append_right _ h9))
  have hl : lv_has ls 3 [(0, .ref m), (1, .int (nI im))] := hl
  refine lv_aload_n hx hb dX4_image_0 rfl (lv_at hl 0 rfl) ?_
  refine lv_iconst (v := 0) hx hb dX4_image_1 (by decide) ?_
  refine lz_put (G := G) (ci := 4) (C := RX4) (T := TX4) (N := 24) hx hb hu_wsX40 (fun _ h9 => h9) tyX4 tyX4_ok nmX4 hown hK hP hD hS 0 rfl rfl 0 (by decide) hw1 rfl rfl (by decide +kernel) (Nat.le_of_ble_eq_true rfl) dX4_image_2 (lzM m q (upd S 0 0) ++ (lzI G (q 5) 64 f ++ (lzZ G (q 20) 2 ik ++ (lzI G (q 21) 128 kp)))) rfl (fun H locs hP hD hS => ?_)
  refine lv_iload_n hx hb dX4_image_5 rfl (lv_at hl 1 rfl) ?_
  refine lv_i2l hx hb dX4_image_6 rfl ?_
  refine lv_lconst (v := 0) hx hb dX4_image_7 (by decide) ?_
  refine lv_lconst (v := 1) hx hb dX4_image_8 (by decide) ?_
  refine ro_calli (va_runS (As := [.long ((nI im).toInt64), .long 0, .long 1]) (rest := []) ⟨hx, hb, hml, hown, hts⟩ (c_X4_in l G ((nI im).toInt64) 0 1 ) (cwS 3 hts gX4_image_X4_in rfl rfl rfl (by decide +kernel) ⟨Nat.le_of_ble_eq_true rfl, Nat.le_of_ble_eq_true rfl⟩) (ro_pre hK (fun k q h => by simp at h)) rfl rfl hl.1 rfl (lv_room (Nat.le_of_ble_eq_true rfl)) dX4_image_9 ⟨Nat.zero_le _, Nat.zero_le _⟩) (fun r_1 hr_1 => ?_)
  refine lv_if_ne (tgt := 18) hx hb dX4_image_12 (by decide) (fun c_12 => ?_) (fun c_12 => ?_)
  · skip
    have c_12 := b2_n hr_1 c_12
    refine lv_aload_n hx hb dX4_image_18 rfl (lv_at hl 0 rfl) ?_
    have hPc := hP.sub (ws' := (lzM m q (upd S 0 0) ++ lzI G (q 5) 64 f)) [0, 1] rfl
    refine ro_calli (va_runV (As := []) (rest := []) ⟨hx, hb, hml, hown, hts⟩ (c_X4_isThere l G m q (upd S 0 0) f ) (cwV 0 hts gX4_image_X4_isThere rfl rfl rfl (by decide +kernel) ⟨Nat.le_of_ble_eq_true rfl, Nat.le_of_ble_eq_true rfl⟩) (ro_preV hK hPc hP (ci := 4) (q0 := 0) rfl rfl) rfl rfl hl.1 rfl (lv_room (Nat.le_of_ble_eq_true rfl)) dX4_image_19 ⟨Nat.zero_le _, Nat.zero_le _⟩) (fun r_2 hr_2 => ?_)
    refine lv_if_ne (tgt := 28) hx hb dX4_image_22 (by decide) (fun c_22 => ?_) (fun c_22 => ?_)
    · skip
      have c_22 := b2_n hr_2 c_22
      refine lv_iconst (v := 0) hx hb dX4_image_28 (by decide) ?_
      refine lv_istore_n (lv' := [(2, .int 0), (0, .ref m), (1, .int (nI im))]) hx hb dX4_image_29 rfl hl (by decide) rfl (fun ls hl => ?_)
      have J_30 : ∀ (n9 : Nat), ∀ (j : Nat), (j ≤ 64) → 64 - j < n9 → ∀ (H : Heap) (locs : List Loc), va_P G.1 lzC (lzM m q (upd S 0 0) ++ (lzI G (q 5) 64 f ++ (lzZ G (q 20) 2 ik ++ (lzI G (q 21) 128 (putW kp f im j))))) H → va_D A (lzM m q (upd S 0 0) ++ (lzI G (q 5) 64 f ++ (lzZ G (q 20) 2 ik ++ (lzI G (q 21) 128 (putW kp f im j))))) → va_S A ss.heap H locs → ∀ ls : Array Slot, lv_has ls 3 [(2, .int (nI j)), (0, .ref m), (1, .int (nI im))] → W pp l ee ({ frames := 1, cells := 0, slots := 0, locals := 25 }) ss mm ([.ref m, .int (nI im)] : List Value).toArray bl me cd H locs 0 0 (MQ bl (va_Qi (S := Unit) (fun (r : Int32) (_ : Unit) => r = 1) (rwB G (fun _ : Unit => (lzM m q (upd S 0 0) ++ (lzI G (q 5) 64 f ++ (lzZ G (q 20) 2 (upd ik im 1) ++ (lzI G (q 21) 128 (putW kp f im 64))))))) A) ([.ref m, .int (nI im)] : List Value).toArray ss 0 0 A) (F0 mm 30 ls []) := by
        intro n9
        induction n9 with
        | zero => intro j hj hn; exact absurd hn (Nat.not_lt_zero _)
        | succ n9 ih_30 =>
          intro j hj hn_30 H locs hP hD hS ls hl
          refine lv_iload_n hx hb dX4_image_30 rfl (lv_at hl 0 rfl) ?_
          refine lv_bipush (v := 64) hx hb dX4_image_31 (by decide) ?_
          refine lv_icmp_ge (tgt := 59) hx hb dX4_image_33 (by decide) (fun c_33 => ?_) (fun c_33 => ?_)
          · skip
            have c_33' := Int32.not_lt.mpr c_33
            have hj2 : 64 ≤ j := lz_ge (N := 64) rfl c_33 (by omega) (by omega)
            have hj3 : j = 64 := by omega
            refine lv_aload_n hx hb dX4_image_59 rfl (lv_at hl 1 rfl) ?_
            refine lz_get (G := G) (ci := 4) (v := .ref (q 20)) (C := RX4) (T := TX4) (N := 24) hx hb hu_wsX40 (fun _ h9 => h9) hown hK hP 0 rfl rfl 20 (by decide) hw6 rfl rfl dX4_image_60 ?_
            refine lv_iload_n hx hb dX4_image_63 rfl (lv_at hl 2 rfl) ?_
            refine lv_iconst (v := 1) hx hb dX4_image_64 (by decide) ?_
            refine lz_zast (f := ik) hx hb hK hP hD hS 2 rfl im (by omega) (Nat.le_of_ble_eq_true rfl) dX4_image_65 (lzM m q (upd S 0 0) ++ (lzI G (q 5) 64 f ++ (lzZ G (q 20) 2 (upd ik im 1) ++ (lzI G (q 21) 128 (putW kp f im j))))) rfl (fun H locs hP hD hS => ?_)
            refine lv_iconst (v := 1) hx hb dX4_image_66 (by decide) ?_
            exact rw_iret (S := Unit) (G := G) (Wd := fun _ : Unit => (lzM m q (upd S 0 0) ++ (lzI G (q 5) 64 f ++ (lzZ G (q 20) 2 (upd ik im 1) ++ (lzI G (q 21) 128 (putW kp f im 64)))))) () hx hb hr hlk dX4_image_67 hS (by rw [hj3] at hP; exact hP) (rfl)
          · skip
            have c_33' := Int32.not_le.mp c_33
            have hj2 : j < 64 := lz_lt (N := 64) rfl c_33 (by omega) (by omega)
            refine lv_aload_n hx hb dX4_image_36 rfl (lv_at hl 1 rfl) ?_
            refine lz_get (G := G) (ci := 4) (v := .ref (q 21)) (C := RX4) (T := TX4) (N := 24) hx hb hu_wsX40 (fun _ h9 => h9) hown hK hP 0 rfl rfl 21 (by decide) hw4 rfl rfl dX4_image_37 ?_
            refine lv_bipush (v := 64) hx hb dX4_image_40 (by decide) ?_
            refine lv_iload_n hx hb dX4_image_42 rfl (lv_at hl 2 rfl) ?_
            refine lv_imul hx hb dX4_image_43 ?_
            refine lv_iload_n hx hb dX4_image_44 rfl (lv_at hl 0 rfl) ?_
            refine lv_iadd hx hb dX4_image_45 ?_
            refine lz_top (y := nI (64 * im + j)) (by simp only [fa_lit, pk_mul, nI_add]) ?_
            refine lv_aload_n hx hb dX4_image_46 rfl (lv_at hl 1 rfl) ?_
            refine lz_get (G := G) (ci := 4) (v := .ref (q 5)) (C := RX4) (T := TX4) (N := 24) hx hb hu_wsX40 (fun _ h9 => h9) hown hK hP 0 rfl rfl 5 (by decide) hw5 rfl rfl dX4_image_47 ?_
            refine lv_iload_n hx hb dX4_image_50 rfl (lv_at hl 0 rfl) ?_
            refine lz_iald (f := f) hx hb hK hP 1 rfl j (by omega) (Nat.le_of_ble_eq_true rfl) dX4_image_51 ?_
            refine lz_iast (f := putW kp f im j) hx hb hK hP hD hS 3 rfl (64 * im + j) (by omega) (Nat.le_of_ble_eq_true rfl) dX4_image_52 (lzM m q (upd S 0 0) ++ (lzI G (q 5) 64 f ++ (lzZ G (q 20) 2 ik ++ (lzI G (q 21) 128 (upd (putW kp f im j) (64 * im + j) (f j)))))) rfl (fun H locs hP hD hS => ?_)
            refine lv_iinc (v := nI (j + 1)) (lv' := [(2, .int (nI (j + 1))), (0, .ref m), (1, .int (nI im))]) hx hb dX4_image_53 hl (k := 0) rfl (nI_1 _) (by decide) rfl (fun ls hl => ?_)
            refine lv_goto (tgt := 30) hx hb dX4_image_56 (by decide) ?_
            have hE_3 : upd (putW kp f im j) (64 * im + j) (f j) = putW kp f im (j + 1) := putW_s _ _ _ _
            replace hP : va_P G.1 lzC (lzM m q (upd S 0 0) ++ (lzI G (q 5) 64 f ++ (lzZ G (q 20) 2 ik ++ (lzI G (q 21) 128 (putW kp f im (j + 1)))))) H := by rw [← hE_3]; exact hP
            replace hD : va_D A (lzM m q (upd S 0 0) ++ (lzI G (q 5) 64 f ++ (lzZ G (q 20) 2 ik ++ (lzI G (q 21) 128 (putW kp f im (j + 1)))))) := by rw [← hE_3]; exact hD
            exact ih_30 (j + 1) (by omega) (by omega) _ _ hP hD hS _ (lv_sub hl [0, 1, 2] rfl)
      have hE_4 : kp = putW kp f im 0 := (putW_0 _ _ _).symm
      replace hP : va_P G.1 lzC (lzM m q (upd S 0 0) ++ (lzI G (q 5) 64 f ++ (lzZ G (q 20) 2 ik ++ (lzI G (q 21) 128 (putW kp f im 0))))) H := by rw [← hE_4]; exact hP
      replace hD : va_D A (lzM m q (upd S 0 0) ++ (lzI G (q 5) 64 f ++ (lzZ G (q 20) 2 ik ++ (lzI G (q 21) 128 (putW kp f im 0))))) := by rw [← hE_4]; exact hD
      exact J_30 _ 0 (by omega) (Nat.lt_succ_self _) _ _ hP hD hS _ (lv_sub hl [0, 1, 2] rfl)
    · skip
      have c_22 := b2_z hr_2 c_22
      exact Bool.noConfusion (hR.symm.trans c_22)
  · skip
    have c_12 := b2_z hr_1 c_12
    exact Bool.noConfusion (hiL.symm.trans c_12)
set_option maxHeartbeats 4000000 in
set_option maxRecDepth 100000 in
theorem c_X4_restore_state (l : Launch) (G : lzG) (m : Nat) (q : Nat → Nat) (S : Nat → Int32) (f ik kp : Nat → Int32) (im : Nat) (him : im < 2) (hno : ik im = 0) : Met l yX4_restore wsX4_restore ({ frames := 1, cells := 0, slots := 0, locals := 25 }) (va_Pc [.ref m, .int (nI im)] (rwP G (lzM m q S ++ (lzI G (q 5) 64 f ++ (lzZ G (q 20) 2 ik ++ (lzI G (q 21) 128 kp)))))) (va_Qi (S := Unit) (fun (r : Int32) (_ : Unit) => r = -1000002) (rwB G (fun _ : Unit => (lzM m q (upd S 0 0) ++ (lzI G (q 5) 64 f ++ (lzZ G (q 20) 2 ik ++ (lzI G (q 21) 128 kp)))))) (lzA (lzM m q S ++ (lzI G (q 5) 64 f ++ (lzZ G (q 20) 2 ik ++ (lzI G (q 21) 128 kp)))))) 0 0 (lzA (lzM m q S ++ (lzI G (q 5) 64 f ++ (lzZ G (q 20) 2 ik ++ (lzI G (q 21) 128 kp))))) := by
  have hiL : inL (nI im).toInt64 0 1 = true := (by decide +kernel : ∀ k, k < 2 → inL (nI k).toInt64 0 1 = true) im him
  refine rw_start (S := Unit) (cc := cX4_restore) (maxL := 3) (ret := (some .int)) (by decide) rfl (Nat.le_of_ble_eq_true rfl) ?_
  intro pp ee ss mm bl me cd A hx hb hr hlk hml hts hown hP hK hD hAe hS ls hl
  have hA0 : ∀ zz : Nat, lzA (lzM m q S ++ (lzI G (q 5) 64 f ++ (lzZ G (q 20) 2 ik ++ (lzI G (q 21) 128 kp)))) zz → A zz := fun zz h9 => by rw [hAe]; exact h9
  rw [← hAe]
  clear hAe
  have hown : ss.vm.findClass RX4 = some mm.cls := hown
  have hw1 := hts (.fieldLink RX4 48 "LampSquaresModel" "thrown" "I") (List.mem_of_getElem? (i := 1) rfl)
  have hw3 := hts (.fieldLink RX4 38 "LampSquaresModel" "isKept" "[Z") (List.mem_of_getElem? (i := 3) rfl)
  have hw4 := hts (.constant RX4 204 (-1000002)) (List.mem_of_getElem? (i := 4) rfl)
  have hu_wsX40 : ∀ w ∈ wsX40, w.before ([.ref m, .int (nI im)] : List Value).toArray ss = true := fun w h9 => hts w (List.mem_cons_of_mem _ (List.mem_append_right _ h9))
  have hl : lv_has ls 3 [(0, .ref m), (1, .int (nI im))] := hl
  refine lv_aload_n hx hb dX4_restore_0 rfl (lv_at hl 0 rfl) ?_
  refine lv_iconst (v := 0) hx hb dX4_restore_1 (by decide) ?_
  refine lz_put (G := G) (ci := 4) (C := RX4) (T := TX4) (N := 24) hx hb hu_wsX40 (fun _ h9 => h9) tyX4 tyX4_ok nmX4 hown hK hP hD hS 0 rfl rfl 0 (by decide) hw1 rfl rfl (by decide +kernel) (Nat.le_of_ble_eq_true rfl) dX4_restore_2 (lzM m q (upd S 0 0) ++ (lzI G (q 5) 64 f ++ (lzZ G (q 20) 2 ik ++ (lzI G (q 21) 128 kp)))) rfl (fun H locs hP hD hS => ?_)
  refine lv_iload_n hx hb dX4_restore_5 rfl (lv_at hl 1 rfl) ?_
  refine lv_i2l hx hb dX4_restore_6 rfl ?_
  refine lv_lconst (v := 0) hx hb dX4_restore_7 (by decide) ?_
  refine lv_lconst (v := 1) hx hb dX4_restore_8 (by decide) ?_
  refine ro_calli (va_runS (As := [.long ((nI im).toInt64), .long 0, .long 1]) (rest := []) ⟨hx, hb, hml, hown, hts⟩ (c_X4_in l G ((nI im).toInt64) 0 1 ) (cwS 3 hts gX4_restore_X4_in rfl rfl rfl (by decide +kernel) ⟨Nat.le_of_ble_eq_true rfl, Nat.le_of_ble_eq_true rfl⟩) (ro_pre hK (fun k q h => by simp at h)) rfl rfl hl.1 rfl (lv_room (Nat.le_of_ble_eq_true rfl)) dX4_restore_9 ⟨Nat.zero_le _, Nat.zero_le _⟩) (fun r_1 hr_1 => ?_)
  refine lv_if_ne (tgt := 18) hx hb dX4_restore_12 (by decide) (fun c_12 => ?_) (fun c_12 => ?_)
  · skip
    have c_12 := b2_n hr_1 c_12
    refine lv_aload_n hx hb dX4_restore_18 rfl (lv_at hl 0 rfl) ?_
    refine lz_get (G := G) (ci := 4) (v := .ref (q 20)) (C := RX4) (T := TX4) (N := 24) hx hb hu_wsX40 (fun _ h9 => h9) hown hK hP 0 rfl rfl 20 (by decide) hw3 rfl rfl dX4_restore_19 ?_
    refine lv_iload_n hx hb dX4_restore_22 rfl (lv_at hl 1 rfl) ?_
    refine lz_zald (f := ik) hx hb hK hP 2 rfl im (by omega) (Nat.le_of_ble_eq_true rfl) dX4_restore_23 ?_
    refine lv_if_ne (tgt := 30) hx hb dX4_restore_24 (by decide) (fun c_24 => ?_) (fun c_24 => ?_)
    · skip
      exact absurd hno c_24
    · skip
      refine lv_ldc hx hb hown hw4 dX4_restore_27 ?_
      exact rw_iret (S := Unit) (G := G) (Wd := fun _ : Unit => (lzM m q (upd S 0 0) ++ (lzI G (q 5) 64 f ++ (lzZ G (q 20) 2 ik ++ (lzI G (q 21) 128 kp))))) () hx hb hr hlk dX4_restore_29 hS (hP) (rfl)
  · skip
    have c_12 := b2_z hr_1 c_12
    exact Bool.noConfusion (hiL.symm.trans c_12)
set_option maxHeartbeats 4000000 in
set_option maxRecDepth 100000 in
theorem c_X4_restore_ok (l : Launch) (G : lzG) (m : Nat) (q : Nat → Nat) (S : Nat → Int32) (f ik kp : Nat → Int32) (im : Nat) (him : im < 2) (hno : ¬ ik im = 0) : Met l yX4_restore wsX4_restore ({ frames := 1, cells := 0, slots := 0, locals := 25 }) (va_Pc [.ref m, .int (nI im)] (rwP G (lzM m q S ++ (lzI G (q 5) 64 f ++ (lzZ G (q 20) 2 ik ++ (lzI G (q 21) 128 kp)))))) (va_Qi (S := Unit) (fun (r : Int32) (_ : Unit) => r = 1) (rwB G (fun _ : Unit => (lzM m q (upd (upd S 0 0) 9 0) ++ (lzI G (q 5) 64 (undF kp f im 64) ++ (lzZ G (q 20) 2 ik ++ (lzI G (q 21) 128 kp)))))) (lzA (lzM m q S ++ (lzI G (q 5) 64 f ++ (lzZ G (q 20) 2 ik ++ (lzI G (q 21) 128 kp)))))) 0 0 (lzA (lzM m q S ++ (lzI G (q 5) 64 f ++ (lzZ G (q 20) 2 ik ++ (lzI G (q 21) 128 kp))))) := by
  have hiL : inL (nI im).toInt64 0 1 = true := (by decide +kernel : ∀ k, k < 2 → inL (nI k).toInt64 0 1 = true) im him
  refine rw_start (S := Unit) (cc := cX4_restore) (maxL := 3) (ret := (some .int)) (by decide) rfl (Nat.le_of_ble_eq_true rfl) ?_
  intro pp ee ss mm bl me cd A hx hb hr hlk hml hts hown hP hK hD hAe hS ls hl
  have hA0 : ∀ zz : Nat, lzA (lzM m q S ++ (lzI G (q 5) 64 f ++ (lzZ G (q 20) 2 ik ++ (lzI G (q 21) 128 kp)))) zz → A zz := fun zz h9 => by rw [hAe]; exact h9
  rw [← hAe]
  clear hAe
  have hown : ss.vm.findClass RX4 = some mm.cls := hown
  have hw1 := hts (.fieldLink RX4 48 "LampSquaresModel" "thrown" "I") (List.mem_of_getElem? (i := 1) rfl)
  have hw3 := hts (.fieldLink RX4 38 "LampSquaresModel" "isKept" "[Z") (List.mem_of_getElem? (i := 3) rfl)
  have hw5 := hts (.fieldLink RX4 19 "LampSquaresModel" "door" "[I") (List.mem_of_getElem? (i := 5) rfl)
  have hw6 := hts (.fieldLink RX4 42 "LampSquaresModel" "kept" "[I") (List.mem_of_getElem? (i := 6) rfl)
  have hw7 := hts (.fieldLink RX4 150 "LampSquaresModel" "acts" "I") (List.mem_of_getElem? (i := 7) rfl)
  have hu_wsX40 : ∀ w ∈ wsX40, w.before ([.ref m, .int (nI im)] : List Value).toArray ss = true := fun w h9 => hts w (List.mem_cons_of_mem _ (List.mem_append_right _ h9))
  have hl : lv_has ls 3 [(0, .ref m), (1, .int (nI im))] := hl
  refine lv_aload_n hx hb dX4_restore_0 rfl (lv_at hl 0 rfl) ?_
  refine lv_iconst (v := 0) hx hb dX4_restore_1 (by decide) ?_
  refine lz_put (G := G) (ci := 4) (C := RX4) (T := TX4) (N := 24) hx hb hu_wsX40 (fun _ h9 => h9) tyX4 tyX4_ok nmX4 hown hK hP hD hS 0 rfl rfl 0 (by decide) hw1 rfl rfl (by decide +kernel) (Nat.le_of_ble_eq_true rfl) dX4_restore_2 (lzM m q (upd S 0 0) ++ (lzI G (q 5) 64 f ++ (lzZ G (q 20) 2 ik ++ (lzI G (q 21) 128 kp)))) rfl (fun H locs hP hD hS => ?_)
  refine lv_iload_n hx hb dX4_restore_5 rfl (lv_at hl 1 rfl) ?_
  refine lv_i2l hx hb dX4_restore_6 rfl ?_
  refine lv_lconst (v := 0) hx hb dX4_restore_7 (by decide) ?_
  refine lv_lconst (v := 1) hx hb dX4_restore_8 (by decide) ?_
  refine ro_calli (va_runS (As := [.long ((nI im).toInt64), .long 0, .long 1]) (rest := []) ⟨hx, hb, hml, hown, hts⟩ (c_X4_in l G ((nI im).toInt64) 0 1 ) (cwS 3 hts gX4_restore_X4_in rfl rfl rfl (by decide +kernel) ⟨Nat.le_of_ble_eq_true rfl, Nat.le_of_ble_eq_true rfl⟩) (ro_pre hK (fun k q h => by simp at h)) rfl rfl hl.1 rfl (lv_room (Nat.le_of_ble_eq_true rfl)) dX4_restore_9 ⟨Nat.zero_le _, Nat.zero_le _⟩) (fun r_1 hr_1 => ?_)
  refine lv_if_ne (tgt := 18) hx hb dX4_restore_12 (by decide) (fun c_12 => ?_) (fun c_12 => ?_)
  · skip
    have c_12 := b2_n hr_1 c_12
    refine lv_aload_n hx hb dX4_restore_18 rfl (lv_at hl 0 rfl) ?_
    refine lz_get (G := G) (ci := 4) (v := .ref (q 20)) (C := RX4) (T := TX4) (N := 24) hx hb hu_wsX40 (fun _ h9 => h9) hown hK hP 0 rfl rfl 20 (by decide) hw3 rfl rfl dX4_restore_19 ?_
    refine lv_iload_n hx hb dX4_restore_22 rfl (lv_at hl 1 rfl) ?_
    refine lz_zald (f := ik) hx hb hK hP 2 rfl im (by omega) (Nat.le_of_ble_eq_true rfl) dX4_restore_23 ?_
    refine lv_if_ne (tgt := 30) hx hb dX4_restore_24 (by decide) (fun c_24 => ?_) (fun c_24 => ?_)
    · skip
      refine lv_iconst (v := 0) hx hb dX4_restore_30 (by decide) ?_
      refine lv_istore_n (lv' := [(2, .int 0), (0, .ref m), (1, .int (nI im))]) hx hb dX4_restore_31 rfl hl (by decide) rfl (fun ls hl => ?_)
      have J_32 : ∀ (n9 : Nat), ∀ (j : Nat), (j ≤ 64) → 64 - j < n9 → ∀ (H : Heap) (locs : List Loc), va_P G.1 lzC (lzM m q (upd S 0 0) ++ (lzI G (q 5) 64 (undF kp f im j) ++ (lzZ G (q 20) 2 ik ++ (lzI G (q 21) 128 kp)))) H → va_D A (lzM m q (upd S 0 0) ++ (lzI G (q 5) 64 (undF kp f im j) ++ (lzZ G (q 20) 2 ik ++ (lzI G (q 21) 128 kp)))) → va_S A ss.heap H locs → ∀ ls : Array Slot, lv_has ls 3 [(2, .int (nI j)), (0, .ref m), (1, .int (nI im))] → W pp l ee ({ frames := 1, cells := 0, slots := 0, locals := 25 }) ss mm ([.ref m, .int (nI im)] : List Value).toArray bl me cd H locs 0 0 (MQ bl (va_Qi (S := Unit) (fun (r : Int32) (_ : Unit) => r = 1) (rwB G (fun _ : Unit => (lzM m q (upd (upd S 0 0) 9 0) ++ (lzI G (q 5) 64 (undF kp f im 64) ++ (lzZ G (q 20) 2 ik ++ (lzI G (q 21) 128 kp)))))) A) ([.ref m, .int (nI im)] : List Value).toArray ss 0 0 A) (F0 mm 32 ls []) := by
        intro n9
        induction n9 with
        | zero => intro j hj hn; exact absurd hn (Nat.not_lt_zero _)
        | succ n9 ih_32 =>
          intro j hj hn_32 H locs hP hD hS ls hl
          refine lv_iload_n hx hb dX4_restore_32 rfl (lv_at hl 0 rfl) ?_
          refine lv_bipush (v := 64) hx hb dX4_restore_33 (by decide) ?_
          refine lv_icmp_ge (tgt := 61) hx hb dX4_restore_35 (by decide) (fun c_35 => ?_) (fun c_35 => ?_)
          · skip
            have c_35' := Int32.not_lt.mpr c_35
            have hj2 : 64 ≤ j := lz_ge (N := 64) rfl c_35 (by omega) (by omega)
            have hj3 : j = 64 := by omega
            refine lv_aload_n hx hb dX4_restore_61 rfl (lv_at hl 1 rfl) ?_
            refine lv_iconst (v := 0) hx hb dX4_restore_62 (by decide) ?_
            refine lz_put (G := G) (ci := 4) (C := RX4) (T := TX4) (N := 24) hx hb hu_wsX40 (fun _ h9 => h9) tyX4 tyX4_ok nmX4 hown hK hP hD hS 0 rfl rfl 9 (by decide) hw7 rfl rfl (by decide +kernel) (Nat.le_of_ble_eq_true rfl) dX4_restore_63 (lzM m q (upd (upd S 0 0) 9 0) ++ (lzI G (q 5) 64 (undF kp f im j) ++ (lzZ G (q 20) 2 ik ++ (lzI G (q 21) 128 kp)))) rfl (fun H locs hP hD hS => ?_)
            refine lv_iconst (v := 1) hx hb dX4_restore_66 (by decide) ?_
            exact rw_iret (S := Unit) (G := G) (Wd := fun _ : Unit => (lzM m q (upd (upd S 0 0) 9 0) ++ (lzI G (q 5) 64 (undF kp f im 64) ++ (lzZ G (q 20) 2 ik ++ (lzI G (q 21) 128 kp))))) () hx hb hr hlk dX4_restore_67 hS (by rw [hj3] at hP; exact hP) (rfl)
          · skip
            have c_35' := Int32.not_le.mp c_35
            have hj2 : j < 64 := lz_lt (N := 64) rfl c_35 (by omega) (by omega)
            refine lv_aload_n hx hb dX4_restore_38 rfl (lv_at hl 1 rfl) ?_
            refine lz_get (G := G) (ci := 4) (v := .ref (q 5)) (C := RX4) (T := TX4) (N := 24) hx hb hu_wsX40 (fun _ h9 => h9) hown hK hP 0 rfl rfl 5 (by decide) hw5 rfl rfl dX4_restore_39 ?_
            refine lv_iload_n hx hb dX4_restore_42 rfl (lv_at hl 0 rfl) ?_
            refine lv_aload_n hx hb dX4_restore_43 rfl (lv_at hl 1 rfl) ?_
            refine lz_get (G := G) (ci := 4) (v := .ref (q 21)) (C := RX4) (T := TX4) (N := 24) hx hb hu_wsX40 (fun _ h9 => h9) hown hK hP 0 rfl rfl 21 (by decide) hw6 rfl rfl dX4_restore_44 ?_
            refine lv_bipush (v := 64) hx hb dX4_restore_47 (by decide) ?_
            refine lv_iload_n hx hb dX4_restore_49 rfl (lv_at hl 2 rfl) ?_
            refine lv_imul hx hb dX4_restore_50 ?_
            refine lv_iload_n hx hb dX4_restore_51 rfl (lv_at hl 0 rfl) ?_
            refine lv_iadd hx hb dX4_restore_52 ?_
            refine lz_top (y := nI (64 * im + j)) (by simp only [fa_lit, pk_mul, nI_add]) ?_
            refine lz_iald (f := kp) hx hb hK hP 3 rfl (64 * im + j) (by omega) (Nat.le_of_ble_eq_true rfl) dX4_restore_53 ?_
            refine lz_iast (f := undF kp f im j) hx hb hK hP hD hS 1 rfl j (by omega) (Nat.le_of_ble_eq_true rfl) dX4_restore_54 (lzM m q (upd S 0 0) ++ (lzI G (q 5) 64 (upd (undF kp f im j) j (kp (64 * im + j))) ++ (lzZ G (q 20) 2 ik ++ (lzI G (q 21) 128 kp)))) rfl (fun H locs hP hD hS => ?_)
            refine lv_iinc (v := nI (j + 1)) (lv' := [(2, .int (nI (j + 1))), (0, .ref m), (1, .int (nI im))]) hx hb dX4_restore_55 hl (k := 0) rfl (nI_1 _) (by decide) rfl (fun ls hl => ?_)
            refine lv_goto (tgt := 32) hx hb dX4_restore_58 (by decide) ?_
            have hE_2 : upd (undF kp f im j) j (kp (64 * im + j)) = undF kp f im (j + 1) := undF_s _ _ _ _
            replace hP : va_P G.1 lzC (lzM m q (upd S 0 0) ++ (lzI G (q 5) 64 (undF kp f im (j + 1)) ++ (lzZ G (q 20) 2 ik ++ (lzI G (q 21) 128 kp)))) H := by rw [← hE_2]; exact hP
            replace hD : va_D A (lzM m q (upd S 0 0) ++ (lzI G (q 5) 64 (undF kp f im (j + 1)) ++ (lzZ G (q 20) 2 ik ++ (lzI G (q 21) 128 kp)))) := by rw [← hE_2]; exact hD
            exact ih_32 (j + 1) (by omega) (by omega) _ _ hP hD hS _ (lv_sub hl [0, 1, 2] rfl)
      have hE_3 : f = undF kp f im 0 := (undF_0 _ _ _).symm
      replace hP : va_P G.1 lzC (lzM m q (upd S 0 0) ++ (lzI G (q 5) 64 (undF kp f im 0) ++ (lzZ G (q 20) 2 ik ++ (lzI G (q 21) 128 kp)))) H := by rw [← hE_3]; exact hP
      replace hD : va_D A (lzM m q (upd S 0 0) ++ (lzI G (q 5) 64 (undF kp f im 0) ++ (lzZ G (q 20) 2 ik ++ (lzI G (q 21) 128 kp)))) := by rw [← hE_3]; exact hD
      exact J_32 _ 0 (by omega) (Nat.lt_succ_self _) _ _ hP hD hS _ (lv_sub hl [0, 1, 2] rfl)
    · skip
      exact absurd c_24 hno
  · skip
    have c_12 := b2_z hr_1 c_12
    exact Bool.noConfusion (hiL.symm.trans c_12)
set_option maxHeartbeats 4000000 in
set_option maxRecDepth 100000 in
theorem c_X4_row_bad (l : Launch) (G : lzG) (m : Nat) (q : Nat → Nat) (S : Nat → Int32) (ln mn g : Nat → Int32) (a lx n : Int32) (hbad : (inR a 0 7 && inR lx 0 2 && decide (n ≤ 40)) = false) : Met l yX4_row wsX4_row ({ frames := 2, cells := 0, slots := 0, locals := 45 }) (va_Pc [.ref m, .int a, .int lx, .int n] (rwP G (lzM m q S ++ (lzI G (q 2) 8 ln ++ (lzI G (q 3) 8 mn ++ (lzI G (q 4) 320 g)))))) (va_Qi (S := Unit) (fun (r : Int32) (_ : Unit) => r = -1000001) (rwB G (fun _ : Unit => (lzM m q (upd S 0 0) ++ (lzI G (q 2) 8 ln ++ (lzI G (q 3) 8 mn ++ (lzI G (q 4) 320 g)))))) (lzA (lzM m q S ++ (lzI G (q 2) 8 ln ++ (lzI G (q 3) 8 mn ++ (lzI G (q 4) 320 g)))))) 0 0 (lzA (lzM m q S ++ (lzI G (q 2) 8 ln ++ (lzI G (q 3) 8 mn ++ (lzI G (q 4) 320 g))))) := by
  have hbW : (inR a 0 7 && inL lx.toInt64 0 2 && decide (n ≤ 40)) = false := by rw [show inL lx.toInt64 0 2 = inR lx 0 2 from inL_of lx 0 2]; exact hbad
  refine rw_start (S := Unit) (cc := cX4_row) (maxL := 5) (ret := (some .int)) (by decide) rfl (Nat.le_of_ble_eq_true rfl) ?_
  intro pp ee ss mm bl me cd A hx hb hr hlk hml hts hown hP hK hD hAe hS ls hl
  have hA0 : ∀ zz : Nat, lzA (lzM m q S ++ (lzI G (q 2) 8 ln ++ (lzI G (q 3) 8 mn ++ (lzI G (q 4) 320 g)))) zz → A zz := fun zz h9 => by rw [hAe]; exact h9
  rw [← hAe]
  clear hAe
  have hown : ss.vm.findClass RX4 = some mm.cls := hown
  have hw1 := hts (.fieldLink RX4 48 "LampSquaresModel" "thrown" "I") (List.mem_of_getElem? (i := 1) rfl)
  have hw2 := hts (.constantLong RX4 66 (2)) (List.mem_of_getElem? (i := 2) rfl)
  have hw3 := hts (.constant RX4 68 (-1000001)) (List.mem_of_getElem? (i := 3) rfl)
  have hu_wsX40 : ∀ w ∈ wsX40, w.before ([.ref m, .int a, .int lx, .int n] : List Value).toArray ss = true := fun w h9 => hts w (List.mem_cons_of_mem _ (List.mem_append_right _ h9))
  have hl : lv_has ls 5 [(0, .ref m), (1, .int a), (2, .int lx), (3, .int n)] := hl
  refine lv_aload_n hx hb dX4_row_0 rfl (lv_at hl 0 rfl) ?_
  refine lv_iconst (v := 0) hx hb dX4_row_1 (by decide) ?_
  refine lz_put (G := G) (ci := 4) (C := RX4) (T := TX4) (N := 24) hx hb hu_wsX40 (fun _ h9 => h9) tyX4 tyX4_ok nmX4 hown hK hP hD hS 0 rfl rfl 0 (by decide) hw1 rfl rfl (by decide +kernel) (Nat.le_of_ble_eq_true rfl) dX4_row_2 (lzM m q (upd S 0 0) ++ (lzI G (q 2) 8 ln ++ (lzI G (q 3) 8 mn ++ (lzI G (q 4) 320 g)))) rfl (fun H locs hP hD hS => ?_)
  refine lv_iload_n hx hb dX4_row_5 rfl (lv_at hl 1 rfl) ?_
  refine ro_calli (va_runS (As := [.int a]) (rest := []) ⟨hx, hb, hml, hown, hts⟩ (c_X4_isRow l G a ) (cwS 1 hts gX4_row_X4_isRow rfl rfl rfl (by decide +kernel) ⟨Nat.le_of_ble_eq_true rfl, Nat.le_of_ble_eq_true rfl⟩) (ro_pre hK (fun k q h => by simp at h)) rfl rfl hl.1 rfl (lv_room (Nat.le_of_ble_eq_true rfl)) dX4_row_6 ⟨Nat.zero_le _, Nat.zero_le _⟩) (fun r_1 hr_1 => ?_)
  refine lv_if_eq (tgt := 30) hx hb dX4_row_9 (by decide) (fun c_9 => ?_) (fun c_9 => ?_)
  · skip
    have c_9 := b2_z hr_1 c_9
    refine lv_ldc hx hb hown hw3 dX4_row_30 ?_
    exact rw_iret (S := Unit) (G := G) (Wd := fun _ : Unit => (lzM m q (upd S 0 0) ++ (lzI G (q 2) 8 ln ++ (lzI G (q 3) 8 mn ++ (lzI G (q 4) 320 g))))) () hx hb hr hlk dX4_row_32 hS (hP) (rfl)
  · skip
    have c_9 := b2_n hr_1 c_9
    refine lv_iload_n hx hb dX4_row_12 rfl (lv_at hl 2 rfl) ?_
    refine lv_i2l hx hb dX4_row_13 rfl ?_
    refine lv_lconst (v := 0) hx hb dX4_row_14 (by decide) ?_
    refine lv_ldc2 hx hb hown hw2 dX4_row_15 ?_
    refine ro_calli (va_runS (As := [.long lx.toInt64, .long 0, .long 2]) (rest := []) ⟨hx, hb, hml, hown, hts⟩ (c_X4_in l G lx.toInt64 0 2 ) (cwS 3 hts gX4_row_X4_in rfl rfl rfl (by decide +kernel) ⟨Nat.le_of_ble_eq_true rfl, Nat.le_of_ble_eq_true rfl⟩) (ro_pre hK (fun k q h => by simp at h)) rfl rfl hl.1 rfl (lv_room (Nat.le_of_ble_eq_true rfl)) dX4_row_18 ⟨Nat.zero_le _, Nat.zero_le _⟩) (fun r_2 hr_2 => ?_)
    refine lv_if_eq (tgt := 30) hx hb dX4_row_21 (by decide) (fun c_21 => ?_) (fun c_21 => ?_)
    · skip
      have c_21 := b2_z hr_2 c_21
      refine lv_ldc hx hb hown hw3 dX4_row_30 ?_
      exact rw_iret (S := Unit) (G := G) (Wd := fun _ : Unit => (lzM m q (upd S 0 0) ++ (lzI G (q 2) 8 ln ++ (lzI G (q 3) 8 mn ++ (lzI G (q 4) 320 g))))) () hx hb hr hlk dX4_row_32 hS (hP) (rfl)
    · skip
      have c_21 := b2_n hr_2 c_21
      refine lv_iload_n hx hb dX4_row_24 rfl (lv_at hl 3 rfl) ?_
      refine lv_bipush (v := 40) hx hb dX4_row_25 (by decide) ?_
      refine lv_icmp_le (tgt := 33) hx hb dX4_row_27 (by decide) (fun c_27 => ?_) (fun c_27 => ?_)
      · skip
        have c_27' := Int32.not_lt.mpr c_27
        exact Bool.noConfusion (hbW.symm.trans (by rw [c_9, c_21, decide_eq_true c_27] <;> rfl))
      · skip
        have c_27' := Int32.not_le.mp c_27
        refine lv_ldc hx hb hown hw3 dX4_row_30 ?_
        exact rw_iret (S := Unit) (G := G) (Wd := fun _ : Unit => (lzM m q (upd S 0 0) ++ (lzI G (q 2) 8 ln ++ (lzI G (q 3) 8 mn ++ (lzI G (q 4) 320 g))))) () hx hb hr hlk dX4_row_32 hS (hP) (rfl)
set_option maxHeartbeats 4000000 in
set_option maxRecDepth 100000 in
theorem c_X4_row_size (l : Launch) (G : lzG) (m : Nat) (q : Nat → Nat) (S : Nat → Int32) (ln mn g : Nat → Int32) (rr : Nat) (lx n : Int32) (hrw : rr < 8) (hlx : inR lx 0 2 = true) (h40 : n ≤ 40) (hn : n < 0) : Met l yX4_row wsX4_row ({ frames := 2, cells := 0, slots := 0, locals := 45 }) (va_Pc [.ref m, .int (nI rr), .int lx, .int n] (rwP G (lzM m q S ++ (lzI G (q 2) 8 ln ++ (lzI G (q 3) 8 mn ++ (lzI G (q 4) 320 g)))))) (va_Qi (S := Unit) (fun (r : Int32) (_ : Unit) => r = -1000014) (rwB G (fun _ : Unit => (lzM m q (upd (upd S 0 0) 1 4) ++ (lzI G (q 2) 8 ln ++ (lzI G (q 3) 8 mn ++ (lzI G (q 4) 320 g)))))) (lzA (lzM m q S ++ (lzI G (q 2) 8 ln ++ (lzI G (q 3) 8 mn ++ (lzI G (q 4) 320 g)))))) 0 0 (lzA (lzM m q S ++ (lzI G (q 2) 8 ln ++ (lzI G (q 3) 8 mn ++ (lzI G (q 4) 320 g))))) := by
  have hA : inR (nI rr) 0 7 = true := inR_row hrw
  have hlL : inL lx.toInt64 0 2 = true := (inL_of lx 0 2).trans hlx
  refine rw_start (S := Unit) (cc := cX4_row) (maxL := 5) (ret := (some .int)) (by decide) rfl (Nat.le_of_ble_eq_true rfl) ?_
  intro pp ee ss mm bl me cd A hx hb hr hlk hml hts hown hP hK hD hAe hS ls hl
  have hA0 : ∀ zz : Nat, lzA (lzM m q S ++ (lzI G (q 2) 8 ln ++ (lzI G (q 3) 8 mn ++ (lzI G (q 4) 320 g)))) zz → A zz := fun zz h9 => by rw [hAe]; exact h9
  rw [← hAe]
  clear hAe
  have hown : ss.vm.findClass RX4 = some mm.cls := hown
  have hw1 := hts (.fieldLink RX4 48 "LampSquaresModel" "thrown" "I") (List.mem_of_getElem? (i := 1) rfl)
  have hw2 := hts (.constantLong RX4 66 (2)) (List.mem_of_getElem? (i := 2) rfl)
  have hw4 := hts (.fieldLink RX4 52 "LampSquaresModel" "status" "I") (List.mem_of_getElem? (i := 4) rfl)
  have hu_wsX40 : ∀ w ∈ wsX40, w.before ([.ref m, .int (nI rr), .int lx, .int n] : List Value).toArray ss = true := fun w h9 => hts w (List.mem_cons_of_mem _ (List.mem_append_right _ h9))
  have hl : lv_has ls 5 [(0, .ref m), (1, .int (nI rr)), (2, .int lx), (3, .int n)] := hl
  refine lv_aload_n hx hb dX4_row_0 rfl (lv_at hl 0 rfl) ?_
  refine lv_iconst (v := 0) hx hb dX4_row_1 (by decide) ?_
  refine lz_put (G := G) (ci := 4) (C := RX4) (T := TX4) (N := 24) hx hb hu_wsX40 (fun _ h9 => h9) tyX4 tyX4_ok nmX4 hown hK hP hD hS 0 rfl rfl 0 (by decide) hw1 rfl rfl (by decide +kernel) (Nat.le_of_ble_eq_true rfl) dX4_row_2 (lzM m q (upd S 0 0) ++ (lzI G (q 2) 8 ln ++ (lzI G (q 3) 8 mn ++ (lzI G (q 4) 320 g)))) rfl (fun H locs hP hD hS => ?_)
  refine lv_iload_n hx hb dX4_row_5 rfl (lv_at hl 1 rfl) ?_
  refine ro_calli (va_runS (As := [.int (nI rr)]) (rest := []) ⟨hx, hb, hml, hown, hts⟩ (c_X4_isRow l G (nI rr) ) (cwS 1 hts gX4_row_X4_isRow rfl rfl rfl (by decide +kernel) ⟨Nat.le_of_ble_eq_true rfl, Nat.le_of_ble_eq_true rfl⟩) (ro_pre hK (fun k q h => by simp at h)) rfl rfl hl.1 rfl (lv_room (Nat.le_of_ble_eq_true rfl)) dX4_row_6 ⟨Nat.zero_le _, Nat.zero_le _⟩) (fun r_1 hr_1 => ?_)
  refine lv_if_eq (tgt := 30) hx hb dX4_row_9 (by decide) (fun c_9 => ?_) (fun c_9 => ?_)
  · skip
    have c_9 := b2_z hr_1 c_9
    exact Bool.noConfusion (hA.symm.trans c_9)
  · skip
    have c_9 := b2_n hr_1 c_9
    refine lv_iload_n hx hb dX4_row_12 rfl (lv_at hl 2 rfl) ?_
    refine lv_i2l hx hb dX4_row_13 rfl ?_
    refine lv_lconst (v := 0) hx hb dX4_row_14 (by decide) ?_
    refine lv_ldc2 hx hb hown hw2 dX4_row_15 ?_
    refine ro_calli (va_runS (As := [.long lx.toInt64, .long 0, .long 2]) (rest := []) ⟨hx, hb, hml, hown, hts⟩ (c_X4_in l G lx.toInt64 0 2 ) (cwS 3 hts gX4_row_X4_in rfl rfl rfl (by decide +kernel) ⟨Nat.le_of_ble_eq_true rfl, Nat.le_of_ble_eq_true rfl⟩) (ro_pre hK (fun k q h => by simp at h)) rfl rfl hl.1 rfl (lv_room (Nat.le_of_ble_eq_true rfl)) dX4_row_18 ⟨Nat.zero_le _, Nat.zero_le _⟩) (fun r_2 hr_2 => ?_)
    refine lv_if_eq (tgt := 30) hx hb dX4_row_21 (by decide) (fun c_21 => ?_) (fun c_21 => ?_)
    · skip
      have c_21 := b2_z hr_2 c_21
      exact Bool.noConfusion (hlL.symm.trans c_21)
    · skip
      have c_21 := b2_n hr_2 c_21
      refine lv_iload_n hx hb dX4_row_24 rfl (lv_at hl 3 rfl) ?_
      refine lv_bipush (v := 40) hx hb dX4_row_25 (by decide) ?_
      refine lv_icmp_le (tgt := 33) hx hb dX4_row_27 (by decide) (fun c_27 => ?_) (fun c_27 => ?_)
      · skip
        have c_27' := Int32.not_lt.mpr c_27
        refine lv_aload_n hx hb dX4_row_33 rfl (lv_at hl 0 rfl) ?_
        refine lv_iconst (v := 0) hx hb dX4_row_34 (by decide) ?_
        refine lz_put (G := G) (ci := 4) (C := RX4) (T := TX4) (N := 24) hx hb hu_wsX40 (fun _ h9 => h9) tyX4 tyX4_ok nmX4 hown hK hP hD hS 0 rfl rfl 1 (by decide) hw4 rfl rfl (by decide +kernel) (Nat.le_of_ble_eq_true rfl) dX4_row_35 (lzM m q (upd (upd S 0 0) 1 0) ++ (lzI G (q 2) 8 ln ++ (lzI G (q 3) 8 mn ++ (lzI G (q 4) 320 g)))) rfl (fun H locs hP hD hS => ?_)
        refine lv_iload_n hx hb dX4_row_38 rfl (lv_at hl 3 rfl) ?_
        refine lv_if_ge (tgt := 48) hx hb dX4_row_39 (by decide) (fun c_39 => ?_) (fun c_39 => ?_)
        · skip
          have c_39' := Int32.not_lt.mpr c_39
          exact absurd hn (Int32.not_lt.mpr c_39)
        · skip
          have c_39' := Int32.not_le.mp c_39
          refine lv_aload_n hx hb dX4_row_42 rfl (lv_at hl 0 rfl) ?_
          refine lv_iconst (v := 4) hx hb dX4_row_43 (by decide) ?_
          have hPc := hP.sub (ws' := lzM m q (upd (upd S 0 0) 1 0)) [0] rfl
          have hDc := hD.sub (ws' := lzM m q (upd (upd S 0 0) 1 0)) [0] (by decide) rfl
          have hFc : ∀ zz : Nat, lzA (lzM m q (upd (upd S 0 0) 1 0)) zz → A zz := lz_free hD [0] rfl
          refine va_calli (va_runV (As := [.int 4]) (rest := []) ⟨hx, hb, hml, hown, hts⟩ (c_X4_finding l G m q (upd (upd S 0 0) 1 0) 4 ) (cwV 1 hts gX4_row_X4_finding rfl rfl rfl (by decide +kernel) ⟨Nat.le_of_ble_eq_true rfl, Nat.le_of_ble_eq_true rfl⟩) (rw_preV hK hPc hDc hP (ci := 4) (q0 := 0) rfl rfl) rfl rfl hl.1 rfl (lv_room (Nat.le_of_ble_eq_true rfl)) dX4_row_44 ⟨Nat.zero_le _, Nat.zero_le _⟩) hS (fun q _ h => hFc q h) hFc (fun r_3 u_4 t9 H1 locs ht hvm hr_3 hB hz1 hk1 hS => ?_)
          replace hB : va_P G.1 lzC _ t9.heap := hB
          rw [ht] at hB
          obtain ⟨hP, hD⟩ := lz_join (wc := lzM m q (upd (upd S 0 0) 1 0)) (wr := ([(q 2, .inl (G.2 0, 8, .inl ln)), (q 3, .inl (G.2 0, 8, .inl mn)), (q 4, .inl (G.2 0, 320, .inl g))] : va_W)) (w1 := lzM m q (upd (upd S 0 0) 1 4)) hP hD [0] [1, 2, 3] rfl rfl (by decide) (by decide) rfl hk1 hB
          replace hP := hP.sub (ws' := (lzM m q (upd (upd S 0 0) 1 4) ++ (lzI G (q 2) 8 ln ++ (lzI G (q 3) 8 mn ++ (lzI G (q 4) 320 g))))) [3, 0, 1, 2] rfl
          replace hD := hD.sub (ws' := (lzM m q (upd (upd S 0 0) 1 4) ++ (lzI G (q 2) 8 ln ++ (lzI G (q 3) 8 mn ++ (lzI G (q 4) 320 g))))) [3, 0, 1, 2] (by decide) rfl
          clear ht hvm hB hz1 hk1
          generalize H1 = H at hP hS ⊢
          refine lz_top (y := -1000010 - 4) hr_3 ?_
          exact rw_iret (S := Unit) (G := G) (Wd := fun _ : Unit => (lzM m q (upd (upd S 0 0) 1 4) ++ (lzI G (q 2) 8 ln ++ (lzI G (q 3) 8 mn ++ (lzI G (q 4) 320 g))))) () hx hb hr hlk dX4_row_47 hS (hP) (rfl)
      · skip
        have c_27' := Int32.not_le.mp c_27
        exact absurd h40 c_27
set_option maxHeartbeats 4000000 in
set_option maxRecDepth 100000 in
theorem c_X4_row_ok (l : Launch) (G : lzG) (m : Nat) (q : Nat → Nat) (S : Nat → Int32) (ln mn g : Nat → Int32) (rr : Nat) (lx n : Int32) (hrw : rr < 8) (hlx : inR lx 0 2 = true) (h40 : n ≤ 40) (hn : 0 ≤ n) : Met l yX4_row wsX4_row ({ frames := 2, cells := 0, slots := 0, locals := 45 }) (va_Pc [.ref m, .int (nI rr), .int lx, .int n] (rwP G (lzM m q S ++ (lzI G (q 2) 8 ln ++ (lzI G (q 3) 8 mn ++ (lzI G (q 4) 320 g)))))) (va_Qi (S := Unit) (fun (r : Int32) (_ : Unit) => r = n) (rwB G (fun _ : Unit => (lzM m q (upd (upd S 0 0) 1 0) ++ (lzI G (q 2) 8 (upd ln rr lx) ++ (lzI G (q 3) 8 (upd mn rr n) ++ (lzI G (q 4) 320 (rowZ g rr 40))))))) (lzA (lzM m q S ++ (lzI G (q 2) 8 ln ++ (lzI G (q 3) 8 mn ++ (lzI G (q 4) 320 g)))))) 0 0 (lzA (lzM m q S ++ (lzI G (q 2) 8 ln ++ (lzI G (q 3) 8 mn ++ (lzI G (q 4) 320 g))))) := by
  have hA : inR (nI rr) 0 7 = true := inR_row hrw
  have hlL : inL lx.toInt64 0 2 = true := (inL_of lx 0 2).trans hlx
  refine rw_start (S := Unit) (cc := cX4_row) (maxL := 5) (ret := (some .int)) (by decide) rfl (Nat.le_of_ble_eq_true rfl) ?_
  intro pp ee ss mm bl me cd A hx hb hr hlk hml hts hown hP hK hD hAe hS ls hl
  have hA0 : ∀ zz : Nat, lzA (lzM m q S ++ (lzI G (q 2) 8 ln ++ (lzI G (q 3) 8 mn ++ (lzI G (q 4) 320 g)))) zz → A zz := fun zz h9 => by rw [hAe]; exact h9
  rw [← hAe]
  clear hAe
  have hown : ss.vm.findClass RX4 = some mm.cls := hown
  have hw1 := hts (.fieldLink RX4 48 "LampSquaresModel" "thrown" "I") (List.mem_of_getElem? (i := 1) rfl)
  have hw2 := hts (.constantLong RX4 66 (2)) (List.mem_of_getElem? (i := 2) rfl)
  have hw4 := hts (.fieldLink RX4 52 "LampSquaresModel" "status" "I") (List.mem_of_getElem? (i := 4) rfl)
  have hw5 := hts (.fieldLink RX4 7 "LampSquaresModel" "lane" "[I") (List.mem_of_getElem? (i := 5) rfl)
  have hw6 := hts (.fieldLink RX4 13 "LampSquaresModel" "many" "[I") (List.mem_of_getElem? (i := 6) rfl)
  have hw7 := hts (.fieldLink RX4 16 "LampSquaresModel" "item" "[I") (List.mem_of_getElem? (i := 7) rfl)
  have hu_wsX40 : ∀ w ∈ wsX40, w.before ([.ref m, .int (nI rr), .int lx, .int n] : List Value).toArray ss = true := fun w h9 => hts w (List.mem_cons_of_mem _ (List.mem_append_right _ h9))
  have hl : lv_has ls 5 [(0, .ref m), (1, .int (nI rr)), (2, .int lx), (3, .int n)] := hl
  refine lv_aload_n hx hb dX4_row_0 rfl (lv_at hl 0 rfl) ?_
  refine lv_iconst (v := 0) hx hb dX4_row_1 (by decide) ?_
  refine lz_put (G := G) (ci := 4) (C := RX4) (T := TX4) (N := 24) hx hb hu_wsX40 (fun _ h9 => h9) tyX4 tyX4_ok nmX4 hown hK hP hD hS 0 rfl rfl 0 (by decide) hw1 rfl rfl (by decide +kernel) (Nat.le_of_ble_eq_true rfl) dX4_row_2 (lzM m q (upd S 0 0) ++ (lzI G (q 2) 8 ln ++ (lzI G (q 3) 8 mn ++ (lzI G (q 4) 320 g)))) rfl (fun H locs hP hD hS => ?_)
  refine lv_iload_n hx hb dX4_row_5 rfl (lv_at hl 1 rfl) ?_
  refine ro_calli (va_runS (As := [.int (nI rr)]) (rest := []) ⟨hx, hb, hml, hown, hts⟩ (c_X4_isRow l G (nI rr) ) (cwS 1 hts gX4_row_X4_isRow rfl rfl rfl (by decide +kernel) ⟨Nat.le_of_ble_eq_true rfl, Nat.le_of_ble_eq_true rfl⟩) (ro_pre hK (fun k q h => by simp at h)) rfl rfl hl.1 rfl (lv_room (Nat.le_of_ble_eq_true rfl)) dX4_row_6 ⟨Nat.zero_le _, Nat.zero_le _⟩) (fun r_1 hr_1 => ?_)
  refine lv_if_eq (tgt := 30) hx hb dX4_row_9 (by decide) (fun c_9 => ?_) (fun c_9 => ?_)
  · skip
    have c_9 := b2_z hr_1 c_9
    exact Bool.noConfusion (hA.symm.trans c_9)
  · skip
    have c_9 := b2_n hr_1 c_9
    refine lv_iload_n hx hb dX4_row_12 rfl (lv_at hl 2 rfl) ?_
    refine lv_i2l hx hb dX4_row_13 rfl ?_
    refine lv_lconst (v := 0) hx hb dX4_row_14 (by decide) ?_
    refine lv_ldc2 hx hb hown hw2 dX4_row_15 ?_
    refine ro_calli (va_runS (As := [.long lx.toInt64, .long 0, .long 2]) (rest := []) ⟨hx, hb, hml, hown, hts⟩ (c_X4_in l G lx.toInt64 0 2 ) (cwS 3 hts gX4_row_X4_in rfl rfl rfl (by decide +kernel) ⟨Nat.le_of_ble_eq_true rfl, Nat.le_of_ble_eq_true rfl⟩) (ro_pre hK (fun k q h => by simp at h)) rfl rfl hl.1 rfl (lv_room (Nat.le_of_ble_eq_true rfl)) dX4_row_18 ⟨Nat.zero_le _, Nat.zero_le _⟩) (fun r_2 hr_2 => ?_)
    refine lv_if_eq (tgt := 30) hx hb dX4_row_21 (by decide) (fun c_21 => ?_) (fun c_21 => ?_)
    · skip
      have c_21 := b2_z hr_2 c_21
      exact Bool.noConfusion (hlL.symm.trans c_21)
    · skip
      have c_21 := b2_n hr_2 c_21
      refine lv_iload_n hx hb dX4_row_24 rfl (lv_at hl 3 rfl) ?_
      refine lv_bipush (v := 40) hx hb dX4_row_25 (by decide) ?_
      refine lv_icmp_le (tgt := 33) hx hb dX4_row_27 (by decide) (fun c_27 => ?_) (fun c_27 => ?_)
      · skip
        have c_27' := Int32.not_lt.mpr c_27
        refine lv_aload_n hx hb dX4_row_33 rfl (lv_at hl 0 rfl) ?_
        refine lv_iconst (v := 0) hx hb dX4_row_34 (by decide) ?_
        refine lz_put (G := G) (ci := 4) (C := RX4) (T := TX4) (N := 24) hx hb hu_wsX40 (fun _ h9 => h9) tyX4 tyX4_ok nmX4 hown hK hP hD hS 0 rfl rfl 1 (by decide) hw4 rfl rfl (by decide +kernel) (Nat.le_of_ble_eq_true rfl) dX4_row_35 (lzM m q (upd (upd S 0 0) 1 0) ++ (lzI G (q 2) 8 ln ++ (lzI G (q 3) 8 mn ++ (lzI G (q 4) 320 g)))) rfl (fun H locs hP hD hS => ?_)
        refine lv_iload_n hx hb dX4_row_38 rfl (lv_at hl 3 rfl) ?_
        refine lv_if_ge (tgt := 48) hx hb dX4_row_39 (by decide) (fun c_39 => ?_) (fun c_39 => ?_)
        · skip
          have c_39' := Int32.not_lt.mpr c_39
          refine lv_aload_n hx hb dX4_row_48 rfl (lv_at hl 0 rfl) ?_
          refine lz_get (G := G) (ci := 4) (v := .ref (q 2)) (C := RX4) (T := TX4) (N := 24) hx hb hu_wsX40 (fun _ h9 => h9) hown hK hP 0 rfl rfl 2 (by decide) hw5 rfl rfl dX4_row_49 ?_
          refine lv_iload_n hx hb dX4_row_52 rfl (lv_at hl 1 rfl) ?_
          refine lv_iload_n hx hb dX4_row_53 rfl (lv_at hl 2 rfl) ?_
          refine lz_iast (f := ln) hx hb hK hP hD hS 1 rfl rr (by omega) (Nat.le_of_ble_eq_true rfl) dX4_row_54 (lzM m q (upd (upd S 0 0) 1 0) ++ (lzI G (q 2) 8 (upd ln rr lx) ++ (lzI G (q 3) 8 mn ++ (lzI G (q 4) 320 g)))) rfl (fun H locs hP hD hS => ?_)
          refine lv_aload_n hx hb dX4_row_55 rfl (lv_at hl 0 rfl) ?_
          refine lz_get (G := G) (ci := 4) (v := .ref (q 3)) (C := RX4) (T := TX4) (N := 24) hx hb hu_wsX40 (fun _ h9 => h9) hown hK hP 0 rfl rfl 3 (by decide) hw6 rfl rfl dX4_row_56 ?_
          refine lv_iload_n hx hb dX4_row_59 rfl (lv_at hl 1 rfl) ?_
          refine lv_iload_n hx hb dX4_row_60 rfl (lv_at hl 3 rfl) ?_
          refine lz_iast (f := mn) hx hb hK hP hD hS 2 rfl rr (by omega) (Nat.le_of_ble_eq_true rfl) dX4_row_61 (lzM m q (upd (upd S 0 0) 1 0) ++ (lzI G (q 2) 8 (upd ln rr lx) ++ (lzI G (q 3) 8 (upd mn rr n) ++ (lzI G (q 4) 320 g)))) rfl (fun H locs hP hD hS => ?_)
          refine lv_iconst (v := 0) hx hb dX4_row_62 (by decide) ?_
          refine lv_istore (lv' := [(4, .int 0), (0, .ref m), (1, .int (nI rr)), (2, .int lx), (3, .int n)]) hx hb dX4_row_63 hl (by decide) rfl (fun ls hl => ?_)
          have J_65 : ∀ (n9 : Nat), ∀ (j : Nat), (j ≤ 40) → 40 - j < n9 → ∀ (H : Heap) (locs : List Loc), va_P G.1 lzC (lzM m q (upd (upd S 0 0) 1 0) ++ (lzI G (q 2) 8 (upd ln rr lx) ++ (lzI G (q 3) 8 (upd mn rr n) ++ (lzI G (q 4) 320 (rowZ g rr j))))) H → va_D A (lzM m q (upd (upd S 0 0) 1 0) ++ (lzI G (q 2) 8 (upd ln rr lx) ++ (lzI G (q 3) 8 (upd mn rr n) ++ (lzI G (q 4) 320 (rowZ g rr j))))) → va_S A ss.heap H locs → ∀ ls : Array Slot, lv_has ls 5 [(4, .int (nI j)), (0, .ref m), (1, .int (nI rr)), (2, .int lx), (3, .int n)] → W pp l ee ({ frames := 2, cells := 0, slots := 0, locals := 45 }) ss mm ([.ref m, .int (nI rr), .int lx, .int n] : List Value).toArray bl me cd H locs 0 0 (MQ bl (va_Qi (S := Unit) (fun (r : Int32) (_ : Unit) => r = n) (rwB G (fun _ : Unit => (lzM m q (upd (upd S 0 0) 1 0) ++ (lzI G (q 2) 8 (upd ln rr lx) ++ (lzI G (q 3) 8 (upd mn rr n) ++ (lzI G (q 4) 320 (rowZ g rr 40))))))) A) ([.ref m, .int (nI rr), .int lx, .int n] : List Value).toArray ss 0 0 A) (F0 mm 65 ls []) := by
            intro n9
            induction n9 with
            | zero => intro j hj hn; exact absurd hn (Nat.not_lt_zero _)
            | succ n9 ih_65 =>
              intro j hj hn_65 H locs hP hD hS ls hl
              refine lv_iload hx hb dX4_row_65 (lv_at hl 0 rfl) ?_
              refine lv_bipush (v := 40) hx hb dX4_row_67 (by decide) ?_
              refine lv_icmp_ge (tgt := 91) hx hb dX4_row_69 (by decide) (fun c_69 => ?_) (fun c_69 => ?_)
              · skip
                have c_69' := Int32.not_lt.mpr c_69
                have hj2 : 40 ≤ j := lz_ge (N := 40) rfl c_69 (by omega) (by omega)
                have hj3 : j = 40 := by omega
                refine lv_iload_n hx hb dX4_row_91 rfl (lv_at hl 4 rfl) ?_
                exact rw_iret (S := Unit) (G := G) (Wd := fun _ : Unit => (lzM m q (upd (upd S 0 0) 1 0) ++ (lzI G (q 2) 8 (upd ln rr lx) ++ (lzI G (q 3) 8 (upd mn rr n) ++ (lzI G (q 4) 320 (rowZ g rr 40)))))) () hx hb hr hlk dX4_row_92 hS (by rw [hj3] at hP; exact hP) (rfl)
              · skip
                have c_69' := Int32.not_le.mp c_69
                have hj2 : j < 40 := lz_lt (N := 40) rfl c_69 (by omega) (by omega)
                refine lv_aload_n hx hb dX4_row_72 rfl (lv_at hl 1 rfl) ?_
                refine lz_get (G := G) (ci := 4) (v := .ref (q 4)) (C := RX4) (T := TX4) (N := 24) hx hb hu_wsX40 (fun _ h9 => h9) hown hK hP 0 rfl rfl 4 (by decide) hw7 rfl rfl dX4_row_73 ?_
                refine lv_bipush (v := 40) hx hb dX4_row_76 (by decide) ?_
                refine lv_iload_n hx hb dX4_row_78 rfl (lv_at hl 2 rfl) ?_
                refine lv_imul hx hb dX4_row_79 ?_
                refine lv_iload hx hb dX4_row_80 (lv_at hl 0 rfl) ?_
                refine lv_iadd hx hb dX4_row_82 ?_
                refine lz_top (y := nI (40 * rr + j)) (by simp only [fa_lit, pk_mul, nI_add]) ?_
                refine lv_iconst (v := 0) hx hb dX4_row_83 (by decide) ?_
                refine lz_iast (f := rowZ g rr j) hx hb hK hP hD hS 3 rfl (40 * rr + j) (by omega) (Nat.le_of_ble_eq_true rfl) dX4_row_84 (lzM m q (upd (upd S 0 0) 1 0) ++ (lzI G (q 2) 8 (upd ln rr lx) ++ (lzI G (q 3) 8 (upd mn rr n) ++ (lzI G (q 4) 320 (upd (rowZ g rr j) (40 * rr + j) 0))))) rfl (fun H locs hP hD hS => ?_)
                refine lv_iinc (v := nI (j + 1)) (lv' := [(4, .int (nI (j + 1))), (0, .ref m), (1, .int (nI rr)), (2, .int lx), (3, .int n)]) hx hb dX4_row_85 hl (k := 0) rfl (nI_1 _) (by decide) rfl (fun ls hl => ?_)
                refine lv_goto (tgt := 65) hx hb dX4_row_88 (by decide) ?_
                have hE_3 : upd (rowZ g rr j) (40 * rr + j) 0 = rowZ g rr (j + 1) := rowZ_s _ _ _
                replace hP : va_P G.1 lzC (lzM m q (upd (upd S 0 0) 1 0) ++ (lzI G (q 2) 8 (upd ln rr lx) ++ (lzI G (q 3) 8 (upd mn rr n) ++ (lzI G (q 4) 320 (rowZ g rr (j + 1)))))) H := by rw [← hE_3]; exact hP
                replace hD : va_D A (lzM m q (upd (upd S 0 0) 1 0) ++ (lzI G (q 2) 8 (upd ln rr lx) ++ (lzI G (q 3) 8 (upd mn rr n) ++ (lzI G (q 4) 320 (rowZ g rr (j + 1)))))) := by rw [← hE_3]; exact hD
                exact ih_65 (j + 1) (by omega) (by omega) _ _ hP hD hS _ (lv_sub hl [0, 1, 2, 3, 4] rfl)
          have hE_4 : g = rowZ g rr 0 := (rowZ_0 _ _).symm
          replace hP : va_P G.1 lzC (lzM m q (upd (upd S 0 0) 1 0) ++ (lzI G (q 2) 8 (upd ln rr lx) ++ (lzI G (q 3) 8 (upd mn rr n) ++ (lzI G (q 4) 320 (rowZ g rr 0))))) H := by rw [← hE_4]; exact hP
          replace hD : va_D A (lzM m q (upd (upd S 0 0) 1 0) ++ (lzI G (q 2) 8 (upd ln rr lx) ++ (lzI G (q 3) 8 (upd mn rr n) ++ (lzI G (q 4) 320 (rowZ g rr 0))))) := by rw [← hE_4]; exact hD
          exact J_65 _ 0 (by omega) (Nat.lt_succ_self _) _ _ hP hD hS _ (lv_sub hl [0, 1, 2, 3, 4] rfl)
        · skip
          have c_39' := Int32.not_le.mp c_39
          exact absurd hn c_39
      · skip
        have c_27' := Int32.not_le.mp c_27
        exact absurd h40 c_27
set_option maxHeartbeats 4000000 in
set_option maxRecDepth 100000 in
theorem c_X4_set_bad (l : Launch) (G : lzG) (m : Nat) (q : Nat → Nat) (S : Nat → Int32) (ln mn g : Nat → Int32) (a i v : Int32) (hbad : inR a 0 7 = false) : Met l yX4_set wsX4_set ({ frames := 2, cells := 0, slots := 0, locals := 45 }) (va_Pc [.ref m, .int a, .int i, .int v] (rwP G (lzM m q S ++ (lzI G (q 2) 8 ln ++ (lzI G (q 3) 8 mn ++ (lzI G (q 4) 320 g)))))) (va_Qi (S := Unit) (fun (r : Int32) (_ : Unit) => r = -1000001) (rwB G (fun _ : Unit => (lzM m q (upd S 0 0) ++ (lzI G (q 2) 8 ln ++ (lzI G (q 3) 8 mn ++ (lzI G (q 4) 320 g)))))) (lzA (lzM m q S ++ (lzI G (q 2) 8 ln ++ (lzI G (q 3) 8 mn ++ (lzI G (q 4) 320 g)))))) 0 0 (lzA (lzM m q S ++ (lzI G (q 2) 8 ln ++ (lzI G (q 3) 8 mn ++ (lzI G (q 4) 320 g))))) := by
  refine rw_start (S := Unit) (cc := cX4_set) (maxL := 4) (ret := (some .int)) (by decide) rfl (Nat.le_of_ble_eq_true rfl) ?_
  intro pp ee ss mm bl me cd A hx hb hr hlk hml hts hown hP hK hD hAe hS ls hl
  have hA0 : ∀ zz : Nat, lzA (lzM m q S ++ (lzI G (q 2) 8 ln ++ (lzI G (q 3) 8 mn ++ (lzI G (q 4) 320 g)))) zz → A zz := fun zz h9 => by rw [hAe]; exact h9
  rw [← hAe]
  clear hAe
  have hown : ss.vm.findClass RX4 = some mm.cls := hown
  have hw1 := hts (.fieldLink RX4 48 "LampSquaresModel" "thrown" "I") (List.mem_of_getElem? (i := 1) rfl)
  have hw2 := hts (.constant RX4 68 (-1000001)) (List.mem_of_getElem? (i := 2) rfl)
  have hu_wsX40 : ∀ w ∈ wsX40, w.before ([.ref m, .int a, .int i, .int v] : List Value).toArray ss = true := fun w h9 => hts w (List.mem_cons_of_mem _ (List.mem_append_right _ h9))
  have hl : lv_has ls 4 [(0, .ref m), (1, .int a), (2, .int i), (3, .int v)] := hl
  refine lv_aload_n hx hb dX4_set_0 rfl (lv_at hl 0 rfl) ?_
  refine lv_iconst (v := 0) hx hb dX4_set_1 (by decide) ?_
  refine lz_put (G := G) (ci := 4) (C := RX4) (T := TX4) (N := 24) hx hb hu_wsX40 (fun _ h9 => h9) tyX4 tyX4_ok nmX4 hown hK hP hD hS 0 rfl rfl 0 (by decide) hw1 rfl rfl (by decide +kernel) (Nat.le_of_ble_eq_true rfl) dX4_set_2 (lzM m q (upd S 0 0) ++ (lzI G (q 2) 8 ln ++ (lzI G (q 3) 8 mn ++ (lzI G (q 4) 320 g)))) rfl (fun H locs hP hD hS => ?_)
  refine lv_iload_n hx hb dX4_set_5 rfl (lv_at hl 1 rfl) ?_
  refine ro_calli (va_runS (As := [.int a]) (rest := []) ⟨hx, hb, hml, hown, hts⟩ (c_X4_isRow l G a ) (cwS 1 hts gX4_set_X4_isRow rfl rfl rfl (by decide +kernel) ⟨Nat.le_of_ble_eq_true rfl, Nat.le_of_ble_eq_true rfl⟩) (ro_pre hK (fun k q h => by simp at h)) rfl rfl hl.1 rfl (lv_room (Nat.le_of_ble_eq_true rfl)) dX4_set_6 ⟨Nat.zero_le _, Nat.zero_le _⟩) (fun r_1 hr_1 => ?_)
  refine lv_if_ne (tgt := 15) hx hb dX4_set_9 (by decide) (fun c_9 => ?_) (fun c_9 => ?_)
  · skip
    have c_9 := b2_n hr_1 c_9
    exact Bool.noConfusion (hbad.symm.trans c_9)
  · skip
    have c_9 := b2_z hr_1 c_9
    refine lv_ldc hx hb hown hw2 dX4_set_12 ?_
    exact rw_iret (S := Unit) (G := G) (Wd := fun _ : Unit => (lzM m q (upd S 0 0) ++ (lzI G (q 2) 8 ln ++ (lzI G (q 3) 8 mn ++ (lzI G (q 4) 320 g))))) () hx hb hr hlk dX4_set_14 hS (hP) (rfl)
set_option maxHeartbeats 4000000 in
set_option maxRecDepth 100000 in
theorem c_X4_set_null (l : Launch) (G : lzG) (m : Nat) (q : Nat → Nat) (S : Nat → Int32) (ln mn g : Nat → Int32) (rr : Nat) (i v : Int32) (hrw : rr < 8) (hm : ln rr < 0) : Met l yX4_set wsX4_set ({ frames := 2, cells := 0, slots := 0, locals := 45 }) (va_Pc [.ref m, .int (nI rr), .int i, .int v] (rwP G (lzM m q S ++ (lzI G (q 2) 8 ln ++ (lzI G (q 3) 8 mn ++ (lzI G (q 4) 320 g)))))) (va_Qi (S := Unit) (fun (r : Int32) (_ : Unit) => r = -1000011) (rwB G (fun _ : Unit => (lzM m q (upd (upd S 0 0) 1 1) ++ (lzI G (q 2) 8 ln ++ (lzI G (q 3) 8 mn ++ (lzI G (q 4) 320 g)))))) (lzA (lzM m q S ++ (lzI G (q 2) 8 ln ++ (lzI G (q 3) 8 mn ++ (lzI G (q 4) 320 g)))))) 0 0 (lzA (lzM m q S ++ (lzI G (q 2) 8 ln ++ (lzI G (q 3) 8 mn ++ (lzI G (q 4) 320 g))))) := by
  have hA : inR (nI rr) 0 7 = true := inR_row hrw
  refine rw_start (S := Unit) (cc := cX4_set) (maxL := 4) (ret := (some .int)) (by decide) rfl (Nat.le_of_ble_eq_true rfl) ?_
  intro pp ee ss mm bl me cd A hx hb hr hlk hml hts hown hP hK hD hAe hS ls hl
  have hA0 : ∀ zz : Nat, lzA (lzM m q S ++ (lzI G (q 2) 8 ln ++ (lzI G (q 3) 8 mn ++ (lzI G (q 4) 320 g)))) zz → A zz := fun zz h9 => by rw [hAe]; exact h9
  rw [← hAe]
  clear hAe
  have hown : ss.vm.findClass RX4 = some mm.cls := hown
  have hw1 := hts (.fieldLink RX4 48 "LampSquaresModel" "thrown" "I") (List.mem_of_getElem? (i := 1) rfl)
  have hw3 := hts (.fieldLink RX4 52 "LampSquaresModel" "status" "I") (List.mem_of_getElem? (i := 3) rfl)
  have hw4 := hts (.fieldLink RX4 7 "LampSquaresModel" "lane" "[I") (List.mem_of_getElem? (i := 4) rfl)
  have hu_wsX40 : ∀ w ∈ wsX40, w.before ([.ref m, .int (nI rr), .int i, .int v] : List Value).toArray ss = true := fun w h9 => hts w (List.mem_cons_of_mem _ (List.mem_append_right _ h9))
  have hl : lv_has ls 4 [(0, .ref m), (1, .int (nI rr)), (2, .int i), (3, .int v)] := hl
  refine lv_aload_n hx hb dX4_set_0 rfl (lv_at hl 0 rfl) ?_
  refine lv_iconst (v := 0) hx hb dX4_set_1 (by decide) ?_
  refine lz_put (G := G) (ci := 4) (C := RX4) (T := TX4) (N := 24) hx hb hu_wsX40 (fun _ h9 => h9) tyX4 tyX4_ok nmX4 hown hK hP hD hS 0 rfl rfl 0 (by decide) hw1 rfl rfl (by decide +kernel) (Nat.le_of_ble_eq_true rfl) dX4_set_2 (lzM m q (upd S 0 0) ++ (lzI G (q 2) 8 ln ++ (lzI G (q 3) 8 mn ++ (lzI G (q 4) 320 g)))) rfl (fun H locs hP hD hS => ?_)
  refine lv_iload_n hx hb dX4_set_5 rfl (lv_at hl 1 rfl) ?_
  refine ro_calli (va_runS (As := [.int (nI rr)]) (rest := []) ⟨hx, hb, hml, hown, hts⟩ (c_X4_isRow l G (nI rr) ) (cwS 1 hts gX4_set_X4_isRow rfl rfl rfl (by decide +kernel) ⟨Nat.le_of_ble_eq_true rfl, Nat.le_of_ble_eq_true rfl⟩) (ro_pre hK (fun k q h => by simp at h)) rfl rfl hl.1 rfl (lv_room (Nat.le_of_ble_eq_true rfl)) dX4_set_6 ⟨Nat.zero_le _, Nat.zero_le _⟩) (fun r_1 hr_1 => ?_)
  refine lv_if_ne (tgt := 15) hx hb dX4_set_9 (by decide) (fun c_9 => ?_) (fun c_9 => ?_)
  · skip
    have c_9 := b2_n hr_1 c_9
    refine lv_aload_n hx hb dX4_set_15 rfl (lv_at hl 0 rfl) ?_
    refine lv_iconst (v := 0) hx hb dX4_set_16 (by decide) ?_
    refine lz_put (G := G) (ci := 4) (C := RX4) (T := TX4) (N := 24) hx hb hu_wsX40 (fun _ h9 => h9) tyX4 tyX4_ok nmX4 hown hK hP hD hS 0 rfl rfl 1 (by decide) hw3 rfl rfl (by decide +kernel) (Nat.le_of_ble_eq_true rfl) dX4_set_17 (lzM m q (upd (upd S 0 0) 1 0) ++ (lzI G (q 2) 8 ln ++ (lzI G (q 3) 8 mn ++ (lzI G (q 4) 320 g)))) rfl (fun H locs hP hD hS => ?_)
    refine lv_aload_n hx hb dX4_set_20 rfl (lv_at hl 0 rfl) ?_
    refine lz_get (G := G) (ci := 4) (v := .ref (q 2)) (C := RX4) (T := TX4) (N := 24) hx hb hu_wsX40 (fun _ h9 => h9) hown hK hP 0 rfl rfl 2 (by decide) hw4 rfl rfl dX4_set_21 ?_
    refine lv_iload_n hx hb dX4_set_24 rfl (lv_at hl 1 rfl) ?_
    refine lz_iald (f := ln) hx hb hK hP 1 rfl rr (by omega) (Nat.le_of_ble_eq_true rfl) dX4_set_25 ?_
    refine lv_if_ge (tgt := 35) hx hb dX4_set_26 (by decide) (fun c_26 => ?_) (fun c_26 => ?_)
    · skip
      have c_26' := Int32.not_lt.mpr c_26
      exact absurd hm (Int32.not_lt.mpr c_26)
    · skip
      have c_26' := Int32.not_le.mp c_26
      refine lv_aload_n hx hb dX4_set_29 rfl (lv_at hl 0 rfl) ?_
      refine lv_iconst (v := 1) hx hb dX4_set_30 (by decide) ?_
      have hPc := hP.sub (ws' := lzM m q (upd (upd S 0 0) 1 0)) [0] rfl
      have hDc := hD.sub (ws' := lzM m q (upd (upd S 0 0) 1 0)) [0] (by decide) rfl
      have hFc : ∀ zz : Nat, lzA (lzM m q (upd (upd S 0 0) 1 0)) zz → A zz := lz_free hD [0] rfl
      refine va_calli (va_runV (As := [.int 1]) (rest := []) ⟨hx, hb, hml, hown, hts⟩ (c_X4_finding l G m q (upd (upd S 0 0) 1 0) 1 ) (cwV 1 hts gX4_set_X4_finding rfl rfl rfl (by decide +kernel) ⟨Nat.le_of_ble_eq_true rfl, Nat.le_of_ble_eq_true rfl⟩) (rw_preV hK hPc hDc hP (ci := 4) (q0 := 0) rfl rfl) rfl rfl hl.1 rfl (lv_room (Nat.le_of_ble_eq_true rfl)) dX4_set_31 ⟨Nat.zero_le _, Nat.zero_le _⟩) hS (fun q _ h => hFc q h) hFc (fun r_2 u_3 t9 H1 locs ht hvm hr_2 hB hz1 hk1 hS => ?_)
      replace hB : va_P G.1 lzC _ t9.heap := hB
      rw [ht] at hB
      obtain ⟨hP, hD⟩ := lz_join (wc := lzM m q (upd (upd S 0 0) 1 0)) (wr := ([(q 2, .inl (G.2 0, 8, .inl ln)), (q 3, .inl (G.2 0, 8, .inl mn)), (q 4, .inl (G.2 0, 320, .inl g))] : va_W)) (w1 := lzM m q (upd (upd S 0 0) 1 1)) hP hD [0] [1, 2, 3] rfl rfl (by decide) (by decide) rfl hk1 hB
      replace hP := hP.sub (ws' := (lzM m q (upd (upd S 0 0) 1 1) ++ (lzI G (q 2) 8 ln ++ (lzI G (q 3) 8 mn ++ (lzI G (q 4) 320 g))))) [3, 0, 1, 2] rfl
      replace hD := hD.sub (ws' := (lzM m q (upd (upd S 0 0) 1 1) ++ (lzI G (q 2) 8 ln ++ (lzI G (q 3) 8 mn ++ (lzI G (q 4) 320 g))))) [3, 0, 1, 2] (by decide) rfl
      clear ht hvm hB hz1 hk1
      generalize H1 = H at hP hS ⊢
      refine lz_top (y := -1000010 - 1) hr_2 ?_
      exact rw_iret (S := Unit) (G := G) (Wd := fun _ : Unit => (lzM m q (upd (upd S 0 0) 1 1) ++ (lzI G (q 2) 8 ln ++ (lzI G (q 3) 8 mn ++ (lzI G (q 4) 320 g))))) () hx hb hr hlk dX4_set_34 hS (hP) (rfl)
  · skip
    have c_9 := b2_z hr_1 c_9
    exact Bool.noConfusion (hA.symm.trans c_9)
set_option maxHeartbeats 4000000 in
set_option maxRecDepth 100000 in
theorem c_X4_set_place (l : Launch) (G : lzG) (m : Nat) (q : Nat → Nat) (S : Nat → Int32) (ln mn g : Nat → Int32) (rr : Nat) (i v : Int32) (hrw : rr < 8) (hm : 0 ≤ ln rr) (hp : inR i 0 (mn rr - 1) = false) : Met l yX4_set wsX4_set ({ frames := 2, cells := 0, slots := 0, locals := 45 }) (va_Pc [.ref m, .int (nI rr), .int i, .int v] (rwP G (lzM m q S ++ (lzI G (q 2) 8 ln ++ (lzI G (q 3) 8 mn ++ (lzI G (q 4) 320 g)))))) (va_Qi (S := Unit) (fun (r : Int32) (_ : Unit) => r = -1000012) (rwB G (fun _ : Unit => (lzM m q (upd (upd S 0 0) 1 2) ++ (lzI G (q 2) 8 ln ++ (lzI G (q 3) 8 mn ++ (lzI G (q 4) 320 g)))))) (lzA (lzM m q S ++ (lzI G (q 2) 8 ln ++ (lzI G (q 3) 8 mn ++ (lzI G (q 4) 320 g)))))) 0 0 (lzA (lzM m q S ++ (lzI G (q 2) 8 ln ++ (lzI G (q 3) 8 mn ++ (lzI G (q 4) 320 g))))) := by
  have hA : inR (nI rr) 0 7 = true := inR_row hrw
  have hpL : inL i.toInt64 0 (mn rr - 1).toInt64 = false := (inL_of i 0 (mn rr - 1)).trans hp
  refine rw_start (S := Unit) (cc := cX4_set) (maxL := 4) (ret := (some .int)) (by decide) rfl (Nat.le_of_ble_eq_true rfl) ?_
  intro pp ee ss mm bl me cd A hx hb hr hlk hml hts hown hP hK hD hAe hS ls hl
  have hA0 : ∀ zz : Nat, lzA (lzM m q S ++ (lzI G (q 2) 8 ln ++ (lzI G (q 3) 8 mn ++ (lzI G (q 4) 320 g)))) zz → A zz := fun zz h9 => by rw [hAe]; exact h9
  rw [← hAe]
  clear hAe
  have hown : ss.vm.findClass RX4 = some mm.cls := hown
  have hw1 := hts (.fieldLink RX4 48 "LampSquaresModel" "thrown" "I") (List.mem_of_getElem? (i := 1) rfl)
  have hw3 := hts (.fieldLink RX4 52 "LampSquaresModel" "status" "I") (List.mem_of_getElem? (i := 3) rfl)
  have hw4 := hts (.fieldLink RX4 7 "LampSquaresModel" "lane" "[I") (List.mem_of_getElem? (i := 4) rfl)
  have hw5 := hts (.fieldLink RX4 13 "LampSquaresModel" "many" "[I") (List.mem_of_getElem? (i := 5) rfl)
  have hu_wsX40 : ∀ w ∈ wsX40, w.before ([.ref m, .int (nI rr), .int i, .int v] : List Value).toArray ss = true := fun w h9 => hts w (List.mem_cons_of_mem _ (List.mem_append_right _ h9))
  have hl : lv_has ls 4 [(0, .ref m), (1, .int (nI rr)), (2, .int i), (3, .int v)] := hl
  refine lv_aload_n hx hb dX4_set_0 rfl (lv_at hl 0 rfl) ?_
  refine lv_iconst (v := 0) hx hb dX4_set_1 (by decide) ?_
  refine lz_put (G := G) (ci := 4) (C := RX4) (T := TX4) (N := 24) hx hb hu_wsX40 (fun _ h9 => h9) tyX4 tyX4_ok nmX4 hown hK hP hD hS 0 rfl rfl 0 (by decide) hw1 rfl rfl (by decide +kernel) (Nat.le_of_ble_eq_true rfl) dX4_set_2 (lzM m q (upd S 0 0) ++ (lzI G (q 2) 8 ln ++ (lzI G (q 3) 8 mn ++ (lzI G (q 4) 320 g)))) rfl (fun H locs hP hD hS => ?_)
  refine lv_iload_n hx hb dX4_set_5 rfl (lv_at hl 1 rfl) ?_
  refine ro_calli (va_runS (As := [.int (nI rr)]) (rest := []) ⟨hx, hb, hml, hown, hts⟩ (c_X4_isRow l G (nI rr) ) (cwS 1 hts gX4_set_X4_isRow rfl rfl rfl (by decide +kernel) ⟨Nat.le_of_ble_eq_true rfl, Nat.le_of_ble_eq_true rfl⟩) (ro_pre hK (fun k q h => by simp at h)) rfl rfl hl.1 rfl (lv_room (Nat.le_of_ble_eq_true rfl)) dX4_set_6 ⟨Nat.zero_le _, Nat.zero_le _⟩) (fun r_1 hr_1 => ?_)
  refine lv_if_ne (tgt := 15) hx hb dX4_set_9 (by decide) (fun c_9 => ?_) (fun c_9 => ?_)
  · skip
    have c_9 := b2_n hr_1 c_9
    refine lv_aload_n hx hb dX4_set_15 rfl (lv_at hl 0 rfl) ?_
    refine lv_iconst (v := 0) hx hb dX4_set_16 (by decide) ?_
    refine lz_put (G := G) (ci := 4) (C := RX4) (T := TX4) (N := 24) hx hb hu_wsX40 (fun _ h9 => h9) tyX4 tyX4_ok nmX4 hown hK hP hD hS 0 rfl rfl 1 (by decide) hw3 rfl rfl (by decide +kernel) (Nat.le_of_ble_eq_true rfl) dX4_set_17 (lzM m q (upd (upd S 0 0) 1 0) ++ (lzI G (q 2) 8 ln ++ (lzI G (q 3) 8 mn ++ (lzI G (q 4) 320 g)))) rfl (fun H locs hP hD hS => ?_)
    refine lv_aload_n hx hb dX4_set_20 rfl (lv_at hl 0 rfl) ?_
    refine lz_get (G := G) (ci := 4) (v := .ref (q 2)) (C := RX4) (T := TX4) (N := 24) hx hb hu_wsX40 (fun _ h9 => h9) hown hK hP 0 rfl rfl 2 (by decide) hw4 rfl rfl dX4_set_21 ?_
    refine lv_iload_n hx hb dX4_set_24 rfl (lv_at hl 1 rfl) ?_
    refine lz_iald (f := ln) hx hb hK hP 1 rfl rr (by omega) (Nat.le_of_ble_eq_true rfl) dX4_set_25 ?_
    refine lv_if_ge (tgt := 35) hx hb dX4_set_26 (by decide) (fun c_26 => ?_) (fun c_26 => ?_)
    · skip
      have c_26' := Int32.not_lt.mpr c_26
      refine lv_iload_n hx hb dX4_set_35 rfl (lv_at hl 2 rfl) ?_
      refine lv_i2l hx hb dX4_set_36 rfl ?_
      refine lv_lconst (v := 0) hx hb dX4_set_37 (by decide) ?_
      refine lv_aload_n hx hb dX4_set_38 rfl (lv_at hl 0 rfl) ?_
      refine lz_get (G := G) (ci := 4) (v := .ref (q 3)) (C := RX4) (T := TX4) (N := 24) hx hb hu_wsX40 (fun _ h9 => h9) hown hK hP 0 rfl rfl 3 (by decide) hw5 rfl rfl dX4_set_39 ?_
      refine lv_iload_n hx hb dX4_set_42 rfl (lv_at hl 1 rfl) ?_
      refine lz_iald (f := mn) hx hb hK hP 2 rfl rr (by omega) (Nat.le_of_ble_eq_true rfl) dX4_set_43 ?_
      refine lv_iconst (v := 1) hx hb dX4_set_44 (by decide) ?_
      refine lv_isub hx hb dX4_set_45 ?_
      refine lv_i2l hx hb dX4_set_46 rfl ?_
      refine ro_calli (va_runS (As := [.long i.toInt64, .long 0, .long (((mn rr) - 1).toInt64)]) (rest := []) ⟨hx, hb, hml, hown, hts⟩ (c_X4_in l G i.toInt64 0 (((mn rr) - 1).toInt64) ) (cwS 3 hts gX4_set_X4_in rfl rfl rfl (by decide +kernel) ⟨Nat.le_of_ble_eq_true rfl, Nat.le_of_ble_eq_true rfl⟩) (ro_pre hK (fun k q h => by simp at h)) rfl rfl hl.1 rfl (lv_room (Nat.le_of_ble_eq_true rfl)) dX4_set_47 ⟨Nat.zero_le _, Nat.zero_le _⟩) (fun r_2 hr_2 => ?_)
      refine lv_if_ne (tgt := 59) hx hb dX4_set_50 (by decide) (fun c_50 => ?_) (fun c_50 => ?_)
      · skip
        have c_50 := b2_n hr_2 c_50
        exact Bool.noConfusion (hpL.symm.trans c_50)
      · skip
        have c_50 := b2_z hr_2 c_50
        refine lv_aload_n hx hb dX4_set_53 rfl (lv_at hl 0 rfl) ?_
        refine lv_iconst (v := 2) hx hb dX4_set_54 (by decide) ?_
        have hPc := hP.sub (ws' := lzM m q (upd (upd S 0 0) 1 0)) [0] rfl
        have hDc := hD.sub (ws' := lzM m q (upd (upd S 0 0) 1 0)) [0] (by decide) rfl
        have hFc : ∀ zz : Nat, lzA (lzM m q (upd (upd S 0 0) 1 0)) zz → A zz := lz_free hD [0] rfl
        refine va_calli (va_runV (As := [.int 2]) (rest := []) ⟨hx, hb, hml, hown, hts⟩ (c_X4_finding l G m q (upd (upd S 0 0) 1 0) 2 ) (cwV 1 hts gX4_set_X4_finding rfl rfl rfl (by decide +kernel) ⟨Nat.le_of_ble_eq_true rfl, Nat.le_of_ble_eq_true rfl⟩) (rw_preV hK hPc hDc hP (ci := 4) (q0 := 0) rfl rfl) rfl rfl hl.1 rfl (lv_room (Nat.le_of_ble_eq_true rfl)) dX4_set_55 ⟨Nat.zero_le _, Nat.zero_le _⟩) hS (fun q _ h => hFc q h) hFc (fun r_3 u_4 t9 H1 locs ht hvm hr_3 hB hz1 hk1 hS => ?_)
        replace hB : va_P G.1 lzC _ t9.heap := hB
        rw [ht] at hB
        obtain ⟨hP, hD⟩ := lz_join (wc := lzM m q (upd (upd S 0 0) 1 0)) (wr := ([(q 2, .inl (G.2 0, 8, .inl ln)), (q 3, .inl (G.2 0, 8, .inl mn)), (q 4, .inl (G.2 0, 320, .inl g))] : va_W)) (w1 := lzM m q (upd (upd S 0 0) 1 2)) hP hD [0] [1, 2, 3] rfl rfl (by decide) (by decide) rfl hk1 hB
        replace hP := hP.sub (ws' := (lzM m q (upd (upd S 0 0) 1 2) ++ (lzI G (q 2) 8 ln ++ (lzI G (q 3) 8 mn ++ (lzI G (q 4) 320 g))))) [3, 0, 1, 2] rfl
        replace hD := hD.sub (ws' := (lzM m q (upd (upd S 0 0) 1 2) ++ (lzI G (q 2) 8 ln ++ (lzI G (q 3) 8 mn ++ (lzI G (q 4) 320 g))))) [3, 0, 1, 2] (by decide) rfl
        clear ht hvm hB hz1 hk1
        generalize H1 = H at hP hS ⊢
        refine lz_top (y := -1000010 - 2) hr_3 ?_
        exact rw_iret (S := Unit) (G := G) (Wd := fun _ : Unit => (lzM m q (upd (upd S 0 0) 1 2) ++ (lzI G (q 2) 8 ln ++ (lzI G (q 3) 8 mn ++ (lzI G (q 4) 320 g))))) () hx hb hr hlk dX4_set_58 hS (hP) (rfl)
    · skip
      have c_26' := Int32.not_le.mp c_26
      exact absurd hm c_26
  · skip
    have c_9 := b2_z hr_1 c_9
    exact Bool.noConfusion (hA.symm.trans c_9)
set_option maxHeartbeats 4000000 in
set_option maxRecDepth 100000 in
theorem c_X4_set_ok (l : Launch) (G : lzG) (m : Nat) (q : Nat → Nat) (S : Nat → Int32) (ln mn g : Nat → Int32) (rr i : Nat) (v : Int32) (hrw : rr < 8) (hm : 0 ≤ ln rr) (hi40 : i < 40) (hp : inR (nI i) 0 (mn rr - 1) = true) : Met l yX4_set wsX4_set ({ frames := 2, cells := 0, slots := 0, locals := 45 }) (va_Pc [.ref m, .int (nI rr), .int (nI i), .int v] (rwP G (lzM m q S ++ (lzI G (q 2) 8 ln ++ (lzI G (q 3) 8 mn ++ (lzI G (q 4) 320 g)))))) (va_Qi (S := Unit) (fun (r : Int32) (_ : Unit) => r = lowB v (ln rr)) (rwB G (fun _ : Unit => (lzM m q (upd (upd S 0 0) 1 0) ++ (lzI G (q 2) 8 ln ++ (lzI G (q 3) 8 mn ++ (lzI G (q 4) 320 (upd g (40 * rr + i) (lowB v (ln rr))))))))) (lzA (lzM m q S ++ (lzI G (q 2) 8 ln ++ (lzI G (q 3) 8 mn ++ (lzI G (q 4) 320 g)))))) 0 0 (lzA (lzM m q S ++ (lzI G (q 2) 8 ln ++ (lzI G (q 3) 8 mn ++ (lzI G (q 4) 320 g))))) := by
  have hA : inR (nI rr) 0 7 = true := inR_row hrw
  have hpL : inL (nI i).toInt64 0 (mn rr - 1).toInt64 = true := (inL_of (nI i) 0 (mn rr - 1)).trans hp
  refine rw_start (S := Unit) (cc := cX4_set) (maxL := 4) (ret := (some .int)) (by decide) rfl (Nat.le_of_ble_eq_true rfl) ?_
  intro pp ee ss mm bl me cd A hx hb hr hlk hml hts hown hP hK hD hAe hS ls hl
  have hA0 : ∀ zz : Nat, lzA (lzM m q S ++ (lzI G (q 2) 8 ln ++ (lzI G (q 3) 8 mn ++ (lzI G (q 4) 320 g)))) zz → A zz := fun zz h9 => by rw [hAe]; exact h9
  rw [← hAe]
  clear hAe
  have hown : ss.vm.findClass RX4 = some mm.cls := hown
  have hw1 := hts (.fieldLink RX4 48 "LampSquaresModel" "thrown" "I") (List.mem_of_getElem? (i := 1) rfl)
  have hw3 := hts (.fieldLink RX4 52 "LampSquaresModel" "status" "I") (List.mem_of_getElem? (i := 3) rfl)
  have hw4 := hts (.fieldLink RX4 7 "LampSquaresModel" "lane" "[I") (List.mem_of_getElem? (i := 4) rfl)
  have hw5 := hts (.fieldLink RX4 13 "LampSquaresModel" "many" "[I") (List.mem_of_getElem? (i := 5) rfl)
  have hw6 := hts (.fieldLink RX4 16 "LampSquaresModel" "item" "[I") (List.mem_of_getElem? (i := 6) rfl)
  have hu_wsX40 : ∀ w ∈ wsX40, w.before ([.ref m, .int (nI rr), .int (nI i), .int v] : List Value).toArray ss = true := fun w h9 => hts w (List.mem_cons_of_mem _ (List.mem_append_right _ h9))
  have hl : lv_has ls 4 [(0, .ref m), (1, .int (nI rr)), (2, .int (nI i)), (3, .int v)] := hl
  refine lv_aload_n hx hb dX4_set_0 rfl (lv_at hl 0 rfl) ?_
  refine lv_iconst (v := 0) hx hb dX4_set_1 (by decide) ?_
  refine lz_put (G := G) (ci := 4) (C := RX4) (T := TX4) (N := 24) hx hb hu_wsX40 (fun _ h9 => h9) tyX4 tyX4_ok nmX4 hown hK hP hD hS 0 rfl rfl 0 (by decide) hw1 rfl rfl (by decide +kernel) (Nat.le_of_ble_eq_true rfl) dX4_set_2 (lzM m q (upd S 0 0) ++ (lzI G (q 2) 8 ln ++ (lzI G (q 3) 8 mn ++ (lzI G (q 4) 320 g)))) rfl (fun H locs hP hD hS => ?_)
  refine lv_iload_n hx hb dX4_set_5 rfl (lv_at hl 1 rfl) ?_
  refine ro_calli (va_runS (As := [.int (nI rr)]) (rest := []) ⟨hx, hb, hml, hown, hts⟩ (c_X4_isRow l G (nI rr) ) (cwS 1 hts gX4_set_X4_isRow rfl rfl rfl (by decide +kernel) ⟨Nat.le_of_ble_eq_true rfl, Nat.le_of_ble_eq_true rfl⟩) (ro_pre hK (fun k q h => by simp at h)) rfl rfl hl.1 rfl (lv_room (Nat.le_of_ble_eq_true rfl)) dX4_set_6 ⟨Nat.zero_le _, Nat.zero_le _⟩) (fun r_1 hr_1 => ?_)
  refine lv_if_ne (tgt := 15) hx hb dX4_set_9 (by decide) (fun c_9 => ?_) (fun c_9 => ?_)
  · skip
    have c_9 := b2_n hr_1 c_9
    refine lv_aload_n hx hb dX4_set_15 rfl (lv_at hl 0 rfl) ?_
    refine lv_iconst (v := 0) hx hb dX4_set_16 (by decide) ?_
    refine lz_put (G := G) (ci := 4) (C := RX4) (T := TX4) (N := 24) hx hb hu_wsX40 (fun _ h9 => h9) tyX4 tyX4_ok nmX4 hown hK hP hD hS 0 rfl rfl 1 (by decide) hw3 rfl rfl (by decide +kernel) (Nat.le_of_ble_eq_true rfl) dX4_set_17 (lzM m q (upd (upd S 0 0) 1 0) ++ (lzI G (q 2) 8 ln ++ (lzI G (q 3) 8 mn ++ (lzI G (q 4) 320 g)))) rfl (fun H locs hP hD hS => ?_)
    refine lv_aload_n hx hb dX4_set_20 rfl (lv_at hl 0 rfl) ?_
    refine lz_get (G := G) (ci := 4) (v := .ref (q 2)) (C := RX4) (T := TX4) (N := 24) hx hb hu_wsX40 (fun _ h9 => h9) hown hK hP 0 rfl rfl 2 (by decide) hw4 rfl rfl dX4_set_21 ?_
    refine lv_iload_n hx hb dX4_set_24 rfl (lv_at hl 1 rfl) ?_
    refine lz_iald (f := ln) hx hb hK hP 1 rfl rr (by omega) (Nat.le_of_ble_eq_true rfl) dX4_set_25 ?_
    refine lv_if_ge (tgt := 35) hx hb dX4_set_26 (by decide) (fun c_26 => ?_) (fun c_26 => ?_)
    · skip
      have c_26' := Int32.not_lt.mpr c_26
      refine lv_iload_n hx hb dX4_set_35 rfl (lv_at hl 2 rfl) ?_
      refine lv_i2l hx hb dX4_set_36 rfl ?_
      refine lv_lconst (v := 0) hx hb dX4_set_37 (by decide) ?_
      refine lv_aload_n hx hb dX4_set_38 rfl (lv_at hl 0 rfl) ?_
      refine lz_get (G := G) (ci := 4) (v := .ref (q 3)) (C := RX4) (T := TX4) (N := 24) hx hb hu_wsX40 (fun _ h9 => h9) hown hK hP 0 rfl rfl 3 (by decide) hw5 rfl rfl dX4_set_39 ?_
      refine lv_iload_n hx hb dX4_set_42 rfl (lv_at hl 1 rfl) ?_
      refine lz_iald (f := mn) hx hb hK hP 2 rfl rr (by omega) (Nat.le_of_ble_eq_true rfl) dX4_set_43 ?_
      refine lv_iconst (v := 1) hx hb dX4_set_44 (by decide) ?_
      refine lv_isub hx hb dX4_set_45 ?_
      refine lv_i2l hx hb dX4_set_46 rfl ?_
      refine ro_calli (va_runS (As := [.long ((nI i).toInt64), .long 0, .long (((mn rr) - 1).toInt64)]) (rest := []) ⟨hx, hb, hml, hown, hts⟩ (c_X4_in l G ((nI i).toInt64) 0 (((mn rr) - 1).toInt64) ) (cwS 3 hts gX4_set_X4_in rfl rfl rfl (by decide +kernel) ⟨Nat.le_of_ble_eq_true rfl, Nat.le_of_ble_eq_true rfl⟩) (ro_pre hK (fun k q h => by simp at h)) rfl rfl hl.1 rfl (lv_room (Nat.le_of_ble_eq_true rfl)) dX4_set_47 ⟨Nat.zero_le _, Nat.zero_le _⟩) (fun r_2 hr_2 => ?_)
      refine lv_if_ne (tgt := 59) hx hb dX4_set_50 (by decide) (fun c_50 => ?_) (fun c_50 => ?_)
      · skip
        have c_50 := b2_n hr_2 c_50
        refine lv_aload_n hx hb dX4_set_59 rfl (lv_at hl 0 rfl) ?_
        refine lz_get (G := G) (ci := 4) (v := .ref (q 4)) (C := RX4) (T := TX4) (N := 24) hx hb hu_wsX40 (fun _ h9 => h9) hown hK hP 0 rfl rfl 4 (by decide) hw6 rfl rfl dX4_set_60 ?_
        refine lv_bipush (v := 40) hx hb dX4_set_63 (by decide) ?_
        refine lv_iload_n hx hb dX4_set_65 rfl (lv_at hl 1 rfl) ?_
        refine lv_imul hx hb dX4_set_66 ?_
        refine lv_iload_n hx hb dX4_set_67 rfl (lv_at hl 2 rfl) ?_
        refine lv_iadd hx hb dX4_set_68 ?_
        refine lz_top (y := nI (40 * rr + i)) (by simp only [fa_lit, pk_mul, nI_add]) ?_
        refine lv_aload_n hx hb dX4_set_69 rfl (lv_at hl 0 rfl) ?_
        refine lz_get (G := G) (ci := 4) (v := .ref (q 2)) (C := RX4) (T := TX4) (N := 24) hx hb hu_wsX40 (fun _ h9 => h9) hown hK hP 0 rfl rfl 2 (by decide) hw4 rfl rfl dX4_set_70 ?_
        refine lv_iload_n hx hb dX4_set_73 rfl (lv_at hl 1 rfl) ?_
        refine lz_iald (f := ln) hx hb hK hP 1 rfl rr (by omega) (Nat.le_of_ble_eq_true rfl) dX4_set_74 ?_
        refine lv_if_ne (tgt := 83) hx hb dX4_set_75 (by decide) (fun c_75 => ?_) (fun c_75 => ?_)
        · skip
          refine lv_aload_n hx hb dX4_set_83 rfl (lv_at hl 0 rfl) ?_
          refine lz_get (G := G) (ci := 4) (v := .ref (q 2)) (C := RX4) (T := TX4) (N := 24) hx hb hu_wsX40 (fun _ h9 => h9) hown hK hP 0 rfl rfl 2 (by decide) hw4 rfl rfl dX4_set_84 ?_
          refine lv_iload_n hx hb dX4_set_87 rfl (lv_at hl 1 rfl) ?_
          refine lz_iald (f := ln) hx hb hK hP 1 rfl rr (by omega) (Nat.le_of_ble_eq_true rfl) dX4_set_88 ?_
          refine lv_iconst (v := 1) hx hb dX4_set_89 (by decide) ?_
          refine lv_icmp_ne (tgt := 98) hx hb dX4_set_90 (by decide) (fun c_90 => ?_) (fun c_90 => ?_)
          · skip
            refine lv_iload_n hx hb dX4_set_98 rfl (lv_at hl 3 rfl) ?_
            refine lz_iast (f := g) hx hb hK hP hD hS 3 rfl (40 * rr + i) (by omega) (Nat.le_of_ble_eq_true rfl) dX4_set_99 (lzM m q (upd (upd S 0 0) 1 0) ++ (lzI G (q 2) 8 ln ++ (lzI G (q 3) 8 mn ++ (lzI G (q 4) 320 (upd g (40 * rr + i) v))))) rfl (fun H locs hP hD hS => ?_)
            refine lv_aload_n hx hb dX4_set_100 rfl (lv_at hl 0 rfl) ?_
            refine lz_get (G := G) (ci := 4) (v := .ref (q 4)) (C := RX4) (T := TX4) (N := 24) hx hb hu_wsX40 (fun _ h9 => h9) hown hK hP 0 rfl rfl 4 (by decide) hw6 rfl rfl dX4_set_101 ?_
            refine lv_bipush (v := 40) hx hb dX4_set_104 (by decide) ?_
            refine lv_iload_n hx hb dX4_set_106 rfl (lv_at hl 1 rfl) ?_
            refine lv_imul hx hb dX4_set_107 ?_
            refine lv_iload_n hx hb dX4_set_108 rfl (lv_at hl 2 rfl) ?_
            refine lv_iadd hx hb dX4_set_109 ?_
            refine lz_top (y := nI (40 * rr + i)) (by simp only [fa_lit, pk_mul, nI_add]) ?_
            refine lz_iald (f := upd g (40 * rr + i) v) hx hb hK hP 3 rfl (40 * rr + i) (by omega) (Nat.le_of_ble_eq_true rfl) dX4_set_110 ?_
            exact rw_iret (S := Unit) (G := G) (Wd := fun _ : Unit => (lzM m q (upd (upd S 0 0) 1 0) ++ (lzI G (q 2) 8 ln ++ (lzI G (q 3) 8 mn ++ (lzI G (q 4) 320 (upd g (40 * rr + i) (lowB v (ln rr)))))))) () hx hb hr hlk dX4_set_111 hS (by show va_P G.1 lzC (lzM m q (upd (upd S 0 0) 1 0) ++ (lzI G (q 2) 8 ln ++ (lzI G (q 3) 8 mn ++ (lzI G (q 4) 320 (upd g (40 * rr + i) (lowB v (ln rr))))))) _; unfold lowB; first | (rw [if_pos c_75]; exact hP) | (rw [if_neg c_75, if_pos c_90]; exact hP) | (rw [if_neg c_75, if_neg c_90]; exact hP)) (by unfold lowB; first | (rw [if_pos c_75]; exact if_pos rfl) | (rw [if_neg c_75, if_pos c_90]; exact if_pos rfl) | (rw [if_neg c_75, if_neg c_90]; exact if_pos rfl))
          · skip
            refine lv_iload_n hx hb dX4_set_93 rfl (lv_at hl 3 rfl) ?_
            refine lv_i2s hx hb dX4_set_94 rfl ?_
            refine lv_goto (tgt := 99) hx hb dX4_set_95 (by decide) ?_
            refine lz_iast (f := g) hx hb hK hP hD hS 3 rfl (40 * rr + i) (by omega) (Nat.le_of_ble_eq_true rfl) dX4_set_99 (lzM m q (upd (upd S 0 0) 1 0) ++ (lzI G (q 2) 8 ln ++ (lzI G (q 3) 8 mn ++ (lzI G (q 4) 320 (upd g (40 * rr + i) v.toInt16.toInt32))))) rfl (fun H locs hP hD hS => ?_)
            refine lv_aload_n hx hb dX4_set_100 rfl (lv_at hl 0 rfl) ?_
            refine lz_get (G := G) (ci := 4) (v := .ref (q 4)) (C := RX4) (T := TX4) (N := 24) hx hb hu_wsX40 (fun _ h9 => h9) hown hK hP 0 rfl rfl 4 (by decide) hw6 rfl rfl dX4_set_101 ?_
            refine lv_bipush (v := 40) hx hb dX4_set_104 (by decide) ?_
            refine lv_iload_n hx hb dX4_set_106 rfl (lv_at hl 1 rfl) ?_
            refine lv_imul hx hb dX4_set_107 ?_
            refine lv_iload_n hx hb dX4_set_108 rfl (lv_at hl 2 rfl) ?_
            refine lv_iadd hx hb dX4_set_109 ?_
            refine lz_top (y := nI (40 * rr + i)) (by simp only [fa_lit, pk_mul, nI_add]) ?_
            refine lz_iald (f := upd g (40 * rr + i) v.toInt16.toInt32) hx hb hK hP 3 rfl (40 * rr + i) (by omega) (Nat.le_of_ble_eq_true rfl) dX4_set_110 ?_
            exact rw_iret (S := Unit) (G := G) (Wd := fun _ : Unit => (lzM m q (upd (upd S 0 0) 1 0) ++ (lzI G (q 2) 8 ln ++ (lzI G (q 3) 8 mn ++ (lzI G (q 4) 320 (upd g (40 * rr + i) (lowB v (ln rr)))))))) () hx hb hr hlk dX4_set_111 hS (by show va_P G.1 lzC (lzM m q (upd (upd S 0 0) 1 0) ++ (lzI G (q 2) 8 ln ++ (lzI G (q 3) 8 mn ++ (lzI G (q 4) 320 (upd g (40 * rr + i) (lowB v (ln rr))))))) _; unfold lowB; first | (rw [if_pos c_75]; exact hP) | (rw [if_neg c_75, if_pos c_90]; exact hP) | (rw [if_neg c_75, if_neg c_90]; exact hP)) (by unfold lowB; first | (rw [if_pos c_75]; exact if_pos rfl) | (rw [if_neg c_75, if_pos c_90]; exact if_pos rfl) | (rw [if_neg c_75, if_neg c_90]; exact if_pos rfl))
        · skip
          refine lv_iload_n hx hb dX4_set_78 rfl (lv_at hl 3 rfl) ?_
          refine lv_i2b hx hb dX4_set_79 rfl ?_
          refine lv_goto (tgt := 99) hx hb dX4_set_80 (by decide) ?_
          refine lz_iast (f := g) hx hb hK hP hD hS 3 rfl (40 * rr + i) (by omega) (Nat.le_of_ble_eq_true rfl) dX4_set_99 (lzM m q (upd (upd S 0 0) 1 0) ++ (lzI G (q 2) 8 ln ++ (lzI G (q 3) 8 mn ++ (lzI G (q 4) 320 (upd g (40 * rr + i) v.toInt8.toInt32))))) rfl (fun H locs hP hD hS => ?_)
          refine lv_aload_n hx hb dX4_set_100 rfl (lv_at hl 0 rfl) ?_
          refine lz_get (G := G) (ci := 4) (v := .ref (q 4)) (C := RX4) (T := TX4) (N := 24) hx hb hu_wsX40 (fun _ h9 => h9) hown hK hP 0 rfl rfl 4 (by decide) hw6 rfl rfl dX4_set_101 ?_
          refine lv_bipush (v := 40) hx hb dX4_set_104 (by decide) ?_
          refine lv_iload_n hx hb dX4_set_106 rfl (lv_at hl 1 rfl) ?_
          refine lv_imul hx hb dX4_set_107 ?_
          refine lv_iload_n hx hb dX4_set_108 rfl (lv_at hl 2 rfl) ?_
          refine lv_iadd hx hb dX4_set_109 ?_
          refine lz_top (y := nI (40 * rr + i)) (by simp only [fa_lit, pk_mul, nI_add]) ?_
          refine lz_iald (f := upd g (40 * rr + i) v.toInt8.toInt32) hx hb hK hP 3 rfl (40 * rr + i) (by omega) (Nat.le_of_ble_eq_true rfl) dX4_set_110 ?_
          exact rw_iret (S := Unit) (G := G) (Wd := fun _ : Unit => (lzM m q (upd (upd S 0 0) 1 0) ++ (lzI G (q 2) 8 ln ++ (lzI G (q 3) 8 mn ++ (lzI G (q 4) 320 (upd g (40 * rr + i) (lowB v (ln rr)))))))) () hx hb hr hlk dX4_set_111 hS (by show va_P G.1 lzC (lzM m q (upd (upd S 0 0) 1 0) ++ (lzI G (q 2) 8 ln ++ (lzI G (q 3) 8 mn ++ (lzI G (q 4) 320 (upd g (40 * rr + i) (lowB v (ln rr))))))) _; unfold lowB; first | (rw [if_pos c_75]; exact hP) | (rw [if_neg c_75, if_pos c_90]; exact hP) | (rw [if_neg c_75, if_neg c_90]; exact hP)) (by unfold lowB; first | (rw [if_pos c_75]; exact if_pos rfl) | (rw [if_neg c_75, if_pos c_90]; exact if_pos rfl) | (rw [if_neg c_75, if_neg c_90]; exact if_pos rfl))
      · skip
        have c_50 := b2_z hr_2 c_50
        exact Bool.noConfusion (hpL.symm.trans c_50)
    · skip
      have c_26' := Int32.not_le.mp c_26
      exact absurd hm c_26
  · skip
    have c_9 := b2_z hr_1 c_9
    exact Bool.noConfusion (hA.symm.trans c_9)
set_option maxHeartbeats 4000000 in
set_option maxRecDepth 100000 in
theorem c_X4_ask_bad (l : Launch) (G : lzG) (m : Nat) (q : Nat → Nat) (S : Nat → Int32) (f : Nat → Int32) (a what : Int32) (hbad : (inR a 0 (f 2 - 1) && inR what 0 1) = false) : Met l yX4_ask wsX4_ask ({ frames := 2, cells := 0, slots := 0, locals := 46 }) (va_Pc [.ref m, .int a, .int what] (rwP G (lzM m q S ++ lzI G (q 5) 64 f))) (va_Qi (S := Unit) (fun (r : Int32) (_ : Unit) => r = -1000001) (rwB G (fun _ : Unit => (lzM m q (upd S 0 0) ++ lzI G (q 5) 64 f))) (lzA (lzM m q S ++ lzI G (q 5) 64 f))) 0 0 (lzA (lzM m q S ++ lzI G (q 5) 64 f)) := by
  have hbW : (inR a 0 (f 2 - 1) && inL what.toInt64 0 1) = false := by rw [show inL what.toInt64 0 1 = inR what 0 1 from inL_of what 0 1]; exact hbad
  refine rw_start (S := Unit) (cc := cX4_ask) (maxL := 3) (ret := (some .int)) (by decide) rfl (Nat.le_of_ble_eq_true rfl) ?_
  intro pp ee ss mm bl me cd A hx hb hr hlk hml hts hown hP hK hD hAe hS ls hl
  have hA0 : ∀ zz : Nat, lzA (lzM m q S ++ lzI G (q 5) 64 f) zz → A zz := fun zz h9 => by rw [hAe]; exact h9
  rw [← hAe]
  clear hAe
  have hown : ss.vm.findClass RX4 = some mm.cls := hown
  have hw1 := hts (.fieldLink RX4 48 "LampSquaresModel" "thrown" "I") (List.mem_of_getElem? (i := 1) rfl)
  have hw2 := hts (.constant RX4 68 (-1000001)) (List.mem_of_getElem? (i := 2) rfl)
  have hu_wsX40 : ∀ w ∈ wsX40, w.before ([.ref m, .int a, .int what] : List Value).toArray ss = true := fun w h9 => hts w (List.mem_cons_of_mem _ (List.mem_append_right _ h9))
  have hl : lv_has ls 3 [(0, .ref m), (1, .int a), (2, .int what)] := hl
  refine lv_aload_n hx hb dX4_ask_0 rfl (lv_at hl 0 rfl) ?_
  refine lv_iconst (v := 0) hx hb dX4_ask_1 (by decide) ?_
  refine lz_put (G := G) (ci := 4) (C := RX4) (T := TX4) (N := 24) hx hb hu_wsX40 (fun _ h9 => h9) tyX4 tyX4_ok nmX4 hown hK hP hD hS 0 rfl rfl 0 (by decide) hw1 rfl rfl (by decide +kernel) (Nat.le_of_ble_eq_true rfl) dX4_ask_2 (lzM m q (upd S 0 0) ++ lzI G (q 5) 64 f) rfl (fun H locs hP hD hS => ?_)
  refine lv_aload_n hx hb dX4_ask_5 rfl (lv_at hl 0 rfl) ?_
  refine lv_iload_n hx hb dX4_ask_6 rfl (lv_at hl 1 rfl) ?_
  refine ro_calli (va_runV (As := [.int a]) (rest := []) ⟨hx, hb, hml, hown, hts⟩ (c_X4_isSquare l G m q (upd S 0 0) f a ) (cwV 1 hts gX4_ask_X4_isSquare rfl rfl rfl (by decide +kernel) ⟨Nat.le_of_ble_eq_true rfl, Nat.le_of_ble_eq_true rfl⟩) (ro_preV hK hP hP (ci := 4) (q0 := 0) rfl rfl) rfl rfl hl.1 rfl (lv_room (Nat.le_of_ble_eq_true rfl)) dX4_ask_7 ⟨Nat.zero_le _, Nat.zero_le _⟩) (fun r_1 hr_1 => ?_)
  refine lv_if_eq (tgt := 23) hx hb dX4_ask_10 (by decide) (fun c_10 => ?_) (fun c_10 => ?_)
  · skip
    have c_10 := b2_z hr_1 c_10
    refine lv_ldc hx hb hown hw2 dX4_ask_23 ?_
    exact rw_iret (S := Unit) (G := G) (Wd := fun _ : Unit => (lzM m q (upd S 0 0) ++ lzI G (q 5) 64 f)) () hx hb hr hlk dX4_ask_25 hS (hP) (rfl)
  · skip
    have c_10 := b2_n hr_1 c_10
    refine lv_iload_n hx hb dX4_ask_13 rfl (lv_at hl 2 rfl) ?_
    refine lv_i2l hx hb dX4_ask_14 rfl ?_
    refine lv_lconst (v := 0) hx hb dX4_ask_15 (by decide) ?_
    refine lv_lconst (v := 1) hx hb dX4_ask_16 (by decide) ?_
    refine ro_calli (va_runS (As := [.long what.toInt64, .long 0, .long 1]) (rest := []) ⟨hx, hb, hml, hown, hts⟩ (c_X4_in l G what.toInt64 0 1 ) (cwS 3 hts gX4_ask_X4_in rfl rfl rfl (by decide +kernel) ⟨Nat.le_of_ble_eq_true rfl, Nat.le_of_ble_eq_true rfl⟩) (ro_pre hK (fun k q h => by simp at h)) rfl rfl hl.1 rfl (lv_room (Nat.le_of_ble_eq_true rfl)) dX4_ask_17 ⟨Nat.zero_le _, Nat.zero_le _⟩) (fun r_2 hr_2 => ?_)
    refine lv_if_ne (tgt := 26) hx hb dX4_ask_20 (by decide) (fun c_20 => ?_) (fun c_20 => ?_)
    · skip
      have c_20 := b2_n hr_2 c_20
      exact Bool.noConfusion (hbW.symm.trans (by rw [c_10, c_20] <;> rfl))
    · skip
      have c_20 := b2_z hr_2 c_20
      refine lv_ldc hx hb hown hw2 dX4_ask_23 ?_
      exact rw_iret (S := Unit) (G := G) (Wd := fun _ : Unit => (lzM m q (upd S 0 0) ++ lzI G (q 5) 64 f)) () hx hb hr hlk dX4_ask_25 hS (hP) (rfl)
set_option maxHeartbeats 4000000 in
set_option maxRecDepth 100000 in
theorem c_X4_ask_size (l : Launch) (G : lzG) (m : Nat) (q : Nat → Nat) (S : Nat → Int32) (t f : Nat → Int32) (s N M : Nat) (what : Int32) (hN : f 2 = nI N) (hN8 : N ≤ 8) (hM : f 3 = nI M) (hM5 : M ≤ 5) (hs : s < N) (hw : inR what 0 1 = true) (hw0 : what = 0) : Met l yX4_ask wsX4_ask ({ frames := 5, cells := 0, slots := 0, locals := 115 }) (va_Pc [.ref m, .int (nI s), .int what] (rwP G (lzM m q S ++ (lzI G (q 22) 16 t ++ (lzI G (q 5) 64 f))))) (va_Qi (S := Unit) (fun (r : Int32) (_ : Unit) => r = msV (f (4 + 5 * s)) (nI s) (f (4 + 5 * s + 1)) (nI s + cntI (fun z => clkR f z s) M)) (rwB G (fun _ : Unit => (lzM m q (upd (upd S 0 0) 23 (nI (0 + (msL (f (4 + 5 * s))).length))) ++ (lzI G (q 22) 16 (trL t 0 (msL (f (4 + 5 * s)))) ++ (lzI G (q 5) 64 f))))) (lzA (lzM m q S ++ (lzI G (q 22) 16 t ++ (lzI G (q 5) 64 f))))) 0 0 (lzA (lzM m q S ++ (lzI G (q 22) 16 t ++ (lzI G (q 5) 64 f)))) := by
  have hB : inR (nI s) 0 (f 2 - 1) = true := inR_ok hN hs (by omega)
  have hwL : inL what.toInt64 0 1 = true := (inL_of what 0 1).trans hw
  refine rw_start (S := Unit) (cc := cX4_ask) (maxL := 3) (ret := (some .int)) (by decide) rfl (Nat.le_of_ble_eq_true rfl) ?_
  intro pp ee ss mm bl me cd A hx hb hr hlk hml hts hown hP hK hD hAe hS ls hl
  have hA0 : ∀ zz : Nat, lzA (lzM m q S ++ (lzI G (q 22) 16 t ++ (lzI G (q 5) 64 f))) zz → A zz := fun zz h9 => by rw [hAe]; exact h9
  rw [← hAe]
  clear hAe
  have hown : ss.vm.findClass RX4 = some mm.cls := hown
  have hw1 := hts (.fieldLink RX4 48 "LampSquaresModel" "thrown" "I") (List.mem_of_getElem? (i := 1) rfl)
  have hw3 := hts (.fieldLink RX4 263 "LampSquaresModel" "traced" "I") (List.mem_of_getElem? (i := 3) rfl)
  have hu_wsX40 : ∀ w ∈ wsX40, w.before ([.ref m, .int (nI s), .int what] : List Value).toArray ss = true := fun w h9 => hts w (List.mem_cons_of_mem _ (List.mem_append_right _ h9))
  have hl : lv_has ls 3 [(0, .ref m), (1, .int (nI s)), (2, .int what)] := hl
  refine lv_aload_n hx hb dX4_ask_0 rfl (lv_at hl 0 rfl) ?_
  refine lv_iconst (v := 0) hx hb dX4_ask_1 (by decide) ?_
  refine lz_put (G := G) (ci := 4) (C := RX4) (T := TX4) (N := 24) hx hb hu_wsX40 (fun _ h9 => h9) tyX4 tyX4_ok nmX4 hown hK hP hD hS 0 rfl rfl 0 (by decide) hw1 rfl rfl (by decide +kernel) (Nat.le_of_ble_eq_true rfl) dX4_ask_2 (lzM m q (upd S 0 0) ++ (lzI G (q 22) 16 t ++ (lzI G (q 5) 64 f))) rfl (fun H locs hP hD hS => ?_)
  refine lv_aload_n hx hb dX4_ask_5 rfl (lv_at hl 0 rfl) ?_
  refine lv_iload_n hx hb dX4_ask_6 rfl (lv_at hl 1 rfl) ?_
  have hPc := hP.sub (ws' := (lzM m q (upd S 0 0) ++ lzI G (q 5) 64 f)) [0, 2] rfl
  refine ro_calli (va_runV (As := [.int (nI s)]) (rest := []) ⟨hx, hb, hml, hown, hts⟩ (c_X4_isSquare l G m q (upd S 0 0) f (nI s) ) (cwV 1 hts gX4_ask_X4_isSquare rfl rfl rfl (by decide +kernel) ⟨Nat.le_of_ble_eq_true rfl, Nat.le_of_ble_eq_true rfl⟩) (ro_preV hK hPc hP (ci := 4) (q0 := 0) rfl rfl) rfl rfl hl.1 rfl (lv_room (Nat.le_of_ble_eq_true rfl)) dX4_ask_7 ⟨Nat.zero_le _, Nat.zero_le _⟩) (fun r_1 hr_1 => ?_)
  refine lv_if_eq (tgt := 23) hx hb dX4_ask_10 (by decide) (fun c_10 => ?_) (fun c_10 => ?_)
  · skip
    have c_10 := b2_z hr_1 c_10
    exact Bool.noConfusion (hB.symm.trans c_10)
  · skip
    have c_10 := b2_n hr_1 c_10
    refine lv_iload_n hx hb dX4_ask_13 rfl (lv_at hl 2 rfl) ?_
    refine lv_i2l hx hb dX4_ask_14 rfl ?_
    refine lv_lconst (v := 0) hx hb dX4_ask_15 (by decide) ?_
    refine lv_lconst (v := 1) hx hb dX4_ask_16 (by decide) ?_
    refine ro_calli (va_runS (As := [.long what.toInt64, .long 0, .long 1]) (rest := []) ⟨hx, hb, hml, hown, hts⟩ (c_X4_in l G what.toInt64 0 1 ) (cwS 3 hts gX4_ask_X4_in rfl rfl rfl (by decide +kernel) ⟨Nat.le_of_ble_eq_true rfl, Nat.le_of_ble_eq_true rfl⟩) (ro_pre hK (fun k q h => by simp at h)) rfl rfl hl.1 rfl (lv_room (Nat.le_of_ble_eq_true rfl)) dX4_ask_17 ⟨Nat.zero_le _, Nat.zero_le _⟩) (fun r_2 hr_2 => ?_)
    refine lv_if_ne (tgt := 26) hx hb dX4_ask_20 (by decide) (fun c_20 => ?_) (fun c_20 => ?_)
    · skip
      have c_20 := b2_n hr_2 c_20
      refine lv_aload_n hx hb dX4_ask_26 rfl (lv_at hl 0 rfl) ?_
      refine lv_iconst (v := 0) hx hb dX4_ask_27 (by decide) ?_
      refine lz_put (G := G) (ci := 4) (C := RX4) (T := TX4) (N := 24) hx hb hu_wsX40 (fun _ h9 => h9) tyX4 tyX4_ok nmX4 hown hK hP hD hS 0 rfl rfl 23 (by decide) hw3 rfl rfl (by decide +kernel) (Nat.le_of_ble_eq_true rfl) dX4_ask_28 (lzM m q (upd (upd S 0 0) 23 0) ++ (lzI G (q 22) 16 t ++ (lzI G (q 5) 64 f))) rfl (fun H locs hP hD hS => ?_)
      refine lv_iload_n hx hb dX4_ask_31 rfl (lv_at hl 2 rfl) ?_
      refine lv_if_ne (tgt := 43) hx hb dX4_ask_32 (by decide) (fun c_32 => ?_) (fun c_32 => ?_)
      · skip
        exact absurd hw0 c_32
      · skip
        refine lv_aload_n hx hb dX4_ask_35 rfl (lv_at hl 0 rfl) ?_
        refine lv_iload_n hx hb dX4_ask_36 rfl (lv_at hl 1 rfl) ?_
        have hFc : ∀ zz : Nat, lzA (lzM m q (upd (upd S 0 0) 23 0) ++ (lzI G (q 22) 16 t ++ (lzI G (q 5) 64 f))) zz → A zz := lz_free hD [0, 1, 2] rfl
        refine va_calli (va_runV (As := [.int (nI s)]) (rest := []) ⟨hx, hb, hml, hown, hts⟩ (c_X4_sizeOf l G m q (upd (upd S 0 0) 23 0) t f s N M 0 (by omega) (hM) (hM5) (rfl) (by omega)) (cwV 1 hts gX4_ask_X4_sizeOf rfl rfl rfl (by decide +kernel) ⟨Nat.le_of_ble_eq_true rfl, Nat.le_of_ble_eq_true rfl⟩) (rw_preV hK hP hD hP (ci := 4) (q0 := 0) rfl rfl) rfl rfl hl.1 rfl (lv_room (Nat.le_of_ble_eq_true rfl)) dX4_ask_37 ⟨Nat.zero_le _, Nat.zero_le _⟩) hS (fun q _ h => hFc q h) hFc (fun r_3 u_4 t9 H1 locs ht hvm hr_3 hB hz1 hk1 hS => ?_)
        replace hB : va_P G.1 lzC _ t9.heap := hB
        rw [ht] at hB
        obtain ⟨hP, hD⟩ := lz_join (wc := (lzM m q (upd (upd S 0 0) 23 0) ++ (lzI G (q 22) 16 t ++ (lzI G (q 5) 64 f)))) (wr := ([] : va_W)) (w1 := (lzM m q (upd (upd S 0 0) 23 (nI (0 + (msL (f (4 + 5 * s))).length))) ++ (lzI G (q 22) 16 (trL t 0 (msL (f (4 + 5 * s)))) ++ (lzI G (q 5) 64 f)))) hP hD [0, 1, 2] [] rfl rfl (by decide) (by decide) rfl hk1 hB
        replace hP := hP.sub (ws' := (lzM m q (upd (upd S 0 0) 23 (nI (0 + (msL (f (4 + 5 * s))).length))) ++ (lzI G (q 22) 16 (trL t 0 (msL (f (4 + 5 * s)))) ++ (lzI G (q 5) 64 f)))) [0, 1, 2] rfl
        replace hD := hD.sub (ws' := (lzM m q (upd (upd S 0 0) 23 (nI (0 + (msL (f (4 + 5 * s))).length))) ++ (lzI G (q 22) 16 (trL t 0 (msL (f (4 + 5 * s)))) ++ (lzI G (q 5) 64 f)))) [0, 1, 2] (by decide) rfl
        clear ht hvm hB hz1 hk1
        generalize H1 = H at hP hS ⊢
        refine lz_top (y := msV (f (4 + 5 * s)) (nI s) (f (4 + 5 * s + 1)) (nI s + cntI (fun z => clkR f z s) M)) hr_3 ?_
        refine lv_goto (tgt := 48) hx hb dX4_ask_40 (by decide) ?_
        exact rw_iret (S := Unit) (G := G) (Wd := fun _ : Unit => (lzM m q (upd (upd S 0 0) 23 (nI (0 + (msL (f (4 + 5 * s))).length))) ++ (lzI G (q 22) 16 (trL t 0 (msL (f (4 + 5 * s)))) ++ (lzI G (q 5) 64 f)))) () hx hb hr hlk dX4_ask_48 hS (hP) (rfl)
    · skip
      have c_20 := b2_z hr_2 c_20
      exact Bool.noConfusion (hwL.symm.trans c_20)
set_option maxHeartbeats 4000000 in
set_option maxRecDepth 100000 in
theorem c_X4_ask_mark (l : Launch) (G : lzG) (m : Nat) (q : Nat → Nat) (S : Nat → Int32) (t f : Nat → Int32) (s N M : Nat) (what : Int32) (hN : f 2 = nI N) (hN8 : N ≤ 8) (hM : f 3 = nI M) (hM5 : M ≤ 5) (hs : s < N) (hw : inR what 0 1 = true) (hw0 : ¬ what = 0) : Met l yX4_ask wsX4_ask ({ frames := 4, cells := 0, slots := 0, locals := 92 }) (va_Pc [.ref m, .int (nI s), .int what] (rwP G (lzM m q S ++ (lzI G (q 22) 16 t ++ (lzI G (q 5) 64 f))))) (va_Qi (S := Unit) (fun (r : Int32) (_ : Unit) => r = mmV (f (4 + 5 * s)) (nI s) (f (4 + 5 * s + 1)) (nI s + cntI (fun z => clkR f z s) M)) (rwB G (fun _ : Unit => (lzM m q (upd (upd S 0 0) 23 (nI (0 + (mmL (f (4 + 5 * s))).length))) ++ (lzI G (q 22) 16 (trL t 0 (mmL (f (4 + 5 * s)))) ++ (lzI G (q 5) 64 f))))) (lzA (lzM m q S ++ (lzI G (q 22) 16 t ++ (lzI G (q 5) 64 f))))) 0 0 (lzA (lzM m q S ++ (lzI G (q 22) 16 t ++ (lzI G (q 5) 64 f)))) := by
  have hB : inR (nI s) 0 (f 2 - 1) = true := inR_ok hN hs (by omega)
  have hwL : inL what.toInt64 0 1 = true := (inL_of what 0 1).trans hw
  refine rw_start (S := Unit) (cc := cX4_ask) (maxL := 3) (ret := (some .int)) (by decide) rfl (Nat.le_of_ble_eq_true rfl) ?_
  intro pp ee ss mm bl me cd A hx hb hr hlk hml hts hown hP hK hD hAe hS ls hl
  have hA0 : ∀ zz : Nat, lzA (lzM m q S ++ (lzI G (q 22) 16 t ++ (lzI G (q 5) 64 f))) zz → A zz := fun zz h9 => by rw [hAe]; exact h9
  rw [← hAe]
  clear hAe
  have hown : ss.vm.findClass RX4 = some mm.cls := hown
  have hw1 := hts (.fieldLink RX4 48 "LampSquaresModel" "thrown" "I") (List.mem_of_getElem? (i := 1) rfl)
  have hw3 := hts (.fieldLink RX4 263 "LampSquaresModel" "traced" "I") (List.mem_of_getElem? (i := 3) rfl)
  have hu_wsX40 : ∀ w ∈ wsX40, w.before ([.ref m, .int (nI s), .int what] : List Value).toArray ss = true := fun w h9 => hts w (List.mem_cons_of_mem _ (List.mem_append_right _ h9))
  have hl : lv_has ls 3 [(0, .ref m), (1, .int (nI s)), (2, .int what)] := hl
  refine lv_aload_n hx hb dX4_ask_0 rfl (lv_at hl 0 rfl) ?_
  refine lv_iconst (v := 0) hx hb dX4_ask_1 (by decide) ?_
  refine lz_put (G := G) (ci := 4) (C := RX4) (T := TX4) (N := 24) hx hb hu_wsX40 (fun _ h9 => h9) tyX4 tyX4_ok nmX4 hown hK hP hD hS 0 rfl rfl 0 (by decide) hw1 rfl rfl (by decide +kernel) (Nat.le_of_ble_eq_true rfl) dX4_ask_2 (lzM m q (upd S 0 0) ++ (lzI G (q 22) 16 t ++ (lzI G (q 5) 64 f))) rfl (fun H locs hP hD hS => ?_)
  refine lv_aload_n hx hb dX4_ask_5 rfl (lv_at hl 0 rfl) ?_
  refine lv_iload_n hx hb dX4_ask_6 rfl (lv_at hl 1 rfl) ?_
  have hPc := hP.sub (ws' := (lzM m q (upd S 0 0) ++ lzI G (q 5) 64 f)) [0, 2] rfl
  refine ro_calli (va_runV (As := [.int (nI s)]) (rest := []) ⟨hx, hb, hml, hown, hts⟩ (c_X4_isSquare l G m q (upd S 0 0) f (nI s) ) (cwV 1 hts gX4_ask_X4_isSquare rfl rfl rfl (by decide +kernel) ⟨Nat.le_of_ble_eq_true rfl, Nat.le_of_ble_eq_true rfl⟩) (ro_preV hK hPc hP (ci := 4) (q0 := 0) rfl rfl) rfl rfl hl.1 rfl (lv_room (Nat.le_of_ble_eq_true rfl)) dX4_ask_7 ⟨Nat.zero_le _, Nat.zero_le _⟩) (fun r_1 hr_1 => ?_)
  refine lv_if_eq (tgt := 23) hx hb dX4_ask_10 (by decide) (fun c_10 => ?_) (fun c_10 => ?_)
  · skip
    have c_10 := b2_z hr_1 c_10
    exact Bool.noConfusion (hB.symm.trans c_10)
  · skip
    have c_10 := b2_n hr_1 c_10
    refine lv_iload_n hx hb dX4_ask_13 rfl (lv_at hl 2 rfl) ?_
    refine lv_i2l hx hb dX4_ask_14 rfl ?_
    refine lv_lconst (v := 0) hx hb dX4_ask_15 (by decide) ?_
    refine lv_lconst (v := 1) hx hb dX4_ask_16 (by decide) ?_
    refine ro_calli (va_runS (As := [.long what.toInt64, .long 0, .long 1]) (rest := []) ⟨hx, hb, hml, hown, hts⟩ (c_X4_in l G what.toInt64 0 1 ) (cwS 3 hts gX4_ask_X4_in rfl rfl rfl (by decide +kernel) ⟨Nat.le_of_ble_eq_true rfl, Nat.le_of_ble_eq_true rfl⟩) (ro_pre hK (fun k q h => by simp at h)) rfl rfl hl.1 rfl (lv_room (Nat.le_of_ble_eq_true rfl)) dX4_ask_17 ⟨Nat.zero_le _, Nat.zero_le _⟩) (fun r_2 hr_2 => ?_)
    refine lv_if_ne (tgt := 26) hx hb dX4_ask_20 (by decide) (fun c_20 => ?_) (fun c_20 => ?_)
    · skip
      have c_20 := b2_n hr_2 c_20
      refine lv_aload_n hx hb dX4_ask_26 rfl (lv_at hl 0 rfl) ?_
      refine lv_iconst (v := 0) hx hb dX4_ask_27 (by decide) ?_
      refine lz_put (G := G) (ci := 4) (C := RX4) (T := TX4) (N := 24) hx hb hu_wsX40 (fun _ h9 => h9) tyX4 tyX4_ok nmX4 hown hK hP hD hS 0 rfl rfl 23 (by decide) hw3 rfl rfl (by decide +kernel) (Nat.le_of_ble_eq_true rfl) dX4_ask_28 (lzM m q (upd (upd S 0 0) 23 0) ++ (lzI G (q 22) 16 t ++ (lzI G (q 5) 64 f))) rfl (fun H locs hP hD hS => ?_)
      refine lv_iload_n hx hb dX4_ask_31 rfl (lv_at hl 2 rfl) ?_
      refine lv_if_ne (tgt := 43) hx hb dX4_ask_32 (by decide) (fun c_32 => ?_) (fun c_32 => ?_)
      · skip
        refine lv_aload_n hx hb dX4_ask_43 rfl (lv_at hl 0 rfl) ?_
        refine lv_iload_n hx hb dX4_ask_44 rfl (lv_at hl 1 rfl) ?_
        have hFc : ∀ zz : Nat, lzA (lzM m q (upd (upd S 0 0) 23 0) ++ (lzI G (q 22) 16 t ++ (lzI G (q 5) 64 f))) zz → A zz := lz_free hD [0, 1, 2] rfl
        refine va_calli (va_runV (As := [.int (nI s)]) (rest := []) ⟨hx, hb, hml, hown, hts⟩ (c_X4_markOf l G m q (upd (upd S 0 0) 23 0) t f s N M 0 (by omega) (hM) (hM5) (rfl) (by omega)) (cwV 1 hts gX4_ask_X4_markOf rfl rfl rfl (by decide +kernel) ⟨Nat.le_of_ble_eq_true rfl, Nat.le_of_ble_eq_true rfl⟩) (rw_preV hK hP hD hP (ci := 4) (q0 := 0) rfl rfl) rfl rfl hl.1 rfl (lv_room (Nat.le_of_ble_eq_true rfl)) dX4_ask_45 ⟨Nat.zero_le _, Nat.zero_le _⟩) hS (fun q _ h => hFc q h) hFc (fun r_3 u_4 t9 H1 locs ht hvm hr_3 hB hz1 hk1 hS => ?_)
        replace hB : va_P G.1 lzC _ t9.heap := hB
        rw [ht] at hB
        obtain ⟨hP, hD⟩ := lz_join (wc := (lzM m q (upd (upd S 0 0) 23 0) ++ (lzI G (q 22) 16 t ++ (lzI G (q 5) 64 f)))) (wr := ([] : va_W)) (w1 := (lzM m q (upd (upd S 0 0) 23 (nI (0 + (mmL (f (4 + 5 * s))).length))) ++ (lzI G (q 22) 16 (trL t 0 (mmL (f (4 + 5 * s)))) ++ (lzI G (q 5) 64 f)))) hP hD [0, 1, 2] [] rfl rfl (by decide) (by decide) rfl hk1 hB
        replace hP := hP.sub (ws' := (lzM m q (upd (upd S 0 0) 23 (nI (0 + (mmL (f (4 + 5 * s))).length))) ++ (lzI G (q 22) 16 (trL t 0 (mmL (f (4 + 5 * s)))) ++ (lzI G (q 5) 64 f)))) [0, 1, 2] rfl
        replace hD := hD.sub (ws' := (lzM m q (upd (upd S 0 0) 23 (nI (0 + (mmL (f (4 + 5 * s))).length))) ++ (lzI G (q 22) 16 (trL t 0 (mmL (f (4 + 5 * s)))) ++ (lzI G (q 5) 64 f)))) [0, 1, 2] (by decide) rfl
        clear ht hvm hB hz1 hk1
        generalize H1 = H at hP hS ⊢
        refine lz_top (y := mmV (f (4 + 5 * s)) (nI s) (f (4 + 5 * s + 1)) (nI s + cntI (fun z => clkR f z s) M)) hr_3 ?_
        exact rw_iret (S := Unit) (G := G) (Wd := fun _ : Unit => (lzM m q (upd (upd S 0 0) 23 (nI (0 + (mmL (f (4 + 5 * s))).length))) ++ (lzI G (q 22) 16 (trL t 0 (mmL (f (4 + 5 * s)))) ++ (lzI G (q 5) 64 f)))) () hx hb hr hlk dX4_ask_48 hS (hP) (rfl)
      · skip
        exact absurd c_32 hw0
    · skip
      have c_20 := b2_z hr_2 c_20
      exact Bool.noConfusion (hwL.symm.trans c_20)
set_option maxHeartbeats 4000000 in
set_option maxRecDepth 100000 in
theorem c_X4_count (l : Launch) (G : lzG) (m : Nat) (q : Nat → Nat) (S : Nat → Int32) (ln f : Nat → Int32) (what : Int32) (N : Nat) (hN : f 2 = nI N) (hN8 : N ≤ 8) : Met l yX4_count wsX4_count ({ frames := 2, cells := 0, slots := 0, locals := 44 }) (va_Pc [.ref m, .int what] (rwP G (lzM m q S ++ (lzI G (q 2) 8 ln ++ (lzI G (q 5) 64 f))))) (va_Qi (S := Unit) (fun (r : Int32) (_ : Unit) => r = countM S f ln N what) (rwB G (fun _ : Unit => (lzM m q (upd S 0 0) ++ (lzI G (q 2) 8 ln ++ (lzI G (q 5) 64 f))))) (lzA (lzM m q S ++ (lzI G (q 2) 8 ln ++ (lzI G (q 5) 64 f))))) 0 0 (lzA (lzM m q S ++ (lzI G (q 2) 8 ln ++ (lzI G (q 5) 64 f)))) := by
  refine rw_start (S := Unit) (cc := cX4_count) (maxL := 4) (ret := (some .int)) (by decide) rfl (Nat.le_of_ble_eq_true rfl) ?_
  intro pp ee ss mm bl me cd A hx hb hr hlk hml hts hown hP hK hD hAe hS ls hl
  have hA0 : ∀ zz : Nat, lzA (lzM m q S ++ (lzI G (q 2) 8 ln ++ (lzI G (q 5) 64 f))) zz → A zz := fun zz h9 => by rw [hAe]; exact h9
  rw [← hAe]
  clear hAe
  have hown : ss.vm.findClass RX4 = some mm.cls := hown
  have hw1 := hts (.fieldLink RX4 48 "LampSquaresModel" "thrown" "I") (List.mem_of_getElem? (i := 1) rfl)
  have hw2 := hts (.fieldLink RX4 7 "LampSquaresModel" "lane" "[I") (List.mem_of_getElem? (i := 2) rfl)
  have hw3 := hts (.fieldLink RX4 19 "LampSquaresModel" "door" "[I") (List.mem_of_getElem? (i := 3) rfl)
  have hw4 := hts (.fieldLink RX4 150 "LampSquaresModel" "acts" "I") (List.mem_of_getElem? (i := 4) rfl)
  have hw5 := hts (.fieldLink RX4 75 "LampSquaresModel" "taped" "I") (List.mem_of_getElem? (i := 5) rfl)
  have hw6 := hts (.constant RX4 68 (-1000001)) (List.mem_of_getElem? (i := 6) rfl)
  have hu_wsX40 : ∀ w ∈ wsX40, w.before ([.ref m, .int what] : List Value).toArray ss = true := fun w h9 => hts w (List.mem_cons_of_mem _ (List.mem_append_right _ h9))
  have hl : lv_has ls 4 [(0, .ref m), (1, .int what)] := hl
  refine lv_aload_n hx hb dX4_count_0 rfl (lv_at hl 0 rfl) ?_
  refine lv_iconst (v := 0) hx hb dX4_count_1 (by decide) ?_
  refine lz_put (G := G) (ci := 4) (C := RX4) (T := TX4) (N := 24) hx hb hu_wsX40 (fun _ h9 => h9) tyX4 tyX4_ok nmX4 hown hK hP hD hS 0 rfl rfl 0 (by decide) hw1 rfl rfl (by decide +kernel) (Nat.le_of_ble_eq_true rfl) dX4_count_2 (lzM m q (upd S 0 0) ++ (lzI G (q 2) 8 ln ++ (lzI G (q 5) 64 f))) rfl (fun H locs hP hD hS => ?_)
  refine lv_iconst (v := 0) hx hb dX4_count_5 (by decide) ?_
  refine lv_istore_n (lv' := [(2, .int 0), (0, .ref m), (1, .int what)]) hx hb dX4_count_6 rfl hl (by decide) rfl (fun ls hl => ?_)
  refine lv_iload_n hx hb dX4_count_7 rfl (lv_at hl 2 rfl) ?_
  by_cases v_8_0 : what = 0
  · refine lv_tableIn (off := 48) (tgt := 56) hx hb dX4_count_8 (by rw [v_8_0]; decide) (by rw [v_8_0]; decide) (by rw [v_8_0]; rfl) (by decide) ?_
    refine lv_iconst (v := 0) hx hb dX4_count_56 (by decide) ?_
    refine lv_istore_n (lv' := [(3, .int 0), (2, .int 0), (0, .ref m), (1, .int what)]) hx hb dX4_count_57 rfl hl (by decide) rfl (fun ls hl => ?_)
    have J_58 : ∀ (n9 : Nat), ∀ (j : Nat), (j ≤ 8) → (what = 0) → 8 - j < n9 → ∀ (H : Heap) (locs : List Loc), va_P G.1 lzC (lzM m q (upd S 0 0) ++ (lzI G (q 2) 8 ln ++ (lzI G (q 5) 64 f))) H → va_D A (lzM m q (upd S 0 0) ++ (lzI G (q 2) 8 ln ++ (lzI G (q 5) 64 f))) → va_S A ss.heap H locs → ∀ ls : Array Slot, lv_has ls 4 [(2, .int (cntI (fun z => decide (0 ≤ ln z)) j)), (3, .int (nI j)), (0, .ref m), (1, .int what)] → W pp l ee ({ frames := 2, cells := 0, slots := 0, locals := 44 }) ss mm ([.ref m, .int what] : List Value).toArray bl me cd H locs 0 0 (MQ bl (va_Qi (S := Unit) (fun (r : Int32) (_ : Unit) => r = countM S f ln N what) (rwB G (fun _ : Unit => (lzM m q (upd S 0 0) ++ (lzI G (q 2) 8 ln ++ (lzI G (q 5) 64 f))))) A) ([.ref m, .int what] : List Value).toArray ss 0 0 A) (F0 mm 58 ls []) := by
      intro n9
      induction n9 with
      | zero => intro j hj hv0 hn; exact absurd hn (Nat.not_lt_zero _)
      | succ n9 ih_58 =>
        intro j hj hv0 hn_58 H locs hP hD hS ls hl
        refine lv_iload_n hx hb dX4_count_58 rfl (lv_at hl 1 rfl) ?_
        refine lv_bipush (v := 8) hx hb dX4_count_59 (by decide) ?_
        refine lv_icmp_ge (tgt := 87) hx hb dX4_count_61 (by decide) (fun c_61 => ?_) (fun c_61 => ?_)
        · skip
          have c_61' := Int32.not_lt.mpr c_61
          have hj2 : 8 ≤ j := lz_ge (N := 8) rfl c_61 (by omega) (by omega)
          have hj3 : j = 8 := by omega
          refine lv_iload_n hx hb dX4_count_87 rfl (lv_at hl 0 rfl) ?_
          exact rw_iret (S := Unit) (G := G) (Wd := fun _ : Unit => (lzM m q (upd S 0 0) ++ (lzI G (q 2) 8 ln ++ (lzI G (q 5) 64 f)))) () hx hb hr hlk dX4_count_88 hS (hP) (by rw [hj3, hv0]; rfl)
        · skip
          have c_61' := Int32.not_le.mp c_61
          have hj2 : j < 8 := lz_lt (N := 8) rfl c_61 (by omega) (by omega)
          refine lv_iload_n hx hb dX4_count_64 rfl (lv_at hl 0 rfl) ?_
          refine lv_aload_n hx hb dX4_count_65 rfl (lv_at hl 2 rfl) ?_
          refine lz_get (G := G) (ci := 4) (v := .ref (q 2)) (C := RX4) (T := TX4) (N := 24) hx hb hu_wsX40 (fun _ h9 => h9) hown hK hP 0 rfl rfl 2 (by decide) hw2 rfl rfl dX4_count_66 ?_
          refine lv_iload_n hx hb dX4_count_69 rfl (lv_at hl 1 rfl) ?_
          refine lz_iald (f := ln) hx hb hK hP 1 rfl j (by omega) (Nat.le_of_ble_eq_true rfl) dX4_count_70 ?_
          refine lv_if_lt (tgt := 78) hx hb dX4_count_71 (by decide) (fun c_71 => ?_) (fun c_71 => ?_)
          · skip
            have c_71' := Int32.not_le.mpr c_71
            refine lv_iconst (v := 0) hx hb dX4_count_78 (by decide) ?_
            refine lv_iadd hx hb dX4_count_79 ?_
            refine lv_topi (fun x_1 ex_1 => ?_)
            refine lv_istore_n (lv' := [(2, .int x_1), (3, .int (nI j)), (0, .ref m), (1, .int what)]) hx hb dX4_count_80 rfl hl (by decide) rfl (fun ls hl => ?_)
            refine lv_iinc (v := nI (j + 1)) (lv' := [(3, .int (nI (j + 1))), (2, .int x_1), (0, .ref m), (1, .int what)]) hx hb dX4_count_81 hl (k := 1) rfl (nI_1 _) (by decide) rfl (fun ls hl => ?_)
            refine lv_goto (tgt := 58) hx hb dX4_count_84 (by decide) ?_
            obtain rfl : x_1 = cntI (fun z => decide (0 ≤ ln z)) (j + 1) := by rw [ex_1]; simp [cntI, b2, v_8_0, c_61, c_61', c_71, c_71', Int32.add_comm]
            exact ih_58 (j + 1) (by omega) (hv0) (by omega) _ _ hP hD hS _ (lv_sub hl [1, 0, 2, 3] rfl)
          · skip
            have c_71' := Int32.not_lt.mp c_71
            refine lv_iconst (v := 1) hx hb dX4_count_74 (by decide) ?_
            refine lv_goto (tgt := 79) hx hb dX4_count_75 (by decide) ?_
            refine lv_iadd hx hb dX4_count_79 ?_
            refine lv_topi (fun x_2 ex_2 => ?_)
            refine lv_istore_n (lv' := [(2, .int x_2), (3, .int (nI j)), (0, .ref m), (1, .int what)]) hx hb dX4_count_80 rfl hl (by decide) rfl (fun ls hl => ?_)
            refine lv_iinc (v := nI (j + 1)) (lv' := [(3, .int (nI (j + 1))), (2, .int x_2), (0, .ref m), (1, .int what)]) hx hb dX4_count_81 hl (k := 1) rfl (nI_1 _) (by decide) rfl (fun ls hl => ?_)
            refine lv_goto (tgt := 58) hx hb dX4_count_84 (by decide) ?_
            obtain rfl : x_2 = cntI (fun z => decide (0 ≤ ln z)) (j + 1) := by rw [ex_2]; simp [cntI, b2, v_8_0, c_61, c_61', c_71, c_71', Int32.add_comm]
            exact ih_58 (j + 1) (by omega) (hv0) (by omega) _ _ hP hD hS _ (lv_sub hl [1, 0, 2, 3] rfl)
    exact J_58 _ 0 (by omega) (v_8_0) (Nat.lt_succ_self _) _ _ hP hD hS _ (lv_sub hl [1, 0, 2, 3] rfl)
  by_cases v_8_1 : what = 1
  · refine lv_tableIn (off := 81) (tgt := 89) hx hb dX4_count_8 (by rw [v_8_1]; decide) (by rw [v_8_1]; decide) (by rw [v_8_1]; rfl) (by decide) ?_
    refine lv_aload_n hx hb dX4_count_89 rfl (lv_at hl 1 rfl) ?_
    refine lz_get (G := G) (ci := 4) (v := .ref (q 5)) (C := RX4) (T := TX4) (N := 24) hx hb hu_wsX40 (fun _ h9 => h9) hown hK hP 0 rfl rfl 5 (by decide) hw3 rfl rfl dX4_count_90 ?_
    refine lv_iconst (v := 2) hx hb dX4_count_93 (by decide) ?_
    refine lz_iald (f := f) hx hb hK hP 2 rfl 2 (by omega) (Nat.le_of_ble_eq_true rfl) dX4_count_94 ?_
    exact rw_iret (S := Unit) (G := G) (Wd := fun _ : Unit => (lzM m q (upd S 0 0) ++ (lzI G (q 2) 8 ln ++ (lzI G (q 5) 64 f)))) () hx hb hr hlk dX4_count_95 hS (hP) (by simp [countM, v_8_1])
  by_cases v_8_2 : what = 2
  · refine lv_tableIn (off := 88) (tgt := 96) hx hb dX4_count_8 (by rw [v_8_2]; decide) (by rw [v_8_2]; decide) (by rw [v_8_2]; rfl) (by decide) ?_
    refine lv_aload_n hx hb dX4_count_96 rfl (lv_at hl 1 rfl) ?_
    refine lz_get (G := G) (ci := 4) (v := .ref (q 5)) (C := RX4) (T := TX4) (N := 24) hx hb hu_wsX40 (fun _ h9 => h9) hown hK hP 0 rfl rfl 5 (by decide) hw3 rfl rfl dX4_count_97 ?_
    refine lv_iconst (v := 3) hx hb dX4_count_100 (by decide) ?_
    refine lz_iald (f := f) hx hb hK hP 2 rfl 3 (by omega) (Nat.le_of_ble_eq_true rfl) dX4_count_101 ?_
    exact rw_iret (S := Unit) (G := G) (Wd := fun _ : Unit => (lzM m q (upd S 0 0) ++ (lzI G (q 2) 8 ln ++ (lzI G (q 5) 64 f)))) () hx hb hr hlk dX4_count_102 hS (hP) (by simp [countM, v_8_2])
  by_cases v_8_3 : what = 3
  · refine lv_tableIn (off := 95) (tgt := 103) hx hb dX4_count_8 (by rw [v_8_3]; decide) (by rw [v_8_3]; decide) (by rw [v_8_3]; rfl) (by decide) ?_
    refine lv_aload_n hx hb dX4_count_103 rfl (lv_at hl 1 rfl) ?_
    refine lz_get (G := G) (ci := 4) (v := .ref (q 5)) (C := RX4) (T := TX4) (N := 24) hx hb hu_wsX40 (fun _ h9 => h9) hown hK hP 0 rfl rfl 5 (by decide) hw3 rfl rfl dX4_count_104 ?_
    refine lv_iconst (v := 1) hx hb dX4_count_107 (by decide) ?_
    refine lz_iald (f := f) hx hb hK hP 2 rfl 1 (by omega) (Nat.le_of_ble_eq_true rfl) dX4_count_108 ?_
    exact rw_iret (S := Unit) (G := G) (Wd := fun _ : Unit => (lzM m q (upd S 0 0) ++ (lzI G (q 2) 8 ln ++ (lzI G (q 5) 64 f)))) () hx hb hr hlk dX4_count_109 hS (hP) (by simp [countM, v_8_3])
  by_cases v_8_4 : what = 4
  · refine lv_tableIn (off := 102) (tgt := 110) hx hb dX4_count_8 (by rw [v_8_4]; decide) (by rw [v_8_4]; decide) (by rw [v_8_4]; rfl) (by decide) ?_
    refine lv_iconst (v := 0) hx hb dX4_count_110 (by decide) ?_
    refine lv_istore_n (lv' := [(3, .int 0), (2, .int 0), (0, .ref m), (1, .int what)]) hx hb dX4_count_111 rfl hl (by decide) rfl (fun ls hl => ?_)
    have J_112 : ∀ (n9 : Nat), ∀ (k : Nat), (k ≤ N) → (what = 4) → N - k < n9 → ∀ (H : Heap) (locs : List Loc), va_P G.1 lzC (lzM m q (upd S 0 0) ++ (lzI G (q 2) 8 ln ++ (lzI G (q 5) 64 f))) H → va_D A (lzM m q (upd S 0 0) ++ (lzI G (q 2) 8 ln ++ (lzI G (q 5) 64 f))) → va_S A ss.heap H locs → ∀ ls : Array Slot, lv_has ls 4 [(2, .int (bitsI (cntM f) k)), (3, .int (nI k)), (0, .ref m), (1, .int what)] → W pp l ee ({ frames := 2, cells := 0, slots := 0, locals := 44 }) ss mm ([.ref m, .int what] : List Value).toArray bl me cd H locs 0 0 (MQ bl (va_Qi (S := Unit) (fun (r : Int32) (_ : Unit) => r = countM S f ln N what) (rwB G (fun _ : Unit => (lzM m q (upd S 0 0) ++ (lzI G (q 2) 8 ln ++ (lzI G (q 5) 64 f))))) A) ([.ref m, .int what] : List Value).toArray ss 0 0 A) (F0 mm 112 ls []) := by
      intro n9
      induction n9 with
      | zero => intro k hk hv4 hn; exact absurd hn (Nat.not_lt_zero _)
      | succ n9 ih_112 =>
        intro k hk hv4 hn_112 H locs hP hD hS ls hl
        refine lv_iload_n hx hb dX4_count_112 rfl (lv_at hl 1 rfl) ?_
        refine lv_aload_n hx hb dX4_count_113 rfl (lv_at hl 2 rfl) ?_
        refine lz_get (G := G) (ci := 4) (v := .ref (q 5)) (C := RX4) (T := TX4) (N := 24) hx hb hu_wsX40 (fun _ h9 => h9) hown hK hP 0 rfl rfl 5 (by decide) hw3 rfl rfl dX4_count_114 ?_
        refine lv_iconst (v := 2) hx hb dX4_count_117 (by decide) ?_
        refine lz_iald (f := f) hx hb hK hP 2 rfl 2 (by omega) (Nat.le_of_ble_eq_true rfl) dX4_count_118 ?_
        refine lv_icmp_ge (tgt := 149) hx hb dX4_count_119 (by decide) (fun c_119 => ?_) (fun c_119 => ?_)
        · skip
          have c_119' := Int32.not_lt.mpr c_119
          have hk2 : N ≤ k := lz_ge hN c_119 (by omega) (by omega)
          have hk3 : k = N := by omega
          refine lv_iload_n hx hb dX4_count_149 rfl (lv_at hl 0 rfl) ?_
          exact rw_iret (S := Unit) (G := G) (Wd := fun _ : Unit => (lzM m q (upd S 0 0) ++ (lzI G (q 2) 8 ln ++ (lzI G (q 5) 64 f)))) () hx hb hr hlk dX4_count_150 hS (hP) (by rw [hk3, hv4]; rfl)
        · skip
          have c_119' := Int32.not_le.mp c_119
          have hk2 : k < N := lz_lt hN c_119 (by omega) (by omega)
          refine lv_iload_n hx hb dX4_count_122 rfl (lv_at hl 0 rfl) ?_
          refine lv_aload_n hx hb dX4_count_123 rfl (lv_at hl 2 rfl) ?_
          refine lz_get (G := G) (ci := 4) (v := .ref (q 5)) (C := RX4) (T := TX4) (N := 24) hx hb hu_wsX40 (fun _ h9 => h9) hown hK hP 0 rfl rfl 5 (by decide) hw3 rfl rfl dX4_count_124 ?_
          refine lv_iload_n hx hb dX4_count_127 rfl (lv_at hl 1 rfl) ?_
          have hPc := hP.sub (ws' := lzI G (q 5) 64 f) [2] rfl
          refine ro_calli (va_runS (As := [.ref (q 5), .int (nI k)]) (rest := [.int (bitsI (cntM f) k)]) ⟨hx, hb, hml, hown, hts⟩ (c_X4_counts l G (q 5) f k (by omega)) (cwS 2 hts gX4_count_X4_counts rfl rfl rfl (by decide +kernel) ⟨Nat.le_of_ble_eq_true rfl, Nat.le_of_ble_eq_true rfl⟩) (ro_pre hK hPc) rfl rfl hl.1 rfl (lv_room (Nat.le_of_ble_eq_true rfl)) dX4_count_128 ⟨Nat.zero_le _, Nat.zero_le _⟩) (fun r_3 hr_3 => ?_)
          refine lv_if_eq (tgt := 140) hx hb dX4_count_131 (by decide) (fun c_131 => ?_) (fun c_131 => ?_)
          · skip
            have c_131 := b2_z hr_3 c_131
            refine lv_iconst (v := 0) hx hb dX4_count_140 (by decide) ?_
            refine lv_ior hx hb dX4_count_141 ?_
            refine lv_topi (fun x_4 ex_4 => ?_)
            refine lv_istore_n (lv' := [(2, .int x_4), (3, .int (nI k)), (0, .ref m), (1, .int what)]) hx hb dX4_count_142 rfl hl (by decide) rfl (fun ls hl => ?_)
            refine lv_iinc (v := nI (k + 1)) (lv' := [(3, .int (nI (k + 1))), (2, .int x_4), (0, .ref m), (1, .int what)]) hx hb dX4_count_143 hl (k := 1) rfl (nI_1 _) (by decide) rfl (fun ls hl => ?_)
            refine lv_goto (tgt := 112) hx hb dX4_count_146 (by decide) ?_
            obtain rfl : x_4 = bitsI (cntM f) (k + 1) := by rw [ex_4]; simp [bitsI, v_8_4, c_119, c_119', c_131]
            exact ih_112 (k + 1) (by omega) (hv4) (by omega) _ _ hP hD hS _ (lv_sub hl [1, 0, 2, 3] rfl)
          · skip
            have c_131 := b2_n hr_3 c_131
            refine lv_iconst (v := 1) hx hb dX4_count_134 (by decide) ?_
            refine lv_iload_n hx hb dX4_count_135 rfl (lv_at hl 1 rfl) ?_
            refine lv_ishl hx hb dX4_count_136 ?_
            refine lv_goto (tgt := 141) hx hb dX4_count_137 (by decide) ?_
            refine lv_ior hx hb dX4_count_141 ?_
            refine lv_topi (fun x_5 ex_5 => ?_)
            refine lv_istore_n (lv' := [(2, .int x_5), (3, .int (nI k)), (0, .ref m), (1, .int what)]) hx hb dX4_count_142 rfl hl (by decide) rfl (fun ls hl => ?_)
            refine lv_iinc (v := nI (k + 1)) (lv' := [(3, .int (nI (k + 1))), (2, .int x_5), (0, .ref m), (1, .int what)]) hx hb dX4_count_143 hl (k := 1) rfl (nI_1 _) (by decide) rfl (fun ls hl => ?_)
            refine lv_goto (tgt := 112) hx hb dX4_count_146 (by decide) ?_
            obtain rfl : x_5 = bitsI (cntM f) (k + 1) := by rw [ex_5]; simp [bitsI, v_8_4, c_119, c_119', c_131]
            exact ih_112 (k + 1) (by omega) (hv4) (by omega) _ _ hP hD hS _ (lv_sub hl [1, 0, 2, 3] rfl)
    exact J_112 _ 0 (by omega) (v_8_4) (Nat.lt_succ_self _) _ _ hP hD hS _ (lv_sub hl [1, 0, 2, 3] rfl)
  by_cases v_8_5 : what = 5
  · refine lv_tableIn (off := 143) (tgt := 151) hx hb dX4_count_8 (by rw [v_8_5]; decide) (by rw [v_8_5]; decide) (by rw [v_8_5]; rfl) (by decide) ?_
    refine lv_aload_n hx hb dX4_count_151 rfl (lv_at hl 1 rfl) ?_
    refine lz_get (G := G) (ci := 4) (v := .ref (q 5)) (C := RX4) (T := TX4) (N := 24) hx hb hu_wsX40 (fun _ h9 => h9) hown hK hP 0 rfl rfl 5 (by decide) hw3 rfl rfl dX4_count_152 ?_
    have hPc := hP.sub (ws' := lzI G (q 5) 64 f) [2] rfl
    refine ro_calli (va_runS (As := [.ref (q 5)]) (rest := []) ⟨hx, hb, hml, hown, hts⟩ (c_X4_votesOf l G (q 5) f N (hN) (hN8)) (cwS 1 hts gX4_count_X4_votesOf rfl rfl rfl (by decide +kernel) ⟨Nat.le_of_ble_eq_true rfl, Nat.le_of_ble_eq_true rfl⟩) (ro_pre hK hPc) rfl rfl hl.1 rfl (lv_room (Nat.le_of_ble_eq_true rfl)) dX4_count_155 ⟨Nat.zero_le _, Nat.zero_le _⟩) (fun r_6 hr_6 => ?_)
    refine lz_top (y := sumI (fun s => f (4 + 5 * s + 2) + f (4 + 5 * s + 3)) N) hr_6 ?_
    exact rw_iret (S := Unit) (G := G) (Wd := fun _ : Unit => (lzM m q (upd S 0 0) ++ (lzI G (q 2) 8 ln ++ (lzI G (q 5) 64 f)))) () hx hb hr hlk dX4_count_158 hS (hP) (by simp [countM, v_8_5])
  by_cases v_8_6 : what = 6
  · refine lv_tableIn (off := 151) (tgt := 159) hx hb dX4_count_8 (by rw [v_8_6]; decide) (by rw [v_8_6]; decide) (by rw [v_8_6]; rfl) (by decide) ?_
    refine lv_aload_n hx hb dX4_count_159 rfl (lv_at hl 1 rfl) ?_
    refine lz_get (G := G) (ci := 4) (v := .int (S 9)) (C := RX4) (T := TX4) (N := 24) hx hb hu_wsX40 (fun _ h9 => h9) hown hK hP 0 rfl rfl 9 (by decide) hw4 rfl rfl dX4_count_160 ?_
    exact rw_iret (S := Unit) (G := G) (Wd := fun _ : Unit => (lzM m q (upd S 0 0) ++ (lzI G (q 2) 8 ln ++ (lzI G (q 5) 64 f)))) () hx hb hr hlk dX4_count_163 hS (hP) (by simp [countM, v_8_6])
  by_cases v_8_7 : what = 7
  · refine lv_tableIn (off := 156) (tgt := 164) hx hb dX4_count_8 (by rw [v_8_7]; decide) (by rw [v_8_7]; decide) (by rw [v_8_7]; rfl) (by decide) ?_
    refine lv_aload_n hx hb dX4_count_164 rfl (lv_at hl 1 rfl) ?_
    refine lz_get (G := G) (ci := 4) (v := .int (S 11)) (C := RX4) (T := TX4) (N := 24) hx hb hu_wsX40 (fun _ h9 => h9) hown hK hP 0 rfl rfl 11 (by decide) hw5 rfl rfl dX4_count_165 ?_
    exact rw_iret (S := Unit) (G := G) (Wd := fun _ : Unit => (lzM m q (upd S 0 0) ++ (lzI G (q 2) 8 ln ++ (lzI G (q 5) 64 f)))) () hx hb hr hlk dX4_count_168 hS (hP) (by simp [countM, v_8_7])
  have v_8_0T : ¬ Int32.toInt what = 0 := lv_neT v_8_0 rfl
  have v_8_1T : ¬ Int32.toInt what = 1 := lv_neT v_8_1 rfl
  have v_8_2T : ¬ Int32.toInt what = 2 := lv_neT v_8_2 rfl
  have v_8_3T : ¬ Int32.toInt what = 3 := lv_neT v_8_3 rfl
  have v_8_4T : ¬ Int32.toInt what = 4 := lv_neT v_8_4 rfl
  have v_8_5T : ¬ Int32.toInt what = 5 := lv_neT v_8_5 rfl
  have v_8_6T : ¬ Int32.toInt what = 6 := lv_neT v_8_6 rfl
  have v_8_7T : ¬ Int32.toInt what = 7 := lv_neT v_8_7 rfl
  refine lv_tableOut (tgt := 169) hx hb dX4_count_8 (by omega) (by decide) ?_
  refine lv_ldc hx hb hown hw6 dX4_count_169 ?_
  exact rw_iret (S := Unit) (G := G) (Wd := fun _ : Unit => (lzM m q (upd S 0 0) ++ (lzI G (q 2) 8 ln ++ (lzI G (q 5) 64 f)))) () hx hb hr hlk dX4_count_171 hS (hP) (by simp [countM, v_8_0, v_8_1, v_8_2, v_8_3, v_8_4, v_8_5, v_8_6, v_8_7])
