set_option maxHeartbeats 4000000 in
set_option maxRecDepth 100000 in
theorem c_X4_isLetter (l : Launch) (G : lzG) (m : Nat) (q : Nat → Nat) (S : Nat → Int32) (x : Int32)  : Met l yX4_isLetter wsX4_isLetter ({ frames := 0, cells := 0, slots := 0, locals := 0 }) (va_Pc [.ref m, .int x] (roP G (lzM m q S))) (vp_Si (fun r : Int32 => r = b2 (isLetM S x))) 0 0 (fun _ => False) := by
  refine ro_start (cc := cX4_isLetter) (maxL := 2) (ret := (some .boolean)) (by decide) rfl (Nat.le_of_ble_eq_true rfl) ?_
  intro pp ee ss mm bl me cd hx hb hr hlk hml hts hown hP hK ls hl
  have hown : ss.vm.findClass RX4 = some mm.cls := hown
  have hw1 := hts (.fieldLink RX4 79 "LampSquaresModel" "fault" "I") (List.mem_of_getElem? (i := 1) rfl)
  have hw2 := hts (.fieldLink RX4 103 "LampSquaresModel" "token" "I") (List.mem_of_getElem? (i := 2) rfl)
  have hw3 := hts (.fieldLink RX4 92 "LampSquaresModel" "value" "I") (List.mem_of_getElem? (i := 3) rfl)
  have hu_wsX40 : ∀ w ∈ wsX40, w.before ([.ref m, .int x] : List Value).toArray ss = true := fun w h9 => hts w (List.mem_cons_of_mem _ (List.mem_append_right _ h9))
  have hl : lv_has ls 2 [(0, .ref m), (1, .int x)] := hl
  refine lv_aload_n hx hb dX4_isLetter_0 rfl (lv_at hl 0 rfl) ?_
  refine lz_get (G := G) (ci := 4) (v := .int (S 16)) (C := RX4) (T := TX4) (N := 24) hx hb hu_wsX40 (fun _ h9 => h9) hown hK hP 0 rfl rfl 16 (by decide) hw1 rfl rfl dX4_isLetter_1 ?_
  refine lv_if_ne (tgt := 27) hx hb dX4_isLetter_4 (by decide) (fun c_4 => ?_) (fun c_4 => ?_)
  · skip
    refine lv_iconst (v := 0) hx hb dX4_isLetter_27 (by decide) ?_
    exact ro_zret hx hb hr hlk dX4_isLetter_28 (by simp [isLetM, b2, c_4])
  · skip
    refine lv_aload_n hx hb dX4_isLetter_7 rfl (lv_at hl 0 rfl) ?_
    refine lz_get (G := G) (ci := 4) (v := .int (S 14)) (C := RX4) (T := TX4) (N := 24) hx hb hu_wsX40 (fun _ h9 => h9) hown hK hP 0 rfl rfl 14 (by decide) hw2 rfl rfl dX4_isLetter_8 ?_
    refine lv_iconst (v := 2) hx hb dX4_isLetter_11 (by decide) ?_
    refine lv_icmp_ne (tgt := 27) hx hb dX4_isLetter_12 (by decide) (fun c_12 => ?_) (fun c_12 => ?_)
    · skip
      refine lv_iconst (v := 0) hx hb dX4_isLetter_27 (by decide) ?_
      exact ro_zret hx hb hr hlk dX4_isLetter_28 (by simp [isLetM, b2, c_4, c_12])
    · skip
      refine lv_aload_n hx hb dX4_isLetter_15 rfl (lv_at hl 0 rfl) ?_
      refine lz_get (G := G) (ci := 4) (v := .int (S 15)) (C := RX4) (T := TX4) (N := 24) hx hb hu_wsX40 (fun _ h9 => h9) hown hK hP 0 rfl rfl 15 (by decide) hw3 rfl rfl dX4_isLetter_16 ?_
      refine lv_iload_n hx hb dX4_isLetter_19 rfl (lv_at hl 1 rfl) ?_
      refine lv_icmp_ne (tgt := 27) hx hb dX4_isLetter_20 (by decide) (fun c_20 => ?_) (fun c_20 => ?_)
      · skip
        refine lv_iconst (v := 0) hx hb dX4_isLetter_27 (by decide) ?_
        exact ro_zret hx hb hr hlk dX4_isLetter_28 (by simp [isLetM, b2, c_4, c_12, c_20])
      · skip
        refine lv_iconst (v := 1) hx hb dX4_isLetter_23 (by decide) ?_
        refine lv_goto (tgt := 28) hx hb dX4_isLetter_24 (by decide) ?_
        exact ro_zret hx hb hr hlk dX4_isLetter_28 (by simp [isLetM, b2, c_4, c_12, c_20])
set_option maxHeartbeats 4000000 in
set_option maxRecDepth 100000 in
theorem c_X4_isSort (l : Launch) (G : lzG) (m : Nat) (q : Nat → Nat) (S : Nat → Int32)  : Met l yX4_isSort wsX4_isSort ({ frames := 1, cells := 0, slots := 0, locals := 20 }) (va_Pc [.ref m] (roP G (lzM m q S))) (vp_Si (fun r : Int32 => r = b2 (isSrtM S))) 0 0 (fun _ => False) := by
  refine ro_start (cc := cX4_isSort) (maxL := 1) (ret := (some .boolean)) (by decide) rfl (Nat.le_of_ble_eq_true rfl) ?_
  intro pp ee ss mm bl me cd hx hb hr hlk hml hts hown hP hK ls hl
  have hown : ss.vm.findClass RX4 = some mm.cls := hown
  have hw1 := hts (.fieldLink RX4 79 "LampSquaresModel" "fault" "I") (List.mem_of_getElem? (i := 1) rfl)
  have hw2 := hts (.fieldLink RX4 103 "LampSquaresModel" "token" "I") (List.mem_of_getElem? (i := 2) rfl)
  have hw3 := hts (.fieldLink RX4 92 "LampSquaresModel" "value" "I") (List.mem_of_getElem? (i := 3) rfl)
  have hw4 := hts (.constant RX4 91 (-1000000)) (List.mem_of_getElem? (i := 4) rfl)
  have hu_wsX40 : ∀ w ∈ wsX40, w.before ([.ref m] : List Value).toArray ss = true := fun w h9 => hts w (List.mem_cons_of_mem _ (List.mem_append_right _ h9))
  have hl : lv_has ls 1 [(0, .ref m)] := hl
  refine lv_aload_n hx hb dX4_isSort_0 rfl (lv_at hl 0 rfl) ?_
  refine lz_get (G := G) (ci := 4) (v := .int (S 16)) (C := RX4) (T := TX4) (N := 24) hx hb hu_wsX40 (fun _ h9 => h9) hown hK hP 0 rfl rfl 16 (by decide) hw1 rfl rfl dX4_isSort_1 ?_
  refine lv_if_ne (tgt := 31) hx hb dX4_isSort_4 (by decide) (fun c_4 => ?_) (fun c_4 => ?_)
  · skip
    refine lv_iconst (v := 0) hx hb dX4_isSort_31 (by decide) ?_
    exact ro_zret hx hb hr hlk dX4_isSort_32 (by simp [isSrtM, b2, c_4])
  · skip
    refine lv_aload_n hx hb dX4_isSort_7 rfl (lv_at hl 0 rfl) ?_
    refine lz_get (G := G) (ci := 4) (v := .int (S 14)) (C := RX4) (T := TX4) (N := 24) hx hb hu_wsX40 (fun _ h9 => h9) hown hK hP 0 rfl rfl 14 (by decide) hw2 rfl rfl dX4_isSort_8 ?_
    refine lv_iconst (v := 2) hx hb dX4_isSort_11 (by decide) ?_
    refine lv_icmp_ne (tgt := 31) hx hb dX4_isSort_12 (by decide) (fun c_12 => ?_) (fun c_12 => ?_)
    · skip
      refine lv_iconst (v := 0) hx hb dX4_isSort_31 (by decide) ?_
      exact ro_zret hx hb hr hlk dX4_isSort_32 (by simp [isSrtM, b2, c_4, c_12])
    · skip
      refine lv_aload_n hx hb dX4_isSort_15 rfl (lv_at hl 0 rfl) ?_
      refine lz_get (G := G) (ci := 4) (v := .int (S 15)) (C := RX4) (T := TX4) (N := 24) hx hb hu_wsX40 (fun _ h9 => h9) hown hK hP 0 rfl rfl 15 (by decide) hw3 rfl rfl dX4_isSort_16 ?_
      refine ro_calli (va_runS (As := [.int (S 15)]) (rest := []) ⟨hx, hb, hml, hown, hts⟩ (c_X4_kindBy l G (S 15) ) (cwS 1 hts gX4_isSort_X4_kindBy rfl rfl rfl (by decide +kernel) ⟨Nat.le_of_ble_eq_true rfl, Nat.le_of_ble_eq_true rfl⟩) (ro_pre hK (fun k q h => by simp at h)) rfl rfl hl.1 rfl (lv_room (Nat.le_of_ble_eq_true rfl)) dX4_isSort_19 ⟨Nat.zero_le _, Nat.zero_le _⟩) (fun r_1 hr_1 => ?_)
      refine lz_top (y := kindB (S 15)) hr_1 ?_
      refine lv_ldc hx hb hown hw4 dX4_isSort_22 ?_
      refine lv_icmp_eq (tgt := 31) hx hb dX4_isSort_24 (by decide) (fun c_24 => ?_) (fun c_24 => ?_)
      · skip
        refine lv_iconst (v := 0) hx hb dX4_isSort_31 (by decide) ?_
        exact ro_zret hx hb hr hlk dX4_isSort_32 (by simp [isSrtM, b2, c_4, c_12, c_24])
      · skip
        refine lv_iconst (v := 1) hx hb dX4_isSort_27 (by decide) ?_
        refine lv_goto (tgt := 32) hx hb dX4_isSort_28 (by decide) ?_
        exact ro_zret hx hb hr hlk dX4_isSort_32 (by simp [isSrtM, b2, c_4, c_12, c_24])
set_option maxHeartbeats 4000000 in
set_option maxRecDepth 100000 in
theorem c_X4_bad_first (l : Launch) (G : lzG) (m : Nat) (q : Nat → Nat) (S : Nat → Int32) (k : Int32) (hf : S 16 = 0) : Met l yX4_bad wsX4_bad ({ frames := 0, cells := 0, slots := 0, locals := 0 }) (va_Pc [.ref m, .int k] (rwP G (lzM m q S))) (va_Qv (S := Unit) (fun _ : Unit => True) (rwB G (fun _ : Unit => lzM m q (upd (upd S 16 k) 17 (S 13)))) (lzA (lzM m q S))) 0 0 (lzA (lzM m q S)) := by
  refine rw_start (S := Unit) (cc := cX4_bad) (maxL := 2) (ret := none) (by decide) rfl (Nat.le_of_ble_eq_true rfl) ?_
  intro pp ee ss mm bl me cd A hx hb hr hlk hml hts hown hP hK hD hAe hS ls hl
  have hA0 : ∀ zz : Nat, lzA (lzM m q S) zz → A zz := fun zz h9 => by rw [hAe]; exact h9
  rw [← hAe]
  clear hAe
  have hown : ss.vm.findClass RX4 = some mm.cls := hown
  have hw1 := hts (.fieldLink RX4 79 "LampSquaresModel" "fault" "I") (List.mem_of_getElem? (i := 1) rfl)
  have hw2 := hts (.fieldLink RX4 82 "LampSquaresModel" "start" "I") (List.mem_of_getElem? (i := 2) rfl)
  have hw3 := hts (.fieldLink RX4 85 "LampSquaresModel" "faultAt" "I") (List.mem_of_getElem? (i := 3) rfl)
  have hu_wsX40 : ∀ w ∈ wsX40, w.before ([.ref m, .int k] : List Value).toArray ss = true := fun w h9 => hts w (List.mem_cons_of_mem _ (List.mem_append_right _ h9))
  have hl : lv_has ls 2 [(0, .ref m), (1, .int k)] := hl
  refine lv_aload_n hx hb dX4_bad_0 rfl (lv_at hl 0 rfl) ?_
  refine lz_get (G := G) (ci := 4) (v := .int (S 16)) (C := RX4) (T := TX4) (N := 24) hx hb hu_wsX40 (fun _ h9 => h9) hown hK hP 0 rfl rfl 16 (by decide) hw1 rfl rfl dX4_bad_1 ?_
  refine lv_if_ne (tgt := 20) hx hb dX4_bad_4 (by decide) (fun c_4 => ?_) (fun c_4 => ?_)
  · skip
    exact absurd hf c_4
  · skip
    refine lv_aload_n hx hb dX4_bad_7 rfl (lv_at hl 0 rfl) ?_
    refine lv_iload_n hx hb dX4_bad_8 rfl (lv_at hl 1 rfl) ?_
    refine lz_put (G := G) (ci := 4) (C := RX4) (T := TX4) (N := 24) hx hb hu_wsX40 (fun _ h9 => h9) tyX4 tyX4_ok nmX4 hown hK hP hD hS 0 rfl rfl 16 (by decide) hw1 rfl rfl (by decide +kernel) (Nat.le_of_ble_eq_true rfl) dX4_bad_9 (lzM m q (upd S 16 k)) rfl (fun H locs hP hD hS => ?_)
    refine lv_aload_n hx hb dX4_bad_12 rfl (lv_at hl 0 rfl) ?_
    refine lv_aload_n hx hb dX4_bad_13 rfl (lv_at hl 0 rfl) ?_
    refine lz_get (G := G) (ci := 4) (v := .int (S 13)) (C := RX4) (T := TX4) (N := 24) hx hb hu_wsX40 (fun _ h9 => h9) hown hK hP 0 rfl rfl 13 (by decide) hw2 rfl rfl dX4_bad_14 ?_
    refine lz_put (G := G) (ci := 4) (C := RX4) (T := TX4) (N := 24) hx hb hu_wsX40 (fun _ h9 => h9) tyX4 tyX4_ok nmX4 hown hK hP hD hS 0 rfl rfl 17 (by decide) hw3 rfl rfl (by decide +kernel) (Nat.le_of_ble_eq_true rfl) dX4_bad_17 (lzM m q (upd (upd S 16 k) 17 (S 13))) rfl (fun H locs hP hD hS => ?_)
    exact rw_vret (S := Unit) (G := G) (Wd := fun _ : Unit => lzM m q (upd (upd S 16 k) 17 (S 13))) () hx hb hr hlk dX4_bad_20 hS (hP) (trivial)
set_option maxHeartbeats 4000000 in
set_option maxRecDepth 100000 in
theorem c_X4_bad_again (l : Launch) (G : lzG) (m : Nat) (q : Nat → Nat) (S : Nat → Int32) (k : Int32) (hf : ¬ S 16 = 0) : Met l yX4_bad wsX4_bad ({ frames := 0, cells := 0, slots := 0, locals := 0 }) (va_Pc [.ref m, .int k] (rwP G (lzM m q S))) (va_Qv (S := Unit) (fun _ : Unit => True) (rwB G (fun _ : Unit => lzM m q S)) (lzA (lzM m q S))) 0 0 (lzA (lzM m q S)) := by
  refine rw_start (S := Unit) (cc := cX4_bad) (maxL := 2) (ret := none) (by decide) rfl (Nat.le_of_ble_eq_true rfl) ?_
  intro pp ee ss mm bl me cd A hx hb hr hlk hml hts hown hP hK hD hAe hS ls hl
  have hA0 : ∀ zz : Nat, lzA (lzM m q S) zz → A zz := fun zz h9 => by rw [hAe]; exact h9
  rw [← hAe]
  clear hAe
  have hown : ss.vm.findClass RX4 = some mm.cls := hown
  have hw1 := hts (.fieldLink RX4 79 "LampSquaresModel" "fault" "I") (List.mem_of_getElem? (i := 1) rfl)
  have hu_wsX40 : ∀ w ∈ wsX40, w.before ([.ref m, .int k] : List Value).toArray ss = true := fun w h9 => hts w (List.mem_cons_of_mem _ (List.mem_append_right _ h9))
  have hl : lv_has ls 2 [(0, .ref m), (1, .int k)] := hl
  refine lv_aload_n hx hb dX4_bad_0 rfl (lv_at hl 0 rfl) ?_
  refine lz_get (G := G) (ci := 4) (v := .int (S 16)) (C := RX4) (T := TX4) (N := 24) hx hb hu_wsX40 (fun _ h9 => h9) hown hK hP 0 rfl rfl 16 (by decide) hw1 rfl rfl dX4_bad_1 ?_
  refine lv_if_ne (tgt := 20) hx hb dX4_bad_4 (by decide) (fun c_4 => ?_) (fun c_4 => ?_)
  · skip
    exact rw_vret (S := Unit) (G := G) (Wd := fun _ : Unit => lzM m q S) () hx hb hr hlk dX4_bad_20 hS (hP) (trivial)
  · skip
    exact absurd c_4 hf
set_option maxHeartbeats 4000000 in
set_option maxRecDepth 100000 in
theorem c_X4_drawn_state (l : Launch) (G : lzG) (m : Nat) (q : Nat → Nat) (S : Nat → Int32) (f : Nat → Int32) (n sd what : Int32) (hR : (decide (0 < f 0)) = false) : Met l yX4_drawn wsX4_drawn ({ frames := 1, cells := 0, slots := 0, locals := 20 }) (va_Pc [.ref m, .int n, .int sd, .int what] (rwP G (lzM m q S ++ lzI G (q 5) 64 f))) (va_Qi (S := Unit) (fun (r : Int32) (_ : Unit) => r = -1000002) (rwB G (fun _ : Unit => (lzM m q (upd S 0 0) ++ lzI G (q 5) 64 f))) (lzA (lzM m q S ++ lzI G (q 5) 64 f))) 0 0 (lzA (lzM m q S ++ lzI G (q 5) 64 f)) := by
  refine rw_start (S := Unit) (cc := cX4_drawn) (maxL := 8) (ret := (some .int)) (by decide) rfl (Nat.le_of_ble_eq_true rfl) ?_
  intro pp ee ss mm bl me cd A hx hb hr hlk hml hts hown hP hK hD hAe hS ls hl
  have hA0 : ∀ zz : Nat, lzA (lzM m q S ++ lzI G (q 5) 64 f) zz → A zz := fun zz h9 => by rw [hAe]; exact h9
  rw [← hAe]
  clear hAe
  have hown : ss.vm.findClass RX4 = some mm.cls := hown
  have hw1 := hts (.fieldLink RX4 48 "LampSquaresModel" "thrown" "I") (List.mem_of_getElem? (i := 1) rfl)
  have hw2 := hts (.constant RX4 204 (-1000002)) (List.mem_of_getElem? (i := 2) rfl)
  have hu_wsX40 : ∀ w ∈ wsX40, w.before ([.ref m, .int n, .int sd, .int what] : List Value).toArray ss = true := fun w h9 => hts w (List.mem_cons_of_mem _ (List.mem_append_right _ h9))
  have hl : lv_has ls 8 [(0, .ref m), (1, .int n), (2, .int sd), (3, .int what)] := hl
  refine lv_aload_n hx hb dX4_drawn_0 rfl (lv_at hl 0 rfl) ?_
  refine lv_iconst (v := 0) hx hb dX4_drawn_1 (by decide) ?_
  refine lz_put (G := G) (ci := 4) (C := RX4) (T := TX4) (N := 24) hx hb hu_wsX40 (fun _ h9 => h9) tyX4 tyX4_ok nmX4 hown hK hP hD hS 0 rfl rfl 0 (by decide) hw1 rfl rfl (by decide +kernel) (Nat.le_of_ble_eq_true rfl) dX4_drawn_2 (lzM m q (upd S 0 0) ++ lzI G (q 5) 64 f) rfl (fun H locs hP hD hS => ?_)
  refine lv_aload_n hx hb dX4_drawn_5 rfl (lv_at hl 0 rfl) ?_
  refine ro_calli (va_runV (As := []) (rest := []) ⟨hx, hb, hml, hown, hts⟩ (c_X4_isThere l G m q (upd S 0 0) f ) (cwV 0 hts gX4_drawn_X4_isThere rfl rfl rfl (by decide +kernel) ⟨Nat.le_of_ble_eq_true rfl, Nat.le_of_ble_eq_true rfl⟩) (ro_preV hK hP hP (ci := 4) (q0 := 0) rfl rfl) rfl rfl hl.1 rfl (lv_room (Nat.le_of_ble_eq_true rfl)) dX4_drawn_6 ⟨Nat.zero_le _, Nat.zero_le _⟩) (fun r_1 hr_1 => ?_)
  refine lv_if_ne (tgt := 15) hx hb dX4_drawn_9 (by decide) (fun c_9 => ?_) (fun c_9 => ?_)
  · skip
    have c_9 := b2_n hr_1 c_9
    exact Bool.noConfusion (hR.symm.trans c_9)
  · skip
    have c_9 := b2_z hr_1 c_9
    refine lv_ldc hx hb hown hw2 dX4_drawn_12 ?_
    exact rw_iret (S := Unit) (G := G) (Wd := fun _ : Unit => (lzM m q (upd S 0 0) ++ lzI G (q 5) 64 f)) () hx hb hr hlk dX4_drawn_14 hS (hP) (rfl)
set_option maxHeartbeats 4000000 in
set_option maxRecDepth 100000 in
theorem c_X4_drawn_bad (l : Launch) (G : lzG) (m : Nat) (q : Nat → Nat) (S : Nat → Int32) (f : Nat → Int32) (n sd what : Int32) (hR : (decide (0 < f 0)) = true) (hbad : (inR n 0 60 && inR sd 1 999999 && inR what 0 1) = false) : Met l yX4_drawn wsX4_drawn ({ frames := 1, cells := 0, slots := 0, locals := 25 }) (va_Pc [.ref m, .int n, .int sd, .int what] (rwP G (lzM m q S ++ lzI G (q 5) 64 f))) (va_Qi (S := Unit) (fun (r : Int32) (_ : Unit) => r = -1000001) (rwB G (fun _ : Unit => (lzM m q (upd S 0 0) ++ lzI G (q 5) 64 f))) (lzA (lzM m q S ++ lzI G (q 5) 64 f))) 0 0 (lzA (lzM m q S ++ lzI G (q 5) 64 f)) := by
  have hbW : (inL n.toInt64 0 60 && inL sd.toInt64 1 999999 && inL what.toInt64 0 1) = false := by rw [show inL n.toInt64 0 60 = inR n 0 60 from inL_of n 0 60, show inL sd.toInt64 1 999999 = inR sd 1 999999 from inL_of sd 1 999999, show inL what.toInt64 0 1 = inR what 0 1 from inL_of what 0 1]; exact hbad
  refine rw_start (S := Unit) (cc := cX4_drawn) (maxL := 8) (ret := (some .int)) (by decide) rfl (Nat.le_of_ble_eq_true rfl) ?_
  intro pp ee ss mm bl me cd A hx hb hr hlk hml hts hown hP hK hD hAe hS ls hl
  have hA0 : ∀ zz : Nat, lzA (lzM m q S ++ lzI G (q 5) 64 f) zz → A zz := fun zz h9 => by rw [hAe]; exact h9
  rw [← hAe]
  clear hAe
  have hown : ss.vm.findClass RX4 = some mm.cls := hown
  have hw1 := hts (.fieldLink RX4 48 "LampSquaresModel" "thrown" "I") (List.mem_of_getElem? (i := 1) rfl)
  have hw3 := hts (.constantLong RX4 244 (60)) (List.mem_of_getElem? (i := 3) rfl)
  have hw4 := hts (.constantLong RX4 246 (999999)) (List.mem_of_getElem? (i := 4) rfl)
  have hw5 := hts (.constant RX4 68 (-1000001)) (List.mem_of_getElem? (i := 5) rfl)
  have hu_wsX40 : ∀ w ∈ wsX40, w.before ([.ref m, .int n, .int sd, .int what] : List Value).toArray ss = true := fun w h9 => hts w (List.mem_cons_of_mem _ (List.mem_append_right _ h9))
  have hl : lv_has ls 8 [(0, .ref m), (1, .int n), (2, .int sd), (3, .int what)] := hl
  refine lv_aload_n hx hb dX4_drawn_0 rfl (lv_at hl 0 rfl) ?_
  refine lv_iconst (v := 0) hx hb dX4_drawn_1 (by decide) ?_
  refine lz_put (G := G) (ci := 4) (C := RX4) (T := TX4) (N := 24) hx hb hu_wsX40 (fun _ h9 => h9) tyX4 tyX4_ok nmX4 hown hK hP hD hS 0 rfl rfl 0 (by decide) hw1 rfl rfl (by decide +kernel) (Nat.le_of_ble_eq_true rfl) dX4_drawn_2 (lzM m q (upd S 0 0) ++ lzI G (q 5) 64 f) rfl (fun H locs hP hD hS => ?_)
  refine lv_aload_n hx hb dX4_drawn_5 rfl (lv_at hl 0 rfl) ?_
  refine ro_calli (va_runV (As := []) (rest := []) ⟨hx, hb, hml, hown, hts⟩ (c_X4_isThere l G m q (upd S 0 0) f ) (cwV 0 hts gX4_drawn_X4_isThere rfl rfl rfl (by decide +kernel) ⟨Nat.le_of_ble_eq_true rfl, Nat.le_of_ble_eq_true rfl⟩) (ro_preV hK hP hP (ci := 4) (q0 := 0) rfl rfl) rfl rfl hl.1 rfl (lv_room (Nat.le_of_ble_eq_true rfl)) dX4_drawn_6 ⟨Nat.zero_le _, Nat.zero_le _⟩) (fun r_1 hr_1 => ?_)
  refine lv_if_ne (tgt := 15) hx hb dX4_drawn_9 (by decide) (fun c_9 => ?_) (fun c_9 => ?_)
  · skip
    have c_9 := b2_n hr_1 c_9
    refine lv_iload_n hx hb dX4_drawn_15 rfl (lv_at hl 1 rfl) ?_
    refine lv_i2l hx hb dX4_drawn_16 rfl ?_
    refine lv_lconst (v := 0) hx hb dX4_drawn_17 (by decide) ?_
    refine lv_ldc2 hx hb hown hw3 dX4_drawn_18 ?_
    refine ro_calli (va_runS (As := [.long n.toInt64, .long 0, .long 60]) (rest := []) ⟨hx, hb, hml, hown, hts⟩ (c_X4_in l G n.toInt64 0 60 ) (cwS 3 hts gX4_drawn_X4_in rfl rfl rfl (by decide +kernel) ⟨Nat.le_of_ble_eq_true rfl, Nat.le_of_ble_eq_true rfl⟩) (ro_pre hK (fun k q h => by simp at h)) rfl rfl hl.1 rfl (lv_room (Nat.le_of_ble_eq_true rfl)) dX4_drawn_21 ⟨Nat.zero_le _, Nat.zero_le _⟩) (fun r_2 hr_2 => ?_)
    refine lv_if_eq (tgt := 49) hx hb dX4_drawn_24 (by decide) (fun c_24 => ?_) (fun c_24 => ?_)
    · skip
      have c_24 := b2_z hr_2 c_24
      refine lv_ldc hx hb hown hw5 dX4_drawn_49 ?_
      exact rw_iret (S := Unit) (G := G) (Wd := fun _ : Unit => (lzM m q (upd S 0 0) ++ lzI G (q 5) 64 f)) () hx hb hr hlk dX4_drawn_51 hS (hP) (rfl)
    · skip
      have c_24 := b2_n hr_2 c_24
      refine lv_iload_n hx hb dX4_drawn_27 rfl (lv_at hl 2 rfl) ?_
      refine lv_i2l hx hb dX4_drawn_28 rfl ?_
      refine lv_lconst (v := 1) hx hb dX4_drawn_29 (by decide) ?_
      refine lv_ldc2 hx hb hown hw4 dX4_drawn_30 ?_
      refine ro_calli (va_runS (As := [.long sd.toInt64, .long 1, .long 999999]) (rest := []) ⟨hx, hb, hml, hown, hts⟩ (c_X4_in l G sd.toInt64 1 999999 ) (cwS 3 hts gX4_drawn_X4_in rfl rfl rfl (by decide +kernel) ⟨Nat.le_of_ble_eq_true rfl, Nat.le_of_ble_eq_true rfl⟩) (ro_pre hK (fun k q h => by simp at h)) rfl rfl hl.1 rfl (lv_room (Nat.le_of_ble_eq_true rfl)) dX4_drawn_33 ⟨Nat.zero_le _, Nat.zero_le _⟩) (fun r_3 hr_3 => ?_)
      refine lv_if_eq (tgt := 49) hx hb dX4_drawn_36 (by decide) (fun c_36 => ?_) (fun c_36 => ?_)
      · skip
        have c_36 := b2_z hr_3 c_36
        refine lv_ldc hx hb hown hw5 dX4_drawn_49 ?_
        exact rw_iret (S := Unit) (G := G) (Wd := fun _ : Unit => (lzM m q (upd S 0 0) ++ lzI G (q 5) 64 f)) () hx hb hr hlk dX4_drawn_51 hS (hP) (rfl)
      · skip
        have c_36 := b2_n hr_3 c_36
        refine lv_iload_n hx hb dX4_drawn_39 rfl (lv_at hl 3 rfl) ?_
        refine lv_i2l hx hb dX4_drawn_40 rfl ?_
        refine lv_lconst (v := 0) hx hb dX4_drawn_41 (by decide) ?_
        refine lv_lconst (v := 1) hx hb dX4_drawn_42 (by decide) ?_
        refine ro_calli (va_runS (As := [.long what.toInt64, .long 0, .long 1]) (rest := []) ⟨hx, hb, hml, hown, hts⟩ (c_X4_in l G what.toInt64 0 1 ) (cwS 3 hts gX4_drawn_X4_in rfl rfl rfl (by decide +kernel) ⟨Nat.le_of_ble_eq_true rfl, Nat.le_of_ble_eq_true rfl⟩) (ro_pre hK (fun k q h => by simp at h)) rfl rfl hl.1 rfl (lv_room (Nat.le_of_ble_eq_true rfl)) dX4_drawn_43 ⟨Nat.zero_le _, Nat.zero_le _⟩) (fun r_4 hr_4 => ?_)
        refine lv_if_ne (tgt := 52) hx hb dX4_drawn_46 (by decide) (fun c_46 => ?_) (fun c_46 => ?_)
        · skip
          have c_46 := b2_n hr_4 c_46
          exact Bool.noConfusion (hbW.symm.trans (by rw [c_24, c_36, c_46] <;> rfl))
        · skip
          have c_46 := b2_z hr_4 c_46
          refine lv_ldc hx hb hown hw5 dX4_drawn_49 ?_
          exact rw_iret (S := Unit) (G := G) (Wd := fun _ : Unit => (lzM m q (upd S 0 0) ++ lzI G (q 5) 64 f)) () hx hb hr hlk dX4_drawn_51 hS (hP) (rfl)
  · skip
    have c_9 := b2_z hr_1 c_9
    exact Bool.noConfusion (hR.symm.trans c_9)
set_option maxHeartbeats 4000000 in
set_option maxRecDepth 100000 in
theorem c_X4_slip_bad (l : Launch) (G : lzG) (m : Nat) (q : Nat → Nat) (S : Nat → Int32) (f : Nat → Int32) (a set odd what : Int32) (hbad : (inR a 0 (f 3 - 1) && inR set 0 ((1 <<< (f 2 &&& 31)) - 1) && inR odd 0 10 && inR what 0 1) = false) : Met l yX4_slip wsX4_slip ({ frames := 2, cells := 0, slots := 0, locals := 46 }) (va_Pc [.ref m, .int a, .int set, .int odd, .int what] (rwP G (lzM m q S ++ lzI G (q 5) 64 f))) (va_Ql (S := Unit) (fun (r : Int64) (_ : Unit) => r = -1000001) (rwB G (fun _ : Unit => (lzM m q (upd S 0 0) ++ lzI G (q 5) 64 f))) (lzA (lzM m q S ++ lzI G (q 5) 64 f))) 0 0 (lzA (lzM m q S ++ lzI G (q 5) 64 f)) := by
  have hbW : (inR a 0 (f 3 - 1) && inR set 0 ((1 <<< (f 2 &&& 31)) - 1) && inL odd.toInt64 0 10 && inL what.toInt64 0 1) = false := by rw [show inL odd.toInt64 0 10 = inR odd 0 10 from inL_of odd 0 10, show inL what.toInt64 0 1 = inR what 0 1 from inL_of what 0 1]; exact hbad
  refine rw_start (S := Unit) (cc := cX4_slip) (maxL := 15) (ret := (some .long)) (by decide) rfl (Nat.le_of_ble_eq_true rfl) ?_
  intro pp ee ss mm bl me cd A hx hb hr hlk hml hts hown hP hK hD hAe hS ls hl
  have hA0 : ∀ zz : Nat, lzA (lzM m q S ++ lzI G (q 5) 64 f) zz → A zz := fun zz h9 => by rw [hAe]; exact h9
  rw [← hAe]
  clear hAe
  have hown : ss.vm.findClass RX4 = some mm.cls := hown
  have hw1 := hts (.fieldLink RX4 48 "LampSquaresModel" "thrown" "I") (List.mem_of_getElem? (i := 1) rfl)
  have hw2 := hts (.constantLong RX4 240 (10)) (List.mem_of_getElem? (i := 2) rfl)
  have hw3 := hts (.constantLong RX4 242 (-1000001)) (List.mem_of_getElem? (i := 3) rfl)
  have hu_wsX40 : ∀ w ∈ wsX40, w.before ([.ref m, .int a, .int set, .int odd, .int what] : List Value).toArray ss = true := fun w h9 => hts w (List.mem_cons_of_mem _ (List.mem_append_right _ h9))
  have hl : lv_has ls 15 [(0, .ref m), (1, .int a), (2, .int set), (3, .int odd), (4, .int what)] := hl
  refine lv_aload_n hx hb dX4_slip_0 rfl (lv_at hl 0 rfl) ?_
  refine lv_iconst (v := 0) hx hb dX4_slip_1 (by decide) ?_
  refine lz_put (G := G) (ci := 4) (C := RX4) (T := TX4) (N := 24) hx hb hu_wsX40 (fun _ h9 => h9) tyX4 tyX4_ok nmX4 hown hK hP hD hS 0 rfl rfl 0 (by decide) hw1 rfl rfl (by decide +kernel) (Nat.le_of_ble_eq_true rfl) dX4_slip_2 (lzM m q (upd S 0 0) ++ lzI G (q 5) 64 f) rfl (fun H locs hP hD hS => ?_)
  refine lv_aload_n hx hb dX4_slip_5 rfl (lv_at hl 0 rfl) ?_
  refine lv_iload_n hx hb dX4_slip_6 rfl (lv_at hl 1 rfl) ?_
  refine ro_calli (va_runV (As := [.int a]) (rest := []) ⟨hx, hb, hml, hown, hts⟩ (c_X4_isVisitor l G m q (upd S 0 0) f a ) (cwV 1 hts gX4_slip_X4_isVisitor rfl rfl rfl (by decide +kernel) ⟨Nat.le_of_ble_eq_true rfl, Nat.le_of_ble_eq_true rfl⟩) (ro_preV hK hP hP (ci := 4) (q0 := 0) rfl rfl) rfl rfl hl.1 rfl (lv_room (Nat.le_of_ble_eq_true rfl)) dX4_slip_7 ⟨Nat.zero_le _, Nat.zero_le _⟩) (fun r_1 hr_1 => ?_)
  refine lv_if_eq (tgt := 44) hx hb dX4_slip_10 (by decide) (fun c_10 => ?_) (fun c_10 => ?_)
  · skip
    have c_10 := b2_z hr_1 c_10
    refine lv_ldc2 hx hb hown hw3 dX4_slip_44 ?_
    exact rw_lret (S := Unit) (G := G) (Wd := fun _ : Unit => (lzM m q (upd S 0 0) ++ lzI G (q 5) 64 f)) () hx hb hr hlk dX4_slip_47 hS (hP) (rfl)
  · skip
    have c_10 := b2_n hr_1 c_10
    refine lv_aload_n hx hb dX4_slip_13 rfl (lv_at hl 0 rfl) ?_
    refine lv_iload_n hx hb dX4_slip_14 rfl (lv_at hl 2 rfl) ?_
    refine ro_calli (va_runV (As := [.int set]) (rest := []) ⟨hx, hb, hml, hown, hts⟩ (c_X4_areSquares l G m q (upd S 0 0) f set ) (cwV 1 hts gX4_slip_X4_areSquares rfl rfl rfl (by decide +kernel) ⟨Nat.le_of_ble_eq_true rfl, Nat.le_of_ble_eq_true rfl⟩) (ro_preV hK hP hP (ci := 4) (q0 := 0) rfl rfl) rfl rfl hl.1 rfl (lv_room (Nat.le_of_ble_eq_true rfl)) dX4_slip_15 ⟨Nat.zero_le _, Nat.zero_le _⟩) (fun r_2 hr_2 => ?_)
    refine lv_if_eq (tgt := 44) hx hb dX4_slip_18 (by decide) (fun c_18 => ?_) (fun c_18 => ?_)
    · skip
      have c_18 := b2_z hr_2 c_18
      refine lv_ldc2 hx hb hown hw3 dX4_slip_44 ?_
      exact rw_lret (S := Unit) (G := G) (Wd := fun _ : Unit => (lzM m q (upd S 0 0) ++ lzI G (q 5) 64 f)) () hx hb hr hlk dX4_slip_47 hS (hP) (rfl)
    · skip
      have c_18 := b2_n hr_2 c_18
      refine lv_iload_n hx hb dX4_slip_21 rfl (lv_at hl 3 rfl) ?_
      refine lv_i2l hx hb dX4_slip_22 rfl ?_
      refine lv_lconst (v := 0) hx hb dX4_slip_23 (by decide) ?_
      refine lv_ldc2 hx hb hown hw2 dX4_slip_24 ?_
      refine ro_calli (va_runS (As := [.long odd.toInt64, .long 0, .long 10]) (rest := []) ⟨hx, hb, hml, hown, hts⟩ (c_X4_in l G odd.toInt64 0 10 ) (cwS 3 hts gX4_slip_X4_in rfl rfl rfl (by decide +kernel) ⟨Nat.le_of_ble_eq_true rfl, Nat.le_of_ble_eq_true rfl⟩) (ro_pre hK (fun k q h => by simp at h)) rfl rfl hl.1 rfl (lv_room (Nat.le_of_ble_eq_true rfl)) dX4_slip_27 ⟨Nat.zero_le _, Nat.zero_le _⟩) (fun r_3 hr_3 => ?_)
      refine lv_if_eq (tgt := 44) hx hb dX4_slip_30 (by decide) (fun c_30 => ?_) (fun c_30 => ?_)
      · skip
        have c_30 := b2_z hr_3 c_30
        refine lv_ldc2 hx hb hown hw3 dX4_slip_44 ?_
        exact rw_lret (S := Unit) (G := G) (Wd := fun _ : Unit => (lzM m q (upd S 0 0) ++ lzI G (q 5) 64 f)) () hx hb hr hlk dX4_slip_47 hS (hP) (rfl)
      · skip
        have c_30 := b2_n hr_3 c_30
        refine lv_iload hx hb dX4_slip_33 (lv_at hl 4 rfl) ?_
        refine lv_i2l hx hb dX4_slip_35 rfl ?_
        refine lv_lconst (v := 0) hx hb dX4_slip_36 (by decide) ?_
        refine lv_lconst (v := 1) hx hb dX4_slip_37 (by decide) ?_
        refine ro_calli (va_runS (As := [.long what.toInt64, .long 0, .long 1]) (rest := []) ⟨hx, hb, hml, hown, hts⟩ (c_X4_in l G what.toInt64 0 1 ) (cwS 3 hts gX4_slip_X4_in rfl rfl rfl (by decide +kernel) ⟨Nat.le_of_ble_eq_true rfl, Nat.le_of_ble_eq_true rfl⟩) (ro_pre hK (fun k q h => by simp at h)) rfl rfl hl.1 rfl (lv_room (Nat.le_of_ble_eq_true rfl)) dX4_slip_38 ⟨Nat.zero_le _, Nat.zero_le _⟩) (fun r_4 hr_4 => ?_)
        refine lv_if_ne (tgt := 48) hx hb dX4_slip_41 (by decide) (fun c_41 => ?_) (fun c_41 => ?_)
        · skip
          have c_41 := b2_n hr_4 c_41
          exact Bool.noConfusion (hbW.symm.trans (by rw [c_10, c_18, c_30, c_41] <;> rfl))
        · skip
          have c_41 := b2_z hr_4 c_41
          refine lv_ldc2 hx hb hown hw3 dX4_slip_44 ?_
          exact rw_lret (S := Unit) (G := G) (Wd := fun _ : Unit => (lzM m q (upd S 0 0) ++ lzI G (q 5) 64 f)) () hx hb hr hlk dX4_slip_47 hS (hP) (rfl)
set_option maxHeartbeats 4000000 in
set_option maxRecDepth 100000 in
theorem c_X4_nextToken_end (l : Launch) (G : lzG) (m : Nat) (q : Nat → Nat) (S : Nat → Int32) (tb : Nat → Int32) (L : Nat) (hL : S 11 = nI L) (hC : S 12 = nI L) (hL1 : L ≤ 120) : Met l yX4_nextToken wsX4_nextToken ({ frames := 1, cells := 0, slots := 0, locals := 27 }) (va_Pc [.ref m] (rwP G (lzM m q S ++ lzI G (q 10) 120 tb))) (va_Qv (S := Unit) (fun _ : Unit => True) (rwB G (fun _ : Unit => (lzM m q (upd (upd (upd (upd S 13 (S 12)) 15 (-1000000)) 14 1) 12 (nI L)) ++ lzI G (q 10) 120 tb))) (lzA (lzM m q S ++ lzI G (q 10) 120 tb))) 0 0 (lzA (lzM m q S ++ lzI G (q 10) 120 tb)) := by
  refine rw_start (S := Unit) (cc := cX4_nextToken) (maxL := 1) (ret := none) (by decide) rfl (Nat.le_of_ble_eq_true rfl) ?_
  intro pp ee ss mm bl me cd A hx hb hr hlk hml hts hown hP hK hD hAe hS ls hl
  have hA0 : ∀ zz : Nat, lzA (lzM m q S ++ lzI G (q 10) 120 tb) zz → A zz := fun zz h9 => by rw [hAe]; exact h9
  rw [← hAe]
  clear hAe
  have hown : ss.vm.findClass RX4 = some mm.cls := hown
  have hw1 := hts (.fieldLink RX4 88 "LampSquaresModel" "cursor" "I") (List.mem_of_getElem? (i := 1) rfl)
  have hw2 := hts (.fieldLink RX4 82 "LampSquaresModel" "start" "I") (List.mem_of_getElem? (i := 2) rfl)
  have hw3 := hts (.fieldLink RX4 75 "LampSquaresModel" "taped" "I") (List.mem_of_getElem? (i := 3) rfl)
  have hw5 := hts (.constant RX4 91 (-1000000)) (List.mem_of_getElem? (i := 5) rfl)
  have hw6 := hts (.fieldLink RX4 92 "LampSquaresModel" "value" "I") (List.mem_of_getElem? (i := 6) rfl)
  have hw11 := hts (.fieldLink RX4 103 "LampSquaresModel" "token" "I") (List.mem_of_getElem? (i := 11) rfl)
  have hu_wsX40 : ∀ w ∈ wsX40, w.before ([.ref m] : List Value).toArray ss = true := fun w h9 => hts w (List.mem_cons_of_mem _ (List.mem_append_right _ h9))
  have hl : lv_has ls 1 [(0, .ref m)] := hl
  refine lv_aload_n hx hb dX4_nextToken_0 rfl (lv_at hl 0 rfl) ?_
  refine lv_aload_n hx hb dX4_nextToken_1 rfl (lv_at hl 0 rfl) ?_
  refine lz_get (G := G) (ci := 4) (v := .int (S 12)) (C := RX4) (T := TX4) (N := 24) hx hb hu_wsX40 (fun _ h9 => h9) hown hK hP 0 rfl rfl 12 (by decide) hw1 rfl rfl dX4_nextToken_2 ?_
  refine lz_put (G := G) (ci := 4) (C := RX4) (T := TX4) (N := 24) hx hb hu_wsX40 (fun _ h9 => h9) tyX4 tyX4_ok nmX4 hown hK hP hD hS 0 rfl rfl 13 (by decide) hw2 rfl rfl (by decide +kernel) (Nat.le_of_ble_eq_true rfl) dX4_nextToken_5 (lzM m q (upd S 13 (S 12)) ++ lzI G (q 10) 120 tb) rfl (fun H locs hP hD hS => ?_)
  refine lv_aload_n hx hb dX4_nextToken_8 rfl (lv_at hl 0 rfl) ?_
  refine lv_aload_n hx hb dX4_nextToken_9 rfl (lv_at hl 0 rfl) ?_
  refine lz_get (G := G) (ci := 4) (v := .int (S 12)) (C := RX4) (T := TX4) (N := 24) hx hb hu_wsX40 (fun _ h9 => h9) hown hK hP 0 rfl rfl 12 (by decide) hw1 rfl rfl dX4_nextToken_10 ?_
  refine lv_aload_n hx hb dX4_nextToken_13 rfl (lv_at hl 0 rfl) ?_
  refine lz_get (G := G) (ci := 4) (v := .int (S 11)) (C := RX4) (T := TX4) (N := 24) hx hb hu_wsX40 (fun _ h9 => h9) hown hK hP 0 rfl rfl 11 (by decide) hw3 rfl rfl dX4_nextToken_14 ?_
  refine lv_icmp_ge (tgt := 32) hx hb dX4_nextToken_17 (by decide) (fun c_17 => ?_) (fun c_17 => ?_)
  · skip
    have c_17' := Int32.not_lt.mpr c_17
    refine lv_ldc hx hb hown hw5 dX4_nextToken_32 ?_
    refine lz_put (G := G) (ci := 4) (C := RX4) (T := TX4) (N := 24) hx hb hu_wsX40 (fun _ h9 => h9) tyX4 tyX4_ok nmX4 hown hK hP hD hS 0 rfl rfl 15 (by decide) hw6 rfl rfl (by decide +kernel) (Nat.le_of_ble_eq_true rfl) dX4_nextToken_34 (lzM m q (upd (upd S 13 (S 12)) 15 (-1000000)) ++ lzI G (q 10) 120 tb) rfl (fun H locs hP hD hS => ?_)
    refine lv_aload_n hx hb dX4_nextToken_37 rfl (lv_at hl 0 rfl) ?_
    refine lv_aload_n hx hb dX4_nextToken_38 rfl (lv_at hl 0 rfl) ?_
    refine lz_get (G := G) (ci := 4) (v := .int (S 12)) (C := RX4) (T := TX4) (N := 24) hx hb hu_wsX40 (fun _ h9 => h9) hown hK hP 0 rfl rfl 12 (by decide) hw1 rfl rfl dX4_nextToken_39 ?_
    refine lv_aload_n hx hb dX4_nextToken_42 rfl (lv_at hl 0 rfl) ?_
    refine lz_get (G := G) (ci := 4) (v := .int (S 11)) (C := RX4) (T := TX4) (N := 24) hx hb hu_wsX40 (fun _ h9 => h9) hown hK hP 0 rfl rfl 11 (by decide) hw3 rfl rfl dX4_nextToken_43 ?_
    refine lv_icmp_ne (tgt := 53) hx hb dX4_nextToken_46 (by decide) (fun c_46 => ?_) (fun c_46 => ?_)
    · skip
      exact absurd (hC.trans hL.symm) c_46
    · skip
      refine lv_iconst (v := 1) hx hb dX4_nextToken_49 (by decide) ?_
      refine lv_goto (tgt := 118) hx hb dX4_nextToken_50 (by decide) ?_
      refine lz_put (G := G) (ci := 4) (C := RX4) (T := TX4) (N := 24) hx hb hu_wsX40 (fun _ h9 => h9) tyX4 tyX4_ok nmX4 hown hK hP hD hS 0 rfl rfl 14 (by decide) hw11 rfl rfl (by decide +kernel) (Nat.le_of_ble_eq_true rfl) dX4_nextToken_118 (lzM m q (upd (upd (upd S 13 (S 12)) 15 (-1000000)) 14 1) ++ lzI G (q 10) 120 tb) rfl (fun H locs hP hD hS => ?_)
      refine lv_aload_n hx hb dX4_nextToken_121 rfl (lv_at hl 0 rfl) ?_
      refine lv_dup hx hb dX4_nextToken_122 rfl ?_
      refine lz_get (G := G) (ci := 4) (v := .int (S 12)) (C := RX4) (T := TX4) (N := 24) hx hb hu_wsX40 (fun _ h9 => h9) hown hK hP 0 rfl rfl 12 (by decide) hw1 rfl rfl dX4_nextToken_123 ?_
      refine lv_aload_n hx hb dX4_nextToken_126 rfl (lv_at hl 0 rfl) ?_
      refine lz_get (G := G) (ci := 4) (v := .int (S 12)) (C := RX4) (T := TX4) (N := 24) hx hb hu_wsX40 (fun _ h9 => h9) hown hK hP 0 rfl rfl 12 (by decide) hw1 rfl rfl dX4_nextToken_127 ?_
      refine lv_aload_n hx hb dX4_nextToken_130 rfl (lv_at hl 0 rfl) ?_
      refine lz_get (G := G) (ci := 4) (v := .int (S 11)) (C := RX4) (T := TX4) (N := 24) hx hb hu_wsX40 (fun _ h9 => h9) hown hK hP 0 rfl rfl 11 (by decide) hw3 rfl rfl dX4_nextToken_131 ?_
      refine lv_icmp_ge (tgt := 141) hx hb dX4_nextToken_134 (by decide) (fun c_134 => ?_) (fun c_134 => ?_)
      · skip
        have c_134' := Int32.not_lt.mpr c_134
        refine lv_iconst (v := 0) hx hb dX4_nextToken_141 (by decide) ?_
        refine lv_iadd hx hb dX4_nextToken_142 ?_
        refine lz_top (y := nI L) (by rw [hC]; exact Int32.add_zero _) ?_
        refine lz_put (G := G) (ci := 4) (C := RX4) (T := TX4) (N := 24) hx hb hu_wsX40 (fun _ h9 => h9) tyX4 tyX4_ok nmX4 hown hK hP hD hS 0 rfl rfl 12 (by decide) hw1 rfl rfl (by decide +kernel) (Nat.le_of_ble_eq_true rfl) dX4_nextToken_143 (lzM m q (upd (upd (upd (upd S 13 (S 12)) 15 (-1000000)) 14 1) 12 (nI L)) ++ lzI G (q 10) 120 tb) rfl (fun H locs hP hD hS => ?_)
        refine lv_aload_n hx hb dX4_nextToken_146 rfl (lv_at hl 0 rfl) ?_
        refine lz_get (G := G) (ci := 4) (v := .int 1) (C := RX4) (T := TX4) (N := 24) hx hb hu_wsX40 (fun _ h9 => h9) hown hK hP 0 rfl rfl 14 (by decide) hw11 rfl rfl dX4_nextToken_147 ?_
        refine lv_iconst (v := 3) hx hb dX4_nextToken_150 (by decide) ?_
        refine lv_icmp_ne (tgt := 277) hx hb dX4_nextToken_151 (by decide) (fun c_151 => ?_) (fun c_151 => ?_)
        · skip
          exact rw_vret (S := Unit) (G := G) (Wd := fun _ : Unit => (lzM m q (upd (upd (upd (upd S 13 (S 12)) 15 (-1000000)) 14 1) 12 (nI L)) ++ lzI G (q 10) 120 tb)) () hx hb hr hlk dX4_nextToken_277 hS (hP) (trivial)
        · skip
          exact False.elim (by revert c_151; decide)
      · skip
        have c_134' := Int32.not_le.mp c_134
        exact absurd (by rw [hC, hL]; exact nI_le (Nat.le_refl _) (by omega)) c_134
  · skip
    have c_17' := Int32.not_le.mp c_17
    exact absurd (by rw [hC, hL]; exact nI_le (Nat.le_refl _) (by omega)) c_17
set_option maxHeartbeats 4000000 in
set_option maxRecDepth 100000 in
theorem c_X4_nextToken_plain (l : Launch) (G : lzG) (m : Nat) (q : Nat → Nat) (S : Nat → Int32) (tb : Nat → Int32) (L C : Nat) (hL : S 11 = nI L) (hC : S 12 = nI C) (hL1 : L ≤ 120) (hlt : C < L) (hdig : inR (tb C) 48 57 = false) : Met l yX4_nextToken wsX4_nextToken ({ frames := 1, cells := 0, slots := 0, locals := 27 }) (va_Pc [.ref m] (rwP G (lzM m q S ++ lzI G (q 10) 120 tb))) (va_Qv (S := Unit) (fun _ : Unit => True) (rwB G (fun _ : Unit => (lzM m q (upd (upd (upd (upd S 13 (S 12)) 15 (tb C)) 14 (tokP (tb C))) 12 (nI (C + 1))) ++ lzI G (q 10) 120 tb))) (lzA (lzM m q S ++ lzI G (q 10) 120 tb))) 0 0 (lzA (lzM m q S ++ lzI G (q 10) 120 tb)) := by
  have hdL : inL (tb C).toInt64 48 57 = false := (inL_of (tb C) 48 57).trans hdig
  refine rw_start (S := Unit) (cc := cX4_nextToken) (maxL := 1) (ret := none) (by decide) rfl (Nat.le_of_ble_eq_true rfl) ?_
  intro pp ee ss mm bl me cd A hx hb hr hlk hml hts hown hP hK hD hAe hS ls hl
  have hA0 : ∀ zz : Nat, lzA (lzM m q S ++ lzI G (q 10) 120 tb) zz → A zz := fun zz h9 => by rw [hAe]; exact h9
  rw [← hAe]
  clear hAe
  have hown : ss.vm.findClass RX4 = some mm.cls := hown
  have hw1 := hts (.fieldLink RX4 88 "LampSquaresModel" "cursor" "I") (List.mem_of_getElem? (i := 1) rfl)
  have hw2 := hts (.fieldLink RX4 82 "LampSquaresModel" "start" "I") (List.mem_of_getElem? (i := 2) rfl)
  have hw3 := hts (.fieldLink RX4 75 "LampSquaresModel" "taped" "I") (List.mem_of_getElem? (i := 3) rfl)
  have hw4 := hts (.fieldLink RX4 31 "LampSquaresModel" "tape" "[I") (List.mem_of_getElem? (i := 4) rfl)
  have hw6 := hts (.fieldLink RX4 92 "LampSquaresModel" "value" "I") (List.mem_of_getElem? (i := 6) rfl)
  have hw7 := hts (.constantLong RX4 95 (97)) (List.mem_of_getElem? (i := 7) rfl)
  have hw8 := hts (.constantLong RX4 97 (122)) (List.mem_of_getElem? (i := 8) rfl)
  have hw9 := hts (.constantLong RX4 99 (48)) (List.mem_of_getElem? (i := 9) rfl)
  have hw10 := hts (.constantLong RX4 101 (57)) (List.mem_of_getElem? (i := 10) rfl)
  have hw11 := hts (.fieldLink RX4 103 "LampSquaresModel" "token" "I") (List.mem_of_getElem? (i := 11) rfl)
  have hu_wsX40 : ∀ w ∈ wsX40, w.before ([.ref m] : List Value).toArray ss = true := fun w h9 => hts w (List.mem_cons_of_mem _ (List.mem_append_right _ h9))
  have hl : lv_has ls 1 [(0, .ref m)] := hl
  refine lv_aload_n hx hb dX4_nextToken_0 rfl (lv_at hl 0 rfl) ?_
  refine lv_aload_n hx hb dX4_nextToken_1 rfl (lv_at hl 0 rfl) ?_
  refine lz_get (G := G) (ci := 4) (v := .int (S 12)) (C := RX4) (T := TX4) (N := 24) hx hb hu_wsX40 (fun _ h9 => h9) hown hK hP 0 rfl rfl 12 (by decide) hw1 rfl rfl dX4_nextToken_2 ?_
  refine lz_put (G := G) (ci := 4) (C := RX4) (T := TX4) (N := 24) hx hb hu_wsX40 (fun _ h9 => h9) tyX4 tyX4_ok nmX4 hown hK hP hD hS 0 rfl rfl 13 (by decide) hw2 rfl rfl (by decide +kernel) (Nat.le_of_ble_eq_true rfl) dX4_nextToken_5 (lzM m q (upd S 13 (S 12)) ++ lzI G (q 10) 120 tb) rfl (fun H locs hP hD hS => ?_)
  refine lv_aload_n hx hb dX4_nextToken_8 rfl (lv_at hl 0 rfl) ?_
  refine lv_aload_n hx hb dX4_nextToken_9 rfl (lv_at hl 0 rfl) ?_
  refine lz_get (G := G) (ci := 4) (v := .int (S 12)) (C := RX4) (T := TX4) (N := 24) hx hb hu_wsX40 (fun _ h9 => h9) hown hK hP 0 rfl rfl 12 (by decide) hw1 rfl rfl dX4_nextToken_10 ?_
  refine lv_aload_n hx hb dX4_nextToken_13 rfl (lv_at hl 0 rfl) ?_
  refine lz_get (G := G) (ci := 4) (v := .int (S 11)) (C := RX4) (T := TX4) (N := 24) hx hb hu_wsX40 (fun _ h9 => h9) hown hK hP 0 rfl rfl 11 (by decide) hw3 rfl rfl dX4_nextToken_14 ?_
  refine lv_icmp_ge (tgt := 32) hx hb dX4_nextToken_17 (by decide) (fun c_17 => ?_) (fun c_17 => ?_)
  · skip
    have c_17' := Int32.not_lt.mpr c_17
    exact absurd c_17 (by rw [hC, hL]; exact nI_ge hlt (by omega))
  · skip
    have c_17' := Int32.not_le.mp c_17
    refine lv_aload_n hx hb dX4_nextToken_20 rfl (lv_at hl 0 rfl) ?_
    refine lz_get (G := G) (ci := 4) (v := .ref (q 10)) (C := RX4) (T := TX4) (N := 24) hx hb hu_wsX40 (fun _ h9 => h9) hown hK hP 0 rfl rfl 10 (by decide) hw4 rfl rfl dX4_nextToken_21 ?_
    refine lv_aload_n hx hb dX4_nextToken_24 rfl (lv_at hl 0 rfl) ?_
    refine lz_get (G := G) (ci := 4) (v := .int (S 12)) (C := RX4) (T := TX4) (N := 24) hx hb hu_wsX40 (fun _ h9 => h9) hown hK hP 0 rfl rfl 12 (by decide) hw1 rfl rfl dX4_nextToken_25 ?_
    refine lz_top (y := nI C) (hC) ?_
    refine lz_iald (f := tb) hx hb hK hP 1 rfl C (by omega) (Nat.le_of_ble_eq_true rfl) dX4_nextToken_28 ?_
    refine lv_goto (tgt := 34) hx hb dX4_nextToken_29 (by decide) ?_
    refine lz_put (G := G) (ci := 4) (C := RX4) (T := TX4) (N := 24) hx hb hu_wsX40 (fun _ h9 => h9) tyX4 tyX4_ok nmX4 hown hK hP hD hS 0 rfl rfl 15 (by decide) hw6 rfl rfl (by decide +kernel) (Nat.le_of_ble_eq_true rfl) dX4_nextToken_34 (lzM m q (upd (upd S 13 (S 12)) 15 (tb C)) ++ lzI G (q 10) 120 tb) rfl (fun H locs hP hD hS => ?_)
    refine lv_aload_n hx hb dX4_nextToken_37 rfl (lv_at hl 0 rfl) ?_
    refine lv_aload_n hx hb dX4_nextToken_38 rfl (lv_at hl 0 rfl) ?_
    refine lz_get (G := G) (ci := 4) (v := .int (S 12)) (C := RX4) (T := TX4) (N := 24) hx hb hu_wsX40 (fun _ h9 => h9) hown hK hP 0 rfl rfl 12 (by decide) hw1 rfl rfl dX4_nextToken_39 ?_
    refine lv_aload_n hx hb dX4_nextToken_42 rfl (lv_at hl 0 rfl) ?_
    refine lz_get (G := G) (ci := 4) (v := .int (S 11)) (C := RX4) (T := TX4) (N := 24) hx hb hu_wsX40 (fun _ h9 => h9) hown hK hP 0 rfl rfl 11 (by decide) hw3 rfl rfl dX4_nextToken_43 ?_
    refine lv_icmp_ne (tgt := 53) hx hb dX4_nextToken_46 (by decide) (fun c_46 => ?_) (fun c_46 => ?_)
    · skip
      refine lv_aload_n hx hb dX4_nextToken_53 rfl (lv_at hl 0 rfl) ?_
      refine lz_get (G := G) (ci := 4) (v := .int (tb C)) (C := RX4) (T := TX4) (N := 24) hx hb hu_wsX40 (fun _ h9 => h9) hown hK hP 0 rfl rfl 15 (by decide) hw6 rfl rfl dX4_nextToken_54 ?_
      refine lv_i2l hx hb dX4_nextToken_57 rfl ?_
      refine lv_ldc2 hx hb hown hw7 dX4_nextToken_58 ?_
      refine lv_ldc2 hx hb hown hw8 dX4_nextToken_61 ?_
      refine ro_calli (va_runS (As := [.long ((tb C).toInt64), .long 97, .long 122]) (rest := [.ref m]) ⟨hx, hb, hml, hown, hts⟩ (c_X4_in l G ((tb C).toInt64) 97 122 ) (cwS 3 hts gX4_nextToken_X4_in rfl rfl rfl (by decide +kernel) ⟨Nat.le_of_ble_eq_true rfl, Nat.le_of_ble_eq_true rfl⟩) (ro_pre hK (fun k q h => by simp at h)) rfl rfl hl.1 rfl (lv_room (Nat.le_of_ble_eq_true rfl)) dX4_nextToken_64 ⟨Nat.zero_le _, Nat.zero_le _⟩) (fun r_1 hr_1 => ?_)
      refine lv_if_eq (tgt := 74) hx hb dX4_nextToken_67 (by decide) (fun c_67 => ?_) (fun c_67 => ?_)
      · skip
        have c_67 := b2_z hr_1 c_67
        refine lv_aload_n hx hb dX4_nextToken_74 rfl (lv_at hl 0 rfl) ?_
        refine lz_get (G := G) (ci := 4) (v := .int (tb C)) (C := RX4) (T := TX4) (N := 24) hx hb hu_wsX40 (fun _ h9 => h9) hown hK hP 0 rfl rfl 15 (by decide) hw6 rfl rfl dX4_nextToken_75 ?_
        refine lv_i2l hx hb dX4_nextToken_78 rfl ?_
        refine lv_ldc2 hx hb hown hw9 dX4_nextToken_79 ?_
        refine lv_ldc2 hx hb hown hw10 dX4_nextToken_82 ?_
        refine ro_calli (va_runS (As := [.long ((tb C).toInt64), .long 48, .long 57]) (rest := [.ref m]) ⟨hx, hb, hml, hown, hts⟩ (c_X4_in l G ((tb C).toInt64) 48 57 ) (cwS 3 hts gX4_nextToken_X4_in rfl rfl rfl (by decide +kernel) ⟨Nat.le_of_ble_eq_true rfl, Nat.le_of_ble_eq_true rfl⟩) (ro_pre hK (fun k q h => by simp at h)) rfl rfl hl.1 rfl (lv_room (Nat.le_of_ble_eq_true rfl)) dX4_nextToken_85 ⟨Nat.zero_le _, Nat.zero_le _⟩) (fun r_2 hr_2 => ?_)
        refine lv_if_eq (tgt := 95) hx hb dX4_nextToken_88 (by decide) (fun c_88 => ?_) (fun c_88 => ?_)
        · skip
          have c_88 := b2_z hr_2 c_88
          refine lv_aload_n hx hb dX4_nextToken_95 rfl (lv_at hl 0 rfl) ?_
          refine lz_get (G := G) (ci := 4) (v := .int (tb C)) (C := RX4) (T := TX4) (N := 24) hx hb hu_wsX40 (fun _ h9 => h9) hown hK hP 0 rfl rfl 15 (by decide) hw6 rfl rfl dX4_nextToken_96 ?_
          refine lv_bipush (v := 44) hx hb dX4_nextToken_99 (by decide) ?_
          refine lv_icmp_eq (tgt := 113) hx hb dX4_nextToken_101 (by decide) (fun c_101 => ?_) (fun c_101 => ?_)
          · skip
            refine lv_iconst (v := 4) hx hb dX4_nextToken_113 (by decide) ?_
            refine lv_goto (tgt := 118) hx hb dX4_nextToken_114 (by decide) ?_
            refine lz_put (G := G) (ci := 4) (C := RX4) (T := TX4) (N := 24) hx hb hu_wsX40 (fun _ h9 => h9) tyX4 tyX4_ok nmX4 hown hK hP hD hS 0 rfl rfl 14 (by decide) hw11 rfl rfl (by decide +kernel) (Nat.le_of_ble_eq_true rfl) dX4_nextToken_118 (lzM m q (upd (upd (upd S 13 (S 12)) 15 (tb C)) 14 4) ++ lzI G (q 10) 120 tb) rfl (fun H locs hP hD hS => ?_)
            refine lv_aload_n hx hb dX4_nextToken_121 rfl (lv_at hl 0 rfl) ?_
            refine lv_dup hx hb dX4_nextToken_122 rfl ?_
            refine lz_get (G := G) (ci := 4) (v := .int (S 12)) (C := RX4) (T := TX4) (N := 24) hx hb hu_wsX40 (fun _ h9 => h9) hown hK hP 0 rfl rfl 12 (by decide) hw1 rfl rfl dX4_nextToken_123 ?_
            refine lv_aload_n hx hb dX4_nextToken_126 rfl (lv_at hl 0 rfl) ?_
            refine lz_get (G := G) (ci := 4) (v := .int (S 12)) (C := RX4) (T := TX4) (N := 24) hx hb hu_wsX40 (fun _ h9 => h9) hown hK hP 0 rfl rfl 12 (by decide) hw1 rfl rfl dX4_nextToken_127 ?_
            refine lv_aload_n hx hb dX4_nextToken_130 rfl (lv_at hl 0 rfl) ?_
            refine lz_get (G := G) (ci := 4) (v := .int (S 11)) (C := RX4) (T := TX4) (N := 24) hx hb hu_wsX40 (fun _ h9 => h9) hown hK hP 0 rfl rfl 11 (by decide) hw3 rfl rfl dX4_nextToken_131 ?_
            refine lv_icmp_ge (tgt := 141) hx hb dX4_nextToken_134 (by decide) (fun c_134 => ?_) (fun c_134 => ?_)
            · skip
              have c_134' := Int32.not_lt.mpr c_134
              exact absurd c_134 (by rw [hC, hL]; exact nI_ge hlt (by omega))
            · skip
              have c_134' := Int32.not_le.mp c_134
              refine lv_iconst (v := 1) hx hb dX4_nextToken_137 (by decide) ?_
              refine lv_goto (tgt := 142) hx hb dX4_nextToken_138 (by decide) ?_
              refine lv_iadd hx hb dX4_nextToken_142 ?_
              refine lz_top (y := nI (C + 1)) (by rw [hC]; exact nI_1 _) ?_
              refine lz_put (G := G) (ci := 4) (C := RX4) (T := TX4) (N := 24) hx hb hu_wsX40 (fun _ h9 => h9) tyX4 tyX4_ok nmX4 hown hK hP hD hS 0 rfl rfl 12 (by decide) hw1 rfl rfl (by decide +kernel) (Nat.le_of_ble_eq_true rfl) dX4_nextToken_143 (lzM m q (upd (upd (upd (upd S 13 (S 12)) 15 (tb C)) 14 4) 12 (nI (C + 1))) ++ lzI G (q 10) 120 tb) rfl (fun H locs hP hD hS => ?_)
              refine lv_aload_n hx hb dX4_nextToken_146 rfl (lv_at hl 0 rfl) ?_
              refine lz_get (G := G) (ci := 4) (v := .int 4) (C := RX4) (T := TX4) (N := 24) hx hb hu_wsX40 (fun _ h9 => h9) hown hK hP 0 rfl rfl 14 (by decide) hw11 rfl rfl dX4_nextToken_147 ?_
              refine lv_iconst (v := 3) hx hb dX4_nextToken_150 (by decide) ?_
              refine lv_icmp_ne (tgt := 277) hx hb dX4_nextToken_151 (by decide) (fun c_151 => ?_) (fun c_151 => ?_)
              · skip
                exact rw_vret (S := Unit) (G := G) (Wd := fun _ : Unit => (lzM m q (upd (upd (upd (upd S 13 (S 12)) 15 (tb C)) 14 (tokP (tb C))) 12 (nI (C + 1))) ++ lzI G (q 10) 120 tb)) () hx hb hr hlk dX4_nextToken_277 hS (by show va_P G.1 lzC (lzM m q (upd (upd (upd (upd S 13 (S 12)) 15 (tb C)) 14 (tokP (tb C))) 12 (nI (C + 1))) ++ lzI G (q 10) 120 tb) _; unfold tokP; first | (rw [if_pos c_67]; exact hP) | (rw [if_neg (by rw [c_67]; decide), if_pos c_101]; exact hP) | (rw [if_neg (by rw [c_67]; decide), if_neg c_101, if_pos c_110]; exact hP) | (rw [if_neg (by rw [c_67]; decide), if_neg c_101, if_neg c_110]; exact hP)) (trivial)
              · skip
                exact False.elim (by revert c_151; decide)
          · skip
            refine lv_aload_n hx hb dX4_nextToken_104 rfl (lv_at hl 0 rfl) ?_
            refine lz_get (G := G) (ci := 4) (v := .int (tb C)) (C := RX4) (T := TX4) (N := 24) hx hb hu_wsX40 (fun _ h9 => h9) hown hK hP 0 rfl rfl 15 (by decide) hw6 rfl rfl dX4_nextToken_105 ?_
            refine lv_bipush (v := 59) hx hb dX4_nextToken_108 (by decide) ?_
            refine lv_icmp_ne (tgt := 117) hx hb dX4_nextToken_110 (by decide) (fun c_110 => ?_) (fun c_110 => ?_)
            · skip
              refine lv_iconst (v := 0) hx hb dX4_nextToken_117 (by decide) ?_
              refine lz_put (G := G) (ci := 4) (C := RX4) (T := TX4) (N := 24) hx hb hu_wsX40 (fun _ h9 => h9) tyX4 tyX4_ok nmX4 hown hK hP hD hS 0 rfl rfl 14 (by decide) hw11 rfl rfl (by decide +kernel) (Nat.le_of_ble_eq_true rfl) dX4_nextToken_118 (lzM m q (upd (upd (upd S 13 (S 12)) 15 (tb C)) 14 0) ++ lzI G (q 10) 120 tb) rfl (fun H locs hP hD hS => ?_)
              refine lv_aload_n hx hb dX4_nextToken_121 rfl (lv_at hl 0 rfl) ?_
              refine lv_dup hx hb dX4_nextToken_122 rfl ?_
              refine lz_get (G := G) (ci := 4) (v := .int (S 12)) (C := RX4) (T := TX4) (N := 24) hx hb hu_wsX40 (fun _ h9 => h9) hown hK hP 0 rfl rfl 12 (by decide) hw1 rfl rfl dX4_nextToken_123 ?_
              refine lv_aload_n hx hb dX4_nextToken_126 rfl (lv_at hl 0 rfl) ?_
              refine lz_get (G := G) (ci := 4) (v := .int (S 12)) (C := RX4) (T := TX4) (N := 24) hx hb hu_wsX40 (fun _ h9 => h9) hown hK hP 0 rfl rfl 12 (by decide) hw1 rfl rfl dX4_nextToken_127 ?_
              refine lv_aload_n hx hb dX4_nextToken_130 rfl (lv_at hl 0 rfl) ?_
              refine lz_get (G := G) (ci := 4) (v := .int (S 11)) (C := RX4) (T := TX4) (N := 24) hx hb hu_wsX40 (fun _ h9 => h9) hown hK hP 0 rfl rfl 11 (by decide) hw3 rfl rfl dX4_nextToken_131 ?_
              refine lv_icmp_ge (tgt := 141) hx hb dX4_nextToken_134 (by decide) (fun c_134 => ?_) (fun c_134 => ?_)
              · skip
                have c_134' := Int32.not_lt.mpr c_134
                exact absurd c_134 (by rw [hC, hL]; exact nI_ge hlt (by omega))
              · skip
                have c_134' := Int32.not_le.mp c_134
                refine lv_iconst (v := 1) hx hb dX4_nextToken_137 (by decide) ?_
                refine lv_goto (tgt := 142) hx hb dX4_nextToken_138 (by decide) ?_
                refine lv_iadd hx hb dX4_nextToken_142 ?_
                refine lz_top (y := nI (C + 1)) (by rw [hC]; exact nI_1 _) ?_
                refine lz_put (G := G) (ci := 4) (C := RX4) (T := TX4) (N := 24) hx hb hu_wsX40 (fun _ h9 => h9) tyX4 tyX4_ok nmX4 hown hK hP hD hS 0 rfl rfl 12 (by decide) hw1 rfl rfl (by decide +kernel) (Nat.le_of_ble_eq_true rfl) dX4_nextToken_143 (lzM m q (upd (upd (upd (upd S 13 (S 12)) 15 (tb C)) 14 0) 12 (nI (C + 1))) ++ lzI G (q 10) 120 tb) rfl (fun H locs hP hD hS => ?_)
                refine lv_aload_n hx hb dX4_nextToken_146 rfl (lv_at hl 0 rfl) ?_
                refine lz_get (G := G) (ci := 4) (v := .int 0) (C := RX4) (T := TX4) (N := 24) hx hb hu_wsX40 (fun _ h9 => h9) hown hK hP 0 rfl rfl 14 (by decide) hw11 rfl rfl dX4_nextToken_147 ?_
                refine lv_iconst (v := 3) hx hb dX4_nextToken_150 (by decide) ?_
                refine lv_icmp_ne (tgt := 277) hx hb dX4_nextToken_151 (by decide) (fun c_151 => ?_) (fun c_151 => ?_)
                · skip
                  exact rw_vret (S := Unit) (G := G) (Wd := fun _ : Unit => (lzM m q (upd (upd (upd (upd S 13 (S 12)) 15 (tb C)) 14 (tokP (tb C))) 12 (nI (C + 1))) ++ lzI G (q 10) 120 tb)) () hx hb hr hlk dX4_nextToken_277 hS (by show va_P G.1 lzC (lzM m q (upd (upd (upd (upd S 13 (S 12)) 15 (tb C)) 14 (tokP (tb C))) 12 (nI (C + 1))) ++ lzI G (q 10) 120 tb) _; unfold tokP; first | (rw [if_pos c_67]; exact hP) | (rw [if_neg (by rw [c_67]; decide), if_pos c_101]; exact hP) | (rw [if_neg (by rw [c_67]; decide), if_neg c_101, if_pos c_110]; exact hP) | (rw [if_neg (by rw [c_67]; decide), if_neg c_101, if_neg c_110]; exact hP)) (trivial)
                · skip
                  exact False.elim (by revert c_151; decide)
            · skip
              refine lv_iconst (v := 4) hx hb dX4_nextToken_113 (by decide) ?_
              refine lv_goto (tgt := 118) hx hb dX4_nextToken_114 (by decide) ?_
              refine lz_put (G := G) (ci := 4) (C := RX4) (T := TX4) (N := 24) hx hb hu_wsX40 (fun _ h9 => h9) tyX4 tyX4_ok nmX4 hown hK hP hD hS 0 rfl rfl 14 (by decide) hw11 rfl rfl (by decide +kernel) (Nat.le_of_ble_eq_true rfl) dX4_nextToken_118 (lzM m q (upd (upd (upd S 13 (S 12)) 15 (tb C)) 14 4) ++ lzI G (q 10) 120 tb) rfl (fun H locs hP hD hS => ?_)
              refine lv_aload_n hx hb dX4_nextToken_121 rfl (lv_at hl 0 rfl) ?_
              refine lv_dup hx hb dX4_nextToken_122 rfl ?_
              refine lz_get (G := G) (ci := 4) (v := .int (S 12)) (C := RX4) (T := TX4) (N := 24) hx hb hu_wsX40 (fun _ h9 => h9) hown hK hP 0 rfl rfl 12 (by decide) hw1 rfl rfl dX4_nextToken_123 ?_
              refine lv_aload_n hx hb dX4_nextToken_126 rfl (lv_at hl 0 rfl) ?_
              refine lz_get (G := G) (ci := 4) (v := .int (S 12)) (C := RX4) (T := TX4) (N := 24) hx hb hu_wsX40 (fun _ h9 => h9) hown hK hP 0 rfl rfl 12 (by decide) hw1 rfl rfl dX4_nextToken_127 ?_
              refine lv_aload_n hx hb dX4_nextToken_130 rfl (lv_at hl 0 rfl) ?_
              refine lz_get (G := G) (ci := 4) (v := .int (S 11)) (C := RX4) (T := TX4) (N := 24) hx hb hu_wsX40 (fun _ h9 => h9) hown hK hP 0 rfl rfl 11 (by decide) hw3 rfl rfl dX4_nextToken_131 ?_
              refine lv_icmp_ge (tgt := 141) hx hb dX4_nextToken_134 (by decide) (fun c_134 => ?_) (fun c_134 => ?_)
              · skip
                have c_134' := Int32.not_lt.mpr c_134
                exact absurd c_134 (by rw [hC, hL]; exact nI_ge hlt (by omega))
              · skip
                have c_134' := Int32.not_le.mp c_134
                refine lv_iconst (v := 1) hx hb dX4_nextToken_137 (by decide) ?_
                refine lv_goto (tgt := 142) hx hb dX4_nextToken_138 (by decide) ?_
                refine lv_iadd hx hb dX4_nextToken_142 ?_
                refine lz_top (y := nI (C + 1)) (by rw [hC]; exact nI_1 _) ?_
                refine lz_put (G := G) (ci := 4) (C := RX4) (T := TX4) (N := 24) hx hb hu_wsX40 (fun _ h9 => h9) tyX4 tyX4_ok nmX4 hown hK hP hD hS 0 rfl rfl 12 (by decide) hw1 rfl rfl (by decide +kernel) (Nat.le_of_ble_eq_true rfl) dX4_nextToken_143 (lzM m q (upd (upd (upd (upd S 13 (S 12)) 15 (tb C)) 14 4) 12 (nI (C + 1))) ++ lzI G (q 10) 120 tb) rfl (fun H locs hP hD hS => ?_)
                refine lv_aload_n hx hb dX4_nextToken_146 rfl (lv_at hl 0 rfl) ?_
                refine lz_get (G := G) (ci := 4) (v := .int 4) (C := RX4) (T := TX4) (N := 24) hx hb hu_wsX40 (fun _ h9 => h9) hown hK hP 0 rfl rfl 14 (by decide) hw11 rfl rfl dX4_nextToken_147 ?_
                refine lv_iconst (v := 3) hx hb dX4_nextToken_150 (by decide) ?_
                refine lv_icmp_ne (tgt := 277) hx hb dX4_nextToken_151 (by decide) (fun c_151 => ?_) (fun c_151 => ?_)
                · skip
                  exact rw_vret (S := Unit) (G := G) (Wd := fun _ : Unit => (lzM m q (upd (upd (upd (upd S 13 (S 12)) 15 (tb C)) 14 (tokP (tb C))) 12 (nI (C + 1))) ++ lzI G (q 10) 120 tb)) () hx hb hr hlk dX4_nextToken_277 hS (by show va_P G.1 lzC (lzM m q (upd (upd (upd (upd S 13 (S 12)) 15 (tb C)) 14 (tokP (tb C))) 12 (nI (C + 1))) ++ lzI G (q 10) 120 tb) _; unfold tokP; first | (rw [if_pos c_67]; exact hP) | (rw [if_neg (by rw [c_67]; decide), if_pos c_101]; exact hP) | (rw [if_neg (by rw [c_67]; decide), if_neg c_101, if_pos c_110]; exact hP) | (rw [if_neg (by rw [c_67]; decide), if_neg c_101, if_neg c_110]; exact hP)) (trivial)
                · skip
                  exact False.elim (by revert c_151; decide)
        · skip
          have c_88 := b2_n hr_2 c_88
          exact Bool.noConfusion (hdL.symm.trans c_88)
      · skip
        have c_67 := b2_n hr_1 c_67
        refine lv_iconst (v := 2) hx hb dX4_nextToken_70 (by decide) ?_
        refine lv_goto (tgt := 118) hx hb dX4_nextToken_71 (by decide) ?_
        refine lz_put (G := G) (ci := 4) (C := RX4) (T := TX4) (N := 24) hx hb hu_wsX40 (fun _ h9 => h9) tyX4 tyX4_ok nmX4 hown hK hP hD hS 0 rfl rfl 14 (by decide) hw11 rfl rfl (by decide +kernel) (Nat.le_of_ble_eq_true rfl) dX4_nextToken_118 (lzM m q (upd (upd (upd S 13 (S 12)) 15 (tb C)) 14 2) ++ lzI G (q 10) 120 tb) rfl (fun H locs hP hD hS => ?_)
        refine lv_aload_n hx hb dX4_nextToken_121 rfl (lv_at hl 0 rfl) ?_
        refine lv_dup hx hb dX4_nextToken_122 rfl ?_
        refine lz_get (G := G) (ci := 4) (v := .int (S 12)) (C := RX4) (T := TX4) (N := 24) hx hb hu_wsX40 (fun _ h9 => h9) hown hK hP 0 rfl rfl 12 (by decide) hw1 rfl rfl dX4_nextToken_123 ?_
        refine lv_aload_n hx hb dX4_nextToken_126 rfl (lv_at hl 0 rfl) ?_
        refine lz_get (G := G) (ci := 4) (v := .int (S 12)) (C := RX4) (T := TX4) (N := 24) hx hb hu_wsX40 (fun _ h9 => h9) hown hK hP 0 rfl rfl 12 (by decide) hw1 rfl rfl dX4_nextToken_127 ?_
        refine lv_aload_n hx hb dX4_nextToken_130 rfl (lv_at hl 0 rfl) ?_
        refine lz_get (G := G) (ci := 4) (v := .int (S 11)) (C := RX4) (T := TX4) (N := 24) hx hb hu_wsX40 (fun _ h9 => h9) hown hK hP 0 rfl rfl 11 (by decide) hw3 rfl rfl dX4_nextToken_131 ?_
        refine lv_icmp_ge (tgt := 141) hx hb dX4_nextToken_134 (by decide) (fun c_134 => ?_) (fun c_134 => ?_)
        · skip
          have c_134' := Int32.not_lt.mpr c_134
          exact absurd c_134 (by rw [hC, hL]; exact nI_ge hlt (by omega))
        · skip
          have c_134' := Int32.not_le.mp c_134
          refine lv_iconst (v := 1) hx hb dX4_nextToken_137 (by decide) ?_
          refine lv_goto (tgt := 142) hx hb dX4_nextToken_138 (by decide) ?_
          refine lv_iadd hx hb dX4_nextToken_142 ?_
          refine lz_top (y := nI (C + 1)) (by rw [hC]; exact nI_1 _) ?_
          refine lz_put (G := G) (ci := 4) (C := RX4) (T := TX4) (N := 24) hx hb hu_wsX40 (fun _ h9 => h9) tyX4 tyX4_ok nmX4 hown hK hP hD hS 0 rfl rfl 12 (by decide) hw1 rfl rfl (by decide +kernel) (Nat.le_of_ble_eq_true rfl) dX4_nextToken_143 (lzM m q (upd (upd (upd (upd S 13 (S 12)) 15 (tb C)) 14 2) 12 (nI (C + 1))) ++ lzI G (q 10) 120 tb) rfl (fun H locs hP hD hS => ?_)
          refine lv_aload_n hx hb dX4_nextToken_146 rfl (lv_at hl 0 rfl) ?_
          refine lz_get (G := G) (ci := 4) (v := .int 2) (C := RX4) (T := TX4) (N := 24) hx hb hu_wsX40 (fun _ h9 => h9) hown hK hP 0 rfl rfl 14 (by decide) hw11 rfl rfl dX4_nextToken_147 ?_
          refine lv_iconst (v := 3) hx hb dX4_nextToken_150 (by decide) ?_
          refine lv_icmp_ne (tgt := 277) hx hb dX4_nextToken_151 (by decide) (fun c_151 => ?_) (fun c_151 => ?_)
          · skip
            exact rw_vret (S := Unit) (G := G) (Wd := fun _ : Unit => (lzM m q (upd (upd (upd (upd S 13 (S 12)) 15 (tb C)) 14 (tokP (tb C))) 12 (nI (C + 1))) ++ lzI G (q 10) 120 tb)) () hx hb hr hlk dX4_nextToken_277 hS (by show va_P G.1 lzC (lzM m q (upd (upd (upd (upd S 13 (S 12)) 15 (tb C)) 14 (tokP (tb C))) 12 (nI (C + 1))) ++ lzI G (q 10) 120 tb) _; unfold tokP; first | (rw [if_pos c_67]; exact hP) | (rw [if_neg (by rw [c_67]; decide), if_pos c_101]; exact hP) | (rw [if_neg (by rw [c_67]; decide), if_neg c_101, if_pos c_110]; exact hP) | (rw [if_neg (by rw [c_67]; decide), if_neg c_101, if_neg c_110]; exact hP)) (trivial)
          · skip
            exact False.elim (by revert c_151; decide)
    · skip
      exact absurd ((nI_eq (by omega) (by omega)).mp (hC.symm.trans (c_46.trans hL))) (by omega)
