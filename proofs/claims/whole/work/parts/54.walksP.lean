set_option maxHeartbeats 4000000 in
set_option maxRecDepth 100000 in
theorem c_X4_isLetter (l : Launch) (G : lzG) (m : Nat) (q : Nat → Nat) (S : Nat → Int32) (x : Int32)  : Met l yX4_isLetter wsX4_isLetter ({ frames := 0, cells := 0, slots := 0, locals := 0 }) (va_Pc [.ref m, .int x] (roP G (lzM m q S))) (vp_Si (fun r : Int32 => r = b2 (isLetM S x))) 0 0 (fun _ => False) := by
  refine ro_start (cc := cX4_isLetter) (maxL := 2) (ret := (some .boolean)) (by decide) rfl (Nat.le_of_ble_eq_true rfl) ?_
  intro pp ee ss mm bl me cd hx hb hr hlk hml hts hown hP hK ls hl
  have hown : ss.vm.findClass RX4 = some mm.cls := hown
  have hw1 := hts (.fieldLink RX4 79 "LampSquaresModel" "fault" "I") (List.mem_of_getElem? (i := 1) rfl)
  have hw2 := hts (.fieldLink RX4 103 "LampSquaresModel" "token" "I") (List.mem_of_getElem? (i := 2) rfl)
  have hw3 := hts (.fieldLink RX4 92 "LampSquaresModel" "value" "I") (List.mem_of_getElem? (i := 3) rfl)
  have hu_wsX40 : ∀ w ∈ wsX40, w.before ([.ref m, .int x] : List Value).toArray ss = true := fun w h9 => hts w (List.mem_cons_of_mem _ (List.mem_append_right _ h9))
  have hl : lv_has ls 2 [(0, .ref m), (1, .int x)] := hl
  refine lv_aload_n hx hb dX4_isLetter_0 rfl (lv_at hl 0 rfl) ?_
  refine lz_get (G := G) (ci := 4) (v := .int (S 16)) (C := RX4) (T := TX4) (N := 24) hx hb hu_wsX40 (fun _ h9 => h9) hown hK hP 0 rfl rfl 16 (by decide) hw1 rfl rfl dX4_isLetter_1 ?_
  refine lv_if_ne (tgt := 27) hx hb dX4_isLetter_4 (by decide) (fun c_4 => ?_) (fun c_4 => ?_)
  · skip
    refine lv_iconst (v := 0) hx hb dX4_isLetter_27 (by decide) ?_
    exact ro_zret hx hb hr hlk dX4_isLetter_28 (by simp [isLetM, b2, c_4])
  · skip
    refine lv_aload_n hx hb dX4_isLetter_7 rfl (lv_at hl 0 rfl) ?_
    refine lz_get (G := G) (ci := 4) (v := .int (S 14)) (C := RX4) (T := TX4) (N := 24) hx hb hu_wsX40 (fun _ h9 => h9) hown hK hP 0 rfl rfl 14 (by decide) hw2 rfl rfl dX4_isLetter_8 ?_
    refine lv_iconst (v := 2) hx hb dX4_isLetter_11 (by decide) ?_
    refine lv_icmp_ne (tgt := 27) hx hb dX4_isLetter_12 (by decide) (fun c_12 => ?_) (fun c_12 => ?_)
    · skip
      refine lv_iconst (v := 0) hx hb dX4_isLetter_27 (by decide) ?_
      exact ro_zret hx hb hr hlk dX4_isLetter_28 (by simp [isLetM, b2, c_4, c_12])
    · skip
      refine lv_aload_n hx hb dX4_isLetter_15 rfl (lv_at hl 0 rfl) ?_
      refine lz_get (G := G) (ci := 4) (v := .int (S 15)) (C := RX4) (T := TX4) (N := 24) hx hb hu_wsX40 (fun _ h9 => h9) hown hK hP 0 rfl rfl 15 (by decide) hw3 rfl rfl dX4_isLetter_16 ?_
      refine lv_iload_n hx hb dX4_isLetter_19 rfl (lv_at hl 1 rfl) ?_
      refine lv_icmp_ne (tgt := 27) hx hb dX4_isLetter_20 (by decide) (fun c_20 => ?_) (fun c_20 => ?_)
      · skip
        refine lv_iconst (v := 0) hx hb dX4_isLetter_27 (by decide) ?_
        exact ro_zret hx hb hr hlk dX4_isLetter_28 (by simp [isLetM, b2, c_4, c_12, c_20])
      · skip
        refine lv_iconst (v := 1) hx hb dX4_isLetter_23 (by decide) ?_
        refine lv_goto (tgt := 28) hx hb dX4_isLetter_24 (by decide) ?_
        exact ro_zret hx hb hr hlk dX4_isLetter_28 (by simp [isLetM, b2, c_4, c_12, c_20])
set_option maxHeartbeats 4000000 in
set_option maxRecDepth 100000 in
theorem c_X4_isSort (l : Launch) (G : lzG) (m : Nat) (q : Nat → Nat) (S : Nat → Int32)  : Met l yX4_isSort wsX4_isSort ({ frames := 1, cells := 0, slots := 0, locals := 20 }) (va_Pc [.ref m] (roP G (lzM m q S))) (vp_Si (fun r : Int32 => r = b2 (isSrtM S))) 0 0 (fun _ => False) := by
  refine ro_start (cc := cX4_isSort) (maxL := 1) (ret := (some .boolean)) (by decide) rfl (Nat.le_of_ble_eq_true rfl) ?_
  intro pp ee ss mm bl me cd hx hb hr hlk hml hts hown hP hK ls hl
  have hown : ss.vm.findClass RX4 = some mm.cls := hown
  have hw1 := hts (.fieldLink RX4 79 "LampSquaresModel" "fault" "I") (List.mem_of_getElem? (i := 1) rfl)
  have hw2 := hts (.fieldLink RX4 103 "LampSquaresModel" "token" "I") (List.mem_of_getElem? (i := 2) rfl)
  have hw3 := hts (.fieldLink RX4 92 "LampSquaresModel" "value" "I") (List.mem_of_getElem? (i := 3) rfl)
  have hw4 := hts (.constant RX4 91 (-1000000)) (List.mem_of_getElem? (i := 4) rfl)
  have hu_wsX40 : ∀ w ∈ wsX40, w.before ([.ref m] : List Value).toArray ss = true := fun w h9 => hts w (List.mem_cons_of_mem _ (List.mem_append_right _ h9))
  have hl : lv_has ls 1 [(0, .ref m)] := hl
  refine lv_aload_n hx hb dX4_isSort_0 rfl (lv_at hl 0 rfl) ?_
  refine lz_get (G := G) (ci := 4) (v := .int (S 16)) (C := RX4) (T := TX4) (N := 24) hx hb hu_wsX40 (fun _ h9 => h9) hown hK hP 0 rfl rfl 16 (by decide) hw1 rfl rfl dX4_isSort_1 ?_
  refine lv_if_ne (tgt := 31) hx hb dX4_isSort_4 (by decide) (fun c_4 => ?_) (fun c_4 => ?_)
  · skip
    refine lv_iconst (v := 0) hx hb dX4_isSort_31 (by decide) ?_
    exact ro_zret hx hb hr hlk dX4_isSort_32 (by simp [isSrtM, b2, c_4])
  · skip
    refine lv_aload_n hx hb dX4_isSort_7 rfl (lv_at hl 0 rfl) ?_
    refine lz_get (G := G) (ci := 4) (v := .int (S 14)) (C := RX4) (T := TX4) (N := 24) hx hb hu_wsX40 (fun _ h9 => h9) hown hK hP 0 rfl rfl 14 (by decide) hw2 rfl rfl dX4_isSort_8 ?_
    refine lv_iconst (v := 2) hx hb dX4_isSort_11 (by decide) ?_
    refine lv_icmp_ne (tgt := 31) hx hb dX4_isSort_12 (by decide) (fun c_12 => ?_) (fun c_12 => ?_)
    · skip
      refine lv_iconst (v := 0) hx hb dX4_isSort_31 (by decide) ?_
      exact ro_zret hx hb hr hlk dX4_isSort_32 (by simp [isSrtM, b2, c_4, c_12])
    · skip
      refine lv_aload_n hx hb dX4_isSort_15 rfl (lv_at hl 0 rfl) ?_
      refine lz_get (G := G) (ci := 4) (v := .int (S 15)) (C := RX4) (T := TX4) (N := 24) hx hb hu_wsX40 (fun _ h9 => h9) hown hK hP 0 rfl rfl 15 (by decide) hw3 rfl rfl dX4_isSort_16 ?_
      refine ro_calli (va_runS (As := [.int (S 15)]) (rest := []) ⟨hx, hb, hml, hown, hts⟩ (c_X4_kindBy l G (S 15) ) (cwS 1 hts gX4_isSort_X4_kindBy rfl rfl rfl (by decide +kernel) ⟨Nat.le_of_ble_eq_true rfl, Nat.le_of_ble_eq_true rfl⟩) (ro_pre hK (fun k q h => by simp at h)) rfl rfl hl.1 rfl (lv_room (Nat.le_of_ble_eq_true rfl)) dX4_isSort_19 ⟨Nat.zero_le _, Nat.zero_le _⟩) (fun r_1 hr_1 => ?_)
      refine lz_top (y := kindB (S 15)) hr_1 ?_
      refine lv_ldc hx hb hown hw4 dX4_isSort_22 ?_
      refine lv_icmp_eq (tgt := 31) hx hb dX4_isSort_24 (by decide) (fun c_24 => ?_) (fun c_24 => ?_)
      · skip
        refine lv_iconst (v := 0) hx hb dX4_isSort_31 (by decide) ?_
        exact ro_zret hx hb hr hlk dX4_isSort_32 (by simp [isSrtM, b2, c_4, c_12, c_24])
      · skip
        refine lv_iconst (v := 1) hx hb dX4_isSort_27 (by decide) ?_
        refine lv_goto (tgt := 32) hx hb dX4_isSort_28 (by decide) ?_
        exact ro_zret hx hb hr hlk dX4_isSort_32 (by simp [isSrtM, b2, c_4, c_12, c_24])
set_option maxHeartbeats 4000000 in
set_option maxRecDepth 100000 in
theorem c_X4_bad_first (l : Launch) (G : lzG) (m : Nat) (q : Nat → Nat) (S : Nat → Int32) (k : Int32) (hf : S 16 = 0) : Met l yX4_bad wsX4_bad ({ frames := 0, cells := 0, slots := 0, locals := 0 }) (va_Pc [.ref m, .int k] (rwP G (lzM m q S))) (va_Qv (S := Unit) (fun _ : Unit => True) (rwB G (fun _ : Unit => lzM m q (upd (upd S 16 k) 17 (S 13)))) (lzA (lzM m q S))) 0 0 (lzA (lzM m q S)) := by
  refine rw_start (S := Unit) (cc := cX4_bad) (maxL := 2) (ret := none) (by decide) rfl (Nat.le_of_ble_eq_true rfl) ?_
  intro pp ee ss mm bl me cd A hx hb hr hlk hml hts hown hP hK hD hAe hS ls hl
  have hA0 : ∀ zz : Nat, lzA (lzM m q S) zz → A zz := fun zz h9 => by rw [hAe]; exact h9
  rw [← hAe]
  clear hAe
  have hown : ss.vm.findClass RX4 = some mm.cls := hown
  have hw1 := hts (.fieldLink RX4 79 "LampSquaresModel" "fault" "I") (List.mem_of_getElem? (i := 1) rfl)
  have hw2 := hts (.fieldLink RX4 82 "LampSquaresModel" "start" "I") (List.mem_of_getElem? (i := 2) rfl)
  have hw3 := hts (.fieldLink RX4 85 "LampSquaresModel" "faultAt" "I") (List.mem_of_getElem? (i := 3) rfl)
  have hu_wsX40 : ∀ w ∈ wsX40, w.before ([.ref m, .int k] : List Value).toArray ss = true := fun w h9 => hts w (List.mem_cons_of_mem _ (List.mem_append_right _ h9))
  have hl : lv_has ls 2 [(0, .ref m), (1, .int k)] := hl
  refine lv_aload_n hx hb dX4_bad_0 rfl (lv_at hl 0 rfl) ?_
  refine lz_get (G := G) (ci := 4) (v := .int (S 16)) (C := RX4) (T := TX4) (N := 24) hx hb hu_wsX40 (fun _ h9 => h9) hown hK hP 0 rfl rfl 16 (by decide) hw1 rfl rfl dX4_bad_1 ?_
  refine lv_if_ne (tgt := 20) hx hb dX4_bad_4 (by decide) (fun c_4 => ?_) (fun c_4 => ?_)
  · skip
    exact absurd hf c_4
  · skip
    refine lv_aload_n hx hb dX4_bad_7 rfl (lv_at hl 0 rfl) ?_
    refine lv_iload_n hx hb dX4_bad_8 rfl (lv_at hl 1 rfl) ?_
    refine lz_put (G := G) (ci := 4) (C := RX4) (T := TX4) (N := 24) hx hb hu_wsX40 (fun _ h9 => h9) tyX4 tyX4_ok nmX4 hown hK hP hD hS 0 rfl rfl 16 (by decide) hw1 rfl rfl (by decide +kernel) (Nat.le_of_ble_eq_true rfl) dX4_bad_9 (lzM m q (upd S 16 k)) rfl (fun H locs hP hD hS => ?_)
    refine lv_aload_n hx hb dX4_bad_12 rfl (lv_at hl 0 rfl) ?_
    refine lv_aload_n hx hb dX4_bad_13 rfl (lv_at hl 0 rfl) ?_
    refine lz_get (G := G) (ci := 4) (v := .int (S 13)) (C := RX4) (T := TX4) (N := 24) hx hb hu_wsX40 (fun _ h9 => h9) hown hK hP 0 rfl rfl 13 (by decide) hw2 rfl rfl dX4_bad_14 ?_
    refine lz_put (G := G) (ci := 4) (C := RX4) (T := TX4) (N := 24) hx hb hu_wsX40 (fun _ h9 => h9) tyX4 tyX4_ok nmX4 hown hK hP hD hS 0 rfl rfl 17 (by decide) hw3 rfl rfl (by decide +kernel) (Nat.le_of_ble_eq_true rfl) dX4_bad_17 (lzM m q (upd (upd S 16 k) 17 (S 13))) rfl (fun H locs hP hD hS => ?_)
    exact rw_vret (S := Unit) (G := G) (Wd := fun _ : Unit => lzM m q (upd (upd S 16 k) 17 (S 13))) () hx hb hr hlk dX4_bad_20 hS (hP) (trivial)
set_option maxHeartbeats 4000000 in
set_option maxRecDepth 100000 in
theorem c_X4_bad_again (l : Launch) (G : lzG) (m : Nat) (q : Nat → Nat) (S : Nat → Int32) (k : Int32) (hf : ¬ S 16 = 0) : Met l yX4_bad wsX4_bad ({ frames := 0, cells := 0, slots := 0, locals := 0 }) (va_Pc [.ref m, .int k] (rwP G (lzM m q S))) (va_Qv (S := Unit) (fun _ : Unit => True) (rwB G (fun _ : Unit => lzM m q S)) (lzA (lzM m q S))) 0 0 (lzA (lzM m q S)) := by
  refine rw_start (S := Unit) (cc := cX4_bad) (maxL := 2) (ret := none) (by decide) rfl (Nat.le_of_ble_eq_true rfl) ?_
  intro pp ee ss mm bl me cd A hx hb hr hlk hml hts hown hP hK hD hAe hS ls hl
  have hA0 : ∀ zz : Nat, lzA (lzM m q S) zz → A zz := fun zz h9 => by rw [hAe]; exact h9
  rw [← hAe]
  clear hAe
  have hown : ss.vm.findClass RX4 = some mm.cls := hown
  have hw1 := hts (.fieldLink RX4 79 "LampSquaresModel" "fault" "I") (List.mem_of_getElem? (i := 1) rfl)
  have hu_wsX40 : ∀ w ∈ wsX40, w.before ([.ref m, .int k] : List Value).toArray ss = true := fun w h9 => hts w (List.mem_cons_of_mem _ (List.mem_append_right _ h9))
  have hl : lv_has ls 2 [(0, .ref m), (1, .int k)] := hl
  refine lv_aload_n hx hb dX4_bad_0 rfl (lv_at hl 0 rfl) ?_
  refine lz_get (G := G) (ci := 4) (v := .int (S 16)) (C := RX4) (T := TX4) (N := 24) hx hb hu_wsX40 (fun _ h9 => h9) hown hK hP 0 rfl rfl 16 (by decide) hw1 rfl rfl dX4_bad_1 ?_
  refine lv_if_ne (tgt := 20) hx hb dX4_bad_4 (by decide) (fun c_4 => ?_) (fun c_4 => ?_)
  · skip
    exact rw_vret (S := Unit) (G := G) (Wd := fun _ : Unit => lzM m q S) () hx hb hr hlk dX4_bad_20 hS (hP) (trivial)
  · skip
    exact absurd c_4 hf
