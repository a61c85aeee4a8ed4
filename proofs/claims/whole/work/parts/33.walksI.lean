set_option maxHeartbeats 4000000 in
set_option maxRecDepth 100000 in
theorem c_X3_guests_state (l : Launch) (G : lzG) (x : Nat) (q : Nat → Nat) (S : Nat → Int32) (qh : Nat → Nat) (D : Nat → Int32) (F : Nat → Nat → Int32) (set : Int32) (hR : (decide (0 < D 2) && decide (0 < D 3)) = false) : Met l yX3_guests wsX3_guests ({ frames := 1, cells := 0, slots := 0, locals := 20 }) (va_Pc [.ref x, .int set] (roP G (lzX x q S ++ lzDoor G (q 6) qh D F))) (vp_Si (fun r => r = -1000002)) 0 0 (fun _ => False) := by
  refine ro_start (cc := cX3_guests) (maxL := 2) (ret := (some .int)) (by decide) rfl (Nat.le_of_ble_eq_true rfl) ?_
  intro pp ee ss mm bl me cd hx hb hr hlk hml hts hown hP hK ls hl
  have hown : ss.vm.findClass RX3 = some mm.cls := hown
  have hw1 := hts (.fieldLink RX3 38 "LampSquares" "here" "LLampSquares$Door;") (List.mem_of_getElem? (i := 1) rfl)
  have hw2 := hts (.constant RX3 137 (-1000002)) (List.mem_of_getElem? (i := 2) rfl)
  have hu_wsX30 : ∀ w ∈ wsX30, w.before ([.ref x, .int set] : List Value).toArray ss = true := fun w h9 => hts w (List.mem_cons_of_mem _ (List.mem_append_left _ (List.mem_append_right _ h9)))
  have hl : lv_has ls 2 [(0, .ref x), (1, .int set)] := hl
  refine lv_aload_n hx hb dX3_guests_0 rfl (lv_at hl 0 rfl) ?_
  refine lz_get (G := G) (ci := 3) (v := .ref (q 6)) (C := RX3) (T := TX3) (N := 13) hx hb hu_wsX30 (fun _ h9 => h9) hown hK hP 0 rfl rfl 6 (by decide) hw1 rfl rfl dX3_guests_1 ?_
  have hPc := hP.sub (ws' := lzDoor G (q 6) qh D F) [1, 2, 3, 4, 5, 6, 7, 8, 9, 10, 11] rfl
  refine ro_calli (va_runV (As := []) (rest := []) ⟨hx, hb, hml, hown, hts⟩ (c_X1_isRead l G (q 6) qh D F ) (cwV 0 hts gX3_guests_X1_isRead rfl rfl rfl (by decide +kernel) ⟨Nat.le_of_ble_eq_true rfl, Nat.le_of_ble_eq_true rfl⟩) (ro_preV hK hPc hP (ci := 1) (q0 := 1) rfl rfl) rfl rfl hl.1 rfl (lv_room (Nat.le_of_ble_eq_true rfl)) dX3_guests_4 ⟨Nat.zero_le _, Nat.zero_le _⟩) (fun r_1 hr_1 => ?_)
  refine lv_if_ne (tgt := 13) hx hb dX3_guests_7 (by decide) (fun c_7 => ?_) (fun c_7 => ?_)
  · skip
    have c_7 := b2_n hr_1 c_7
    exact Bool.noConfusion (hR.symm.trans c_7)
  · skip
    have c_7 := b2_z hr_1 c_7
    refine lv_ldc hx hb hown hw2 dX3_guests_10 ?_
    exact ro_iret hx hb hr hlk dX3_guests_12 (rfl)
set_option maxHeartbeats 4000000 in
set_option maxRecDepth 100000 in
theorem c_X3_guests_bad (l : Launch) (G : lzG) (x : Nat) (q : Nat → Nat) (S : Nat → Int32) (qh : Nat → Nat) (D : Nat → Int32) (F : Nat → Nat → Int32) (set : Int32) (hR : (decide (0 < D 2) && decide (0 < D 3)) = true) (hbad : (inR set 0 ((1 <<< (D 2 &&& 31)) - 1)) = false) : Met l yX3_guests wsX3_guests ({ frames := 2, cells := 0, slots := 0, locals := 43 }) (va_Pc [.ref x, .int set] (roP G (lzX x q S ++ lzDoor G (q 6) qh D F))) (vp_Si (fun r => r = -1000001)) 0 0 (fun _ => False) := by
  refine ro_start (cc := cX3_guests) (maxL := 2) (ret := (some .int)) (by decide) rfl (Nat.le_of_ble_eq_true rfl) ?_
  intro pp ee ss mm bl me cd hx hb hr hlk hml hts hown hP hK ls hl
  have hown : ss.vm.findClass RX3 = some mm.cls := hown
  have hw1 := hts (.fieldLink RX3 38 "LampSquares" "here" "LLampSquares$Door;") (List.mem_of_getElem? (i := 1) rfl)
  have hw3 := hts (.constant RX3 81 (-1000001)) (List.mem_of_getElem? (i := 3) rfl)
  have hu_wsX30 : ∀ w ∈ wsX30, w.before ([.ref x, .int set] : List Value).toArray ss = true := fun w h9 => hts w (List.mem_cons_of_mem _ (List.mem_append_left _ (List.mem_append_right _ h9)))
  have hl : lv_has ls 2 [(0, .ref x), (1, .int set)] := hl
  refine lv_aload_n hx hb dX3_guests_0 rfl (lv_at hl 0 rfl) ?_
  refine lz_get (G := G) (ci := 3) (v := .ref (q 6)) (C := RX3) (T := TX3) (N := 13) hx hb hu_wsX30 (fun _ h9 => h9) hown hK hP 0 rfl rfl 6 (by decide) hw1 rfl rfl dX3_guests_1 ?_
  have hPc := hP.sub (ws' := lzDoor G (q 6) qh D F) [1, 2, 3, 4, 5, 6, 7, 8, 9, 10, 11] rfl
  refine ro_calli (va_runV (As := []) (rest := []) ⟨hx, hb, hml, hown, hts⟩ (c_X1_isRead l G (q 6) qh D F ) (cwV 0 hts gX3_guests_X1_isRead rfl rfl rfl (by decide +kernel) ⟨Nat.le_of_ble_eq_true rfl, Nat.le_of_ble_eq_true rfl⟩) (ro_preV hK hPc hP (ci := 1) (q0 := 1) rfl rfl) rfl rfl hl.1 rfl (lv_room (Nat.le_of_ble_eq_true rfl)) dX3_guests_4 ⟨Nat.zero_le _, Nat.zero_le _⟩) (fun r_1 hr_1 => ?_)
  refine lv_if_ne (tgt := 13) hx hb dX3_guests_7 (by decide) (fun c_7 => ?_) (fun c_7 => ?_)
  · skip
    have c_7 := b2_n hr_1 c_7
    refine lv_aload_n hx hb dX3_guests_13 rfl (lv_at hl 0 rfl) ?_
    refine lz_get (G := G) (ci := 3) (v := .ref (q 6)) (C := RX3) (T := TX3) (N := 13) hx hb hu_wsX30 (fun _ h9 => h9) hown hK hP 0 rfl rfl 6 (by decide) hw1 rfl rfl dX3_guests_14 ?_
    refine lv_iload_n hx hb dX3_guests_17 rfl (lv_at hl 1 rfl) ?_
    have hPc := hP.sub (ws' := lzDoor G (q 6) qh D F) [1, 2, 3, 4, 5, 6, 7, 8, 9, 10, 11] rfl
    refine ro_calli (va_runV (As := [.int set]) (rest := []) ⟨hx, hb, hml, hown, hts⟩ (c_X1_areSquares l G (q 6) qh D F set ) (cwV 1 hts gX3_guests_X1_areSquares rfl rfl rfl (by decide +kernel) ⟨Nat.le_of_ble_eq_true rfl, Nat.le_of_ble_eq_true rfl⟩) (ro_preV hK hPc hP (ci := 1) (q0 := 1) rfl rfl) rfl rfl hl.1 rfl (lv_room (Nat.le_of_ble_eq_true rfl)) dX3_guests_18 ⟨Nat.zero_le _, Nat.zero_le _⟩) (fun r_2 hr_2 => ?_)
    refine lv_if_ne (tgt := 27) hx hb dX3_guests_21 (by decide) (fun c_21 => ?_) (fun c_21 => ?_)
    · skip
      have c_21 := b2_n hr_2 c_21
      exact Bool.noConfusion (hbad.symm.trans c_21)
    · skip
      have c_21 := b2_z hr_2 c_21
      refine lv_ldc hx hb hown hw3 dX3_guests_24 ?_
      exact ro_iret hx hb hr hlk dX3_guests_26 (rfl)
  · skip
    have c_7 := b2_z hr_1 c_7
    exact Bool.noConfusion (hR.symm.trans c_7)
set_option maxHeartbeats 4000000 in
set_option maxRecDepth 100000 in
theorem c_X3_guests_ok (l : Launch) (G : lzG) (x : Nat) (q : Nat → Nat) (S : Nat → Int32) (qh : Nat → Nat) (D : Nat → Int32) (F : Nat → Nat → Int32) (set : Int32) (N M : Nat) (hN : D 2 = nI N) (hN8 : N ≤ 8) (hM : D 3 = nI M) (hM5 : M ≤ 5) (hR : (decide (0 < D 2) && decide (0 < D 3)) = true) (hset : inR set 0 ((1 <<< (D 2 &&& 31)) - 1) = true) : Met l yX3_guests wsX3_guests ({ frames := 6, cells := 0, slots := 0, locals := 132 }) (va_Pc [.ref x, .int set] (rwP G (lzX x q S ++ lzDoor G (q 6) qh D F))) (va_Qi (S := Unit) (fun (r : Int32) (_ : Unit) => r = gstD D F set N M) (rwB G (fun _ : Unit => (lzX x q S ++ lzDoor G (q 6) qh D (lzF F 13 (fa_fill (fun v => wrbD D F v N) (F 13) M))))) (lzA (lzX x q S ++ lzDoor G (q 6) qh D F))) 0 0 (lzA (lzX x q S ++ lzDoor G (q 6) qh D F)) := by
  refine rw_start (S := Unit) (cc := cX3_guests) (maxL := 2) (ret := (some .int)) (by decide) rfl (Nat.le_of_ble_eq_true rfl) ?_
  intro pp ee ss mm bl me cd A hx hb hr hlk hml hts hown hP hK hD hAe hS ls hl
  have hA0 : ∀ zz : Nat, lzA (lzX x q S ++ lzDoor G (q 6) qh D F) zz → A zz := fun zz h9 => by rw [hAe]; exact h9
  rw [← hAe]
  clear hAe
  have hown : ss.vm.findClass RX3 = some mm.cls := hown
  have hw1 := hts (.fieldLink RX3 38 "LampSquares" "here" "LLampSquares$Door;") (List.mem_of_getElem? (i := 1) rfl)
  have hu_wsX30 : ∀ w ∈ wsX30, w.before ([.ref x, .int set] : List Value).toArray ss = true := fun w h9 => hts w (List.mem_cons_of_mem _ (List.mem_append_left _ (List.mem_append_right _ h9)))
  have hl : lv_has ls 2 [(0, .ref x), (1, .int set)] := hl
  refine lv_aload_n hx hb dX3_guests_0 rfl (lv_at hl 0 rfl) ?_
  refine lz_get (G := G) (ci := 3) (v := .ref (q 6)) (C := RX3) (T := TX3) (N := 13) hx hb hu_wsX30 (fun _ h9 => h9) hown hK hP 0 rfl rfl 6 (by decide) hw1 rfl rfl dX3_guests_1 ?_
  have hPc := hP.sub (ws' := lzDoor G (q 6) qh D F) [1, 2, 3, 4, 5, 6, 7, 8, 9, 10, 11] rfl
  refine ro_calli (va_runV (As := []) (rest := []) ⟨hx, hb, hml, hown, hts⟩ (c_X1_isRead l G (q 6) qh D F ) (cwV 0 hts gX3_guests_X1_isRead rfl rfl rfl (by decide +kernel) ⟨Nat.le_of_ble_eq_true rfl, Nat.le_of_ble_eq_true rfl⟩) (ro_preV hK hPc hP (ci := 1) (q0 := 1) rfl rfl) rfl rfl hl.1 rfl (lv_room (Nat.le_of_ble_eq_true rfl)) dX3_guests_4 ⟨Nat.zero_le _, Nat.zero_le _⟩) (fun r_1 hr_1 => ?_)
  refine lv_if_ne (tgt := 13) hx hb dX3_guests_7 (by decide) (fun c_7 => ?_) (fun c_7 => ?_)
  · skip
    have c_7 := b2_n hr_1 c_7
    refine lv_aload_n hx hb dX3_guests_13 rfl (lv_at hl 0 rfl) ?_
    refine lz_get (G := G) (ci := 3) (v := .ref (q 6)) (C := RX3) (T := TX3) (N := 13) hx hb hu_wsX30 (fun _ h9 => h9) hown hK hP 0 rfl rfl 6 (by decide) hw1 rfl rfl dX3_guests_14 ?_
    refine lv_iload_n hx hb dX3_guests_17 rfl (lv_at hl 1 rfl) ?_
    have hPc := hP.sub (ws' := lzDoor G (q 6) qh D F) [1, 2, 3, 4, 5, 6, 7, 8, 9, 10, 11] rfl
    refine ro_calli (va_runV (As := [.int set]) (rest := []) ⟨hx, hb, hml, hown, hts⟩ (c_X1_areSquares l G (q 6) qh D F set ) (cwV 1 hts gX3_guests_X1_areSquares rfl rfl rfl (by decide +kernel) ⟨Nat.le_of_ble_eq_true rfl, Nat.le_of_ble_eq_true rfl⟩) (ro_preV hK hPc hP (ci := 1) (q0 := 1) rfl rfl) rfl rfl hl.1 rfl (lv_room (Nat.le_of_ble_eq_true rfl)) dX3_guests_18 ⟨Nat.zero_le _, Nat.zero_le _⟩) (fun r_2 hr_2 => ?_)
    refine lv_if_ne (tgt := 27) hx hb dX3_guests_21 (by decide) (fun c_21 => ?_) (fun c_21 => ?_)
    · skip
      have c_21 := b2_n hr_2 c_21
      refine lv_aload_n hx hb dX3_guests_27 rfl (lv_at hl 0 rfl) ?_
      refine lz_get (G := G) (ci := 3) (v := .ref (q 6)) (C := RX3) (T := TX3) (N := 13) hx hb hu_wsX30 (fun _ h9 => h9) hown hK hP 0 rfl rfl 6 (by decide) hw1 rfl rfl dX3_guests_28 ?_
      refine lv_iload_n hx hb dX3_guests_31 rfl (lv_at hl 1 rfl) ?_
      have hPc := hP.sub (ws' := lzDoor G (q 6) qh D F) [1, 2, 3, 4, 5, 6, 7, 8, 9, 10, 11] rfl
      have hDc := hD.sub (ws' := lzDoor G (q 6) qh D F) [1, 2, 3, 4, 5, 6, 7, 8, 9, 10, 11] (by decide) rfl
      have hFc : ∀ zz : Nat, lzA (lzDoor G (q 6) qh D F) zz → A zz := lz_free hD [1, 2, 3, 4, 5, 6, 7, 8, 9, 10, 11] rfl
      refine va_calli (va_runV (As := [.int set]) (rest := []) ⟨hx, hb, hml, hown, hts⟩ (c_X1_guestBits l G (q 6) qh D F set N M (hN) (hN8) (hM) (hM5)) (cwV 1 hts gX3_guests_X1_guestBits rfl rfl rfl (by decide +kernel) ⟨Nat.le_of_ble_eq_true rfl, Nat.le_of_ble_eq_true rfl⟩) (rw_preV hK hPc hDc hP (ci := 1) (q0 := 1) rfl rfl) rfl rfl hl.1 rfl (lv_room (Nat.le_of_ble_eq_true rfl)) dX3_guests_32 ⟨Nat.zero_le _, Nat.zero_le _⟩) hS (fun q _ h => hFc q h) hFc (fun r_3 u_4 t9 H1 locs ht hvm hr_3 hB hz1 hk1 hS => ?_)
      replace hB : va_P G.1 lzC _ t9.heap := hB
      rw [ht] at hB
      obtain ⟨hP, hD⟩ := lz_join (wc := lzDoor G (q 6) qh D F) (wr := ([(x, .inr (3, [.ref (q 0), .ref (q 1), .ref (q 2), .int (S 3), .ref (q 4), .int (S 5), .ref (q 6), .ref (q 7), .ref (q 8), .ref (q 9), .ref (q 10), .int (S 11), .ref (q 12)]))] : va_W)) (w1 := lzDoor G (q 6) qh D (lzF F 13 (fa_fill (fun v => wrbD D F v N) ((F 13)) M))) hP hD [1, 2, 3, 4, 5, 6, 7, 8, 9, 10, 11] [0] rfl rfl (by decide) (by decide) rfl hk1 hB
      replace hP := hP.sub (ws' := (lzX x q S ++ lzDoor G (q 6) qh D (lzF F 13 (fa_fill (fun v => wrbD D F v N) ((F 13)) M)))) [0, 1, 2, 3, 4, 5, 6, 7, 8, 9, 10, 11] rfl
      replace hD := hD.sub (ws' := (lzX x q S ++ lzDoor G (q 6) qh D (lzF F 13 (fa_fill (fun v => wrbD D F v N) ((F 13)) M)))) [0, 1, 2, 3, 4, 5, 6, 7, 8, 9, 10, 11] (by decide) rfl
      clear ht hvm hB hz1 hk1
      generalize H1 = H at hP hS ⊢
      refine lz_top (y := gstD D F set N M) hr_3 ?_
      exact rw_iret (S := Unit) (G := G) (Wd := fun _ : Unit => (lzX x q S ++ lzDoor G (q 6) qh D (lzF F 13 (fa_fill (fun v => wrbD D F v N) (F 13) M)))) () hx hb hr hlk dX3_guests_35 hS (hP) (rfl)
    · skip
      have c_21 := b2_z hr_2 c_21
      exact Bool.noConfusion (hset.symm.trans c_21)
  · skip
    have c_7 := b2_z hr_1 c_7
    exact Bool.noConfusion (hR.symm.trans c_7)
set_option maxHeartbeats 4000000 in
set_option maxRecDepth 100000 in
theorem c_X3_fewest_state (l : Launch) (G : lzG) (x : Nat) (q : Nat → Nat) (S : Nat → Int32) (qh : Nat → Nat) (D : Nat → Int32) (F : Nat → Nat → Int32) (want what : Int32) (hR : (decide (0 < D 2) && decide (0 < D 3)) = false) : Met l yX3_fewest wsX3_fewest ({ frames := 1, cells := 0, slots := 0, locals := 20 }) (va_Pc [.ref x, .int want, .int what] (roP G (lzX x q S ++ lzDoor G (q 6) qh D F))) (vp_Si (fun r => r = -1000002)) 0 0 (fun _ => False) := by
  refine ro_start (cc := cX3_fewest) (maxL := 3) (ret := (some .int)) (by decide) rfl (Nat.le_of_ble_eq_true rfl) ?_
  intro pp ee ss mm bl me cd hx hb hr hlk hml hts hown hP hK ls hl
  have hown : ss.vm.findClass RX3 = some mm.cls := hown
  have hw1 := hts (.fieldLink RX3 38 "LampSquares" "here" "LLampSquares$Door;") (List.mem_of_getElem? (i := 1) rfl)
  have hw2 := hts (.constant RX3 137 (-1000002)) (List.mem_of_getElem? (i := 2) rfl)
  have hu_wsX30 : ∀ w ∈ wsX30, w.before ([.ref x, .int want, .int what] : List Value).toArray ss = true := fun w h9 => hts w (List.mem_cons_of_mem _ (List.mem_append_left _ (List.mem_append_right _ h9)))
  have hl : lv_has ls 3 [(0, .ref x), (1, .int want), (2, .int what)] := hl
  refine lv_aload_n hx hb dX3_fewest_0 rfl (lv_at hl 0 rfl) ?_
  refine lz_get (G := G) (ci := 3) (v := .ref (q 6)) (C := RX3) (T := TX3) (N := 13) hx hb hu_wsX30 (fun _ h9 => h9) hown hK hP 0 rfl rfl 6 (by decide) hw1 rfl rfl dX3_fewest_1 ?_
  have hPc := hP.sub (ws' := lzDoor G (q 6) qh D F) [1, 2, 3, 4, 5, 6, 7, 8, 9, 10, 11] rfl
  refine ro_calli (va_runV (As := []) (rest := []) ⟨hx, hb, hml, hown, hts⟩ (c_X1_isRead l G (q 6) qh D F ) (cwV 0 hts gX3_fewest_X1_isRead rfl rfl rfl (by decide +kernel) ⟨Nat.le_of_ble_eq_true rfl, Nat.le_of_ble_eq_true rfl⟩) (ro_preV hK hPc hP (ci := 1) (q0 := 1) rfl rfl) rfl rfl hl.1 rfl (lv_room (Nat.le_of_ble_eq_true rfl)) dX3_fewest_4 ⟨Nat.zero_le _, Nat.zero_le _⟩) (fun r_1 hr_1 => ?_)
  refine lv_if_ne (tgt := 13) hx hb dX3_fewest_7 (by decide) (fun c_7 => ?_) (fun c_7 => ?_)
  · skip
    have c_7 := b2_n hr_1 c_7
    exact Bool.noConfusion (hR.symm.trans c_7)
  · skip
    have c_7 := b2_z hr_1 c_7
    refine lv_ldc hx hb hown hw2 dX3_fewest_10 ?_
    exact ro_iret hx hb hr hlk dX3_fewest_12 (rfl)
set_option maxHeartbeats 4000000 in
set_option maxRecDepth 100000 in
theorem c_X3_fewest_bad (l : Launch) (G : lzG) (x : Nat) (q : Nat → Nat) (S : Nat → Int32) (qh : Nat → Nat) (D : Nat → Int32) (F : Nat → Nat → Int32) (want what : Int32) (hR : (decide (0 < D 2) && decide (0 < D 3)) = true) (hbad : (inR want 0 ((1 <<< (D 3 &&& 31)) - 1) && inR what 0 1) = false) : Met l yX3_fewest wsX3_fewest ({ frames := 2, cells := 0, slots := 0, locals := 43 }) (va_Pc [.ref x, .int want, .int what] (roP G (lzX x q S ++ lzDoor G (q 6) qh D F))) (vp_Si (fun r => r = -1000001)) 0 0 (fun _ => False) := by
  refine ro_start (cc := cX3_fewest) (maxL := 3) (ret := (some .int)) (by decide) rfl (Nat.le_of_ble_eq_true rfl) ?_
  intro pp ee ss mm bl me cd hx hb hr hlk hml hts hown hP hK ls hl
  have hown : ss.vm.findClass RX3 = some mm.cls := hown
  have hw1 := hts (.fieldLink RX3 38 "LampSquares" "here" "LLampSquares$Door;") (List.mem_of_getElem? (i := 1) rfl)
  have hw3 := hts (.constant RX3 81 (-1000001)) (List.mem_of_getElem? (i := 3) rfl)
  have hu_wsX30 : ∀ w ∈ wsX30, w.before ([.ref x, .int want, .int what] : List Value).toArray ss = true := fun w h9 => hts w (List.mem_cons_of_mem _ (List.mem_append_left _ (List.mem_append_right _ h9)))
  have hl : lv_has ls 3 [(0, .ref x), (1, .int want), (2, .int what)] := hl
  refine lv_aload_n hx hb dX3_fewest_0 rfl (lv_at hl 0 rfl) ?_
  refine lz_get (G := G) (ci := 3) (v := .ref (q 6)) (C := RX3) (T := TX3) (N := 13) hx hb hu_wsX30 (fun _ h9 => h9) hown hK hP 0 rfl rfl 6 (by decide) hw1 rfl rfl dX3_fewest_1 ?_
  have hPc := hP.sub (ws' := lzDoor G (q 6) qh D F) [1, 2, 3, 4, 5, 6, 7, 8, 9, 10, 11] rfl
  refine ro_calli (va_runV (As := []) (rest := []) ⟨hx, hb, hml, hown, hts⟩ (c_X1_isRead l G (q 6) qh D F ) (cwV 0 hts gX3_fewest_X1_isRead rfl rfl rfl (by decide +kernel) ⟨Nat.le_of_ble_eq_true rfl, Nat.le_of_ble_eq_true rfl⟩) (ro_preV hK hPc hP (ci := 1) (q0 := 1) rfl rfl) rfl rfl hl.1 rfl (lv_room (Nat.le_of_ble_eq_true rfl)) dX3_fewest_4 ⟨Nat.zero_le _, Nat.zero_le _⟩) (fun r_1 hr_1 => ?_)
  refine lv_if_ne (tgt := 13) hx hb dX3_fewest_7 (by decide) (fun c_7 => ?_) (fun c_7 => ?_)
  · skip
    have c_7 := b2_n hr_1 c_7
    refine lv_aload_n hx hb dX3_fewest_13 rfl (lv_at hl 0 rfl) ?_
    refine lz_get (G := G) (ci := 3) (v := .ref (q 6)) (C := RX3) (T := TX3) (N := 13) hx hb hu_wsX30 (fun _ h9 => h9) hown hK hP 0 rfl rfl 6 (by decide) hw1 rfl rfl dX3_fewest_14 ?_
    refine lv_iload_n hx hb dX3_fewest_17 rfl (lv_at hl 1 rfl) ?_
    have hPc := hP.sub (ws' := lzDoor G (q 6) qh D F) [1, 2, 3, 4, 5, 6, 7, 8, 9, 10, 11] rfl
    refine ro_calli (va_runV (As := [.int want]) (rest := []) ⟨hx, hb, hml, hown, hts⟩ (c_X1_areVisitors l G (q 6) qh D F want ) (cwV 1 hts gX3_fewest_X1_areVisitors rfl rfl rfl (by decide +kernel) ⟨Nat.le_of_ble_eq_true rfl, Nat.le_of_ble_eq_true rfl⟩) (ro_preV hK hPc hP (ci := 1) (q0 := 1) rfl rfl) rfl rfl hl.1 rfl (lv_room (Nat.le_of_ble_eq_true rfl)) dX3_fewest_18 ⟨Nat.zero_le _, Nat.zero_le _⟩) (fun r_2 hr_2 => ?_)
    refine lv_if_eq (tgt := 33) hx hb dX3_fewest_21 (by decide) (fun c_21 => ?_) (fun c_21 => ?_)
    · skip
      have c_21 := b2_z hr_2 c_21
      refine lv_ldc hx hb hown hw3 dX3_fewest_33 ?_
      exact ro_iret hx hb hr hlk dX3_fewest_35 (rfl)
    · skip
      have c_21 := b2_n hr_2 c_21
      refine lv_iload_n hx hb dX3_fewest_24 rfl (lv_at hl 2 rfl) ?_
      refine lv_iconst (v := 0) hx hb dX3_fewest_25 (by decide) ?_
      refine lv_iconst (v := 1) hx hb dX3_fewest_26 (by decide) ?_
      refine ro_calli (va_runS (As := [.int what, .int 0, .int 1]) (rest := []) ⟨hx, hb, hml, hown, hts⟩ (c_X3_isIn l G what 0 1 ) (cwS 3 hts gX3_fewest_X3_isIn rfl rfl rfl (by decide +kernel) ⟨Nat.le_of_ble_eq_true rfl, Nat.le_of_ble_eq_true rfl⟩) (ro_pre hK (fun k q h => by simp at h)) rfl rfl hl.1 rfl (lv_room (Nat.le_of_ble_eq_true rfl)) dX3_fewest_27 ⟨Nat.zero_le _, Nat.zero_le _⟩) (fun r_3 hr_3 => ?_)
      refine lv_if_ne (tgt := 36) hx hb dX3_fewest_30 (by decide) (fun c_30 => ?_) (fun c_30 => ?_)
      · skip
        have c_30 := b2_n hr_3 c_30
        exact Bool.noConfusion (hbad.symm.trans (by rw [c_21, c_30] <;> rfl))
      · skip
        have c_30 := b2_z hr_3 c_30
        refine lv_ldc hx hb hown hw3 dX3_fewest_33 ?_
        exact ro_iret hx hb hr hlk dX3_fewest_35 (rfl)
  · skip
    have c_7 := b2_z hr_1 c_7
    exact Bool.noConfusion (hR.symm.trans c_7)
set_option maxHeartbeats 4000000 in
set_option maxRecDepth 100000 in
theorem c_X3_fewest_ok (l : Launch) (G : lzG) (x : Nat) (q : Nat → Nat) (S : Nat → Int32) (qh : Nat → Nat) (D : Nat → Int32) (F : Nat → Nat → Int32) (want what : Int32) (N M : Nat) (hN : D 2 = nI N) (hN8 : N ≤ 8) (hM : D 3 = nI M) (hM5 : M ≤ 5) (hR : (decide (0 < D 2) && decide (0 < D 3)) = true) (hvs : inR want 0 ((1 <<< (D 3 &&& 31)) - 1) = true) (hw : inR what 0 1 = true) : Met l yX3_fewest wsX3_fewest ({ frames := 6, cells := 0, slots := 0, locals := 137 }) (va_Pc [.ref x, .int want, .int what] (rwP G (lzX x q S ++ lzDoor G (q 6) qh D F))) (va_Qi (S := Unit) (fun (r : Int32) (_ : Unit) => r = sizeB (fewD D F (nI (2 ^ N - 1)) want N M (2 ^ N - 1 + 1)).1 what) (rwB G (fun _ : Unit => (lzX x q S ++ lzDoor G (q 6) qh D (lzF F 13 (fa_fill (fun v => wrbD D F v N) (F 13) M))))) (lzA (lzX x q S ++ lzDoor G (q 6) qh D F))) 0 0 (lzA (lzX x q S ++ lzDoor G (q 6) qh D F)) := by
  refine rw_start (S := Unit) (cc := cX3_fewest) (maxL := 3) (ret := (some .int)) (by decide) rfl (Nat.le_of_ble_eq_true rfl) ?_
  intro pp ee ss mm bl me cd A hx hb hr hlk hml hts hown hP hK hD hAe hS ls hl
  have hA0 : ∀ zz : Nat, lzA (lzX x q S ++ lzDoor G (q 6) qh D F) zz → A zz := fun zz h9 => by rw [hAe]; exact h9
  rw [← hAe]
  clear hAe
  have hown : ss.vm.findClass RX3 = some mm.cls := hown
  have hw1 := hts (.fieldLink RX3 38 "LampSquares" "here" "LLampSquares$Door;") (List.mem_of_getElem? (i := 1) rfl)
  have hu_wsX30 : ∀ w ∈ wsX30, w.before ([.ref x, .int want, .int what] : List Value).toArray ss = true := fun w h9 => hts w (List.mem_cons_of_mem _ (List.mem_append_left _ (List.mem_append_right _ h9)))
  have hl : lv_has ls 3 [(0, .ref x), (1, .int want), (2, .int what)] := hl
  refine lv_aload_n hx hb dX3_fewest_0 rfl (lv_at hl 0 rfl) ?_
  refine lz_get (G := G) (ci := 3) (v := .ref (q 6)) (C := RX3) (T := TX3) (N := 13) hx hb hu_wsX30 (fun _ h9 => h9) hown hK hP 0 rfl rfl 6 (by decide) hw1 rfl rfl dX3_fewest_1 ?_
  have hPc := hP.sub (ws' := lzDoor G (q 6) qh D F) [1, 2, 3, 4, 5, 6, 7, 8, 9, 10, 11] rfl
  refine ro_calli (va_runV (As := []) (rest := []) ⟨hx, hb, hml, hown, hts⟩ (c_X1_isRead l G (q 6) qh D F ) (cwV 0 hts gX3_fewest_X1_isRead rfl rfl rfl (by decide +kernel) ⟨Nat.le_of_ble_eq_true rfl, Nat.le_of_ble_eq_true rfl⟩) (ro_preV hK hPc hP (ci := 1) (q0 := 1) rfl rfl) rfl rfl hl.1 rfl (lv_room (Nat.le_of_ble_eq_true rfl)) dX3_fewest_4 ⟨Nat.zero_le _, Nat.zero_le _⟩) (fun r_1 hr_1 => ?_)
  refine lv_if_ne (tgt := 13) hx hb dX3_fewest_7 (by decide) (fun c_7 => ?_) (fun c_7 => ?_)
  · skip
    have c_7 := b2_n hr_1 c_7
    refine lv_aload_n hx hb dX3_fewest_13 rfl (lv_at hl 0 rfl) ?_
    refine lz_get (G := G) (ci := 3) (v := .ref (q 6)) (C := RX3) (T := TX3) (N := 13) hx hb hu_wsX30 (fun _ h9 => h9) hown hK hP 0 rfl rfl 6 (by decide) hw1 rfl rfl dX3_fewest_14 ?_
    refine lv_iload_n hx hb dX3_fewest_17 rfl (lv_at hl 1 rfl) ?_
    have hPc := hP.sub (ws' := lzDoor G (q 6) qh D F) [1, 2, 3, 4, 5, 6, 7, 8, 9, 10, 11] rfl
    refine ro_calli (va_runV (As := [.int want]) (rest := []) ⟨hx, hb, hml, hown, hts⟩ (c_X1_areVisitors l G (q 6) qh D F want ) (cwV 1 hts gX3_fewest_X1_areVisitors rfl rfl rfl (by decide +kernel) ⟨Nat.le_of_ble_eq_true rfl, Nat.le_of_ble_eq_true rfl⟩) (ro_preV hK hPc hP (ci := 1) (q0 := 1) rfl rfl) rfl rfl hl.1 rfl (lv_room (Nat.le_of_ble_eq_true rfl)) dX3_fewest_18 ⟨Nat.zero_le _, Nat.zero_le _⟩) (fun r_2 hr_2 => ?_)
    refine lv_if_eq (tgt := 33) hx hb dX3_fewest_21 (by decide) (fun c_21 => ?_) (fun c_21 => ?_)
    · skip
      have c_21 := b2_z hr_2 c_21
      exact Bool.noConfusion (hvs.symm.trans c_21)
    · skip
      have c_21 := b2_n hr_2 c_21
      refine lv_iload_n hx hb dX3_fewest_24 rfl (lv_at hl 2 rfl) ?_
      refine lv_iconst (v := 0) hx hb dX3_fewest_25 (by decide) ?_
      refine lv_iconst (v := 1) hx hb dX3_fewest_26 (by decide) ?_
      refine ro_calli (va_runS (As := [.int what, .int 0, .int 1]) (rest := []) ⟨hx, hb, hml, hown, hts⟩ (c_X3_isIn l G what 0 1 ) (cwS 3 hts gX3_fewest_X3_isIn rfl rfl rfl (by decide +kernel) ⟨Nat.le_of_ble_eq_true rfl, Nat.le_of_ble_eq_true rfl⟩) (ro_pre hK (fun k q h => by simp at h)) rfl rfl hl.1 rfl (lv_room (Nat.le_of_ble_eq_true rfl)) dX3_fewest_27 ⟨Nat.zero_le _, Nat.zero_le _⟩) (fun r_3 hr_3 => ?_)
      refine lv_if_ne (tgt := 36) hx hb dX3_fewest_30 (by decide) (fun c_30 => ?_) (fun c_30 => ?_)
      · skip
        have c_30 := b2_n hr_3 c_30
        refine lv_aload_n hx hb dX3_fewest_36 rfl (lv_at hl 0 rfl) ?_
        refine lz_get (G := G) (ci := 3) (v := .ref (q 6)) (C := RX3) (T := TX3) (N := 13) hx hb hu_wsX30 (fun _ h9 => h9) hown hK hP 0 rfl rfl 6 (by decide) hw1 rfl rfl dX3_fewest_37 ?_
        refine lv_aload_n hx hb dX3_fewest_40 rfl (lv_at hl 0 rfl) ?_
        refine lz_get (G := G) (ci := 3) (v := .ref (q 6)) (C := RX3) (T := TX3) (N := 13) hx hb hu_wsX30 (fun _ h9 => h9) hown hK hP 0 rfl rfl 6 (by decide) hw1 rfl rfl dX3_fewest_41 ?_
        have hPc := hP.sub (ws' := lzDoor G (q 6) qh D F) [1, 2, 3, 4, 5, 6, 7, 8, 9, 10, 11] rfl
        refine ro_calli (va_runV (As := []) (rest := [.ref (q 6)]) ⟨hx, hb, hml, hown, hts⟩ (c_X1_allSquares l G (q 6) qh D F ) (cwV 0 hts gX3_fewest_X1_allSquares rfl rfl rfl (by decide +kernel) ⟨Nat.le_of_ble_eq_true rfl, Nat.le_of_ble_eq_true rfl⟩) (ro_preV hK hPc hP (ci := 1) (q0 := 1) rfl rfl) rfl rfl hl.1 rfl (lv_room (Nat.le_of_ble_eq_true rfl)) dX3_fewest_44 ⟨Nat.zero_le _, Nat.zero_le _⟩) (fun r_4 hr_4 => ?_)
        refine lz_top (y := (1 <<< ((D 2) &&& 31)) - 1) hr_4 ?_
        refine lz_top (y := nI (2 ^ N - 1)) (all_sq hN hN8) ?_
        refine lv_iload_n hx hb dX3_fewest_47 rfl (lv_at hl 1 rfl) ?_
        have hPc := hP.sub (ws' := lzDoor G (q 6) qh D F) [1, 2, 3, 4, 5, 6, 7, 8, 9, 10, 11] rfl
        have hDc := hD.sub (ws' := lzDoor G (q 6) qh D F) [1, 2, 3, 4, 5, 6, 7, 8, 9, 10, 11] (by decide) rfl
        have hFc : ∀ zz : Nat, lzA (lzDoor G (q 6) qh D F) zz → A zz := lz_free hD [1, 2, 3, 4, 5, 6, 7, 8, 9, 10, 11] rfl
        refine va_calli (va_runV (As := [.int (nI (2 ^ N - 1)), .int want]) (rest := []) ⟨hx, hb, hml, hown, hts⟩ (c_X1_fewestWithin l G (q 6) qh D F (2 ^ N - 1) want N M (hN) (hN8) (hM) (hM5) (pow_256 hN8)) (cwV 2 hts gX3_fewest_X1_fewestWithin rfl rfl rfl (by decide +kernel) ⟨Nat.le_of_ble_eq_true rfl, Nat.le_of_ble_eq_true rfl⟩) (rw_preV hK hPc hDc hP (ci := 1) (q0 := 1) rfl rfl) rfl rfl hl.1 rfl (lv_room (Nat.le_of_ble_eq_true rfl)) dX3_fewest_48 ⟨Nat.zero_le _, Nat.zero_le _⟩) hS (fun q _ h => hFc q h) hFc (fun r_5 u_6 t9 H1 locs ht hvm hr_5 hB hz1 hk1 hS => ?_)
        replace hB : va_P G.1 lzC _ t9.heap := hB
        rw [ht] at hB
        obtain ⟨hP, hD⟩ := lz_join (wc := lzDoor G (q 6) qh D F) (wr := ([(x, .inr (3, [.ref (q 0), .ref (q 1), .ref (q 2), .int (S 3), .ref (q 4), .int (S 5), .ref (q 6), .ref (q 7), .ref (q 8), .ref (q 9), .ref (q 10), .int (S 11), .ref (q 12)]))] : va_W)) (w1 := lzDoor G (q 6) qh D (lzF F 13 (fa_fill (fun v => wrbD D F v N) ((F 13)) M))) hP hD [1, 2, 3, 4, 5, 6, 7, 8, 9, 10, 11] [0] rfl rfl (by decide) (by decide) rfl hk1 hB
        replace hP := hP.sub (ws' := (lzX x q S ++ lzDoor G (q 6) qh D (lzF F 13 (fa_fill (fun v => wrbD D F v N) ((F 13)) M)))) [0, 1, 2, 3, 4, 5, 6, 7, 8, 9, 10, 11] rfl
        replace hD := hD.sub (ws' := (lzX x q S ++ lzDoor G (q 6) qh D (lzF F 13 (fa_fill (fun v => wrbD D F v N) ((F 13)) M)))) [0, 1, 2, 3, 4, 5, 6, 7, 8, 9, 10, 11] (by decide) rfl
        clear ht hvm hB hz1 hk1
        generalize H1 = H at hP hS ⊢
        refine lz_top (y := (fewD D F (nI (2 ^ N - 1)) want N M ((2 ^ N - 1) + 1)).1) hr_5 ?_
        refine lv_iload_n hx hb dX3_fewest_51 rfl (lv_at hl 2 rfl) ?_
        refine ro_calli (va_runS (As := [.int ((fewD D F (nI (2 ^ N - 1)) want N M ((2 ^ N - 1) + 1)).1), .int what]) (rest := []) ⟨hx, hb, hml, hown, hts⟩ (c_X3_sizeOrBits l G ((fewD D F (nI (2 ^ N - 1)) want N M ((2 ^ N - 1) + 1)).1) what ) (cwS 2 hts gX3_fewest_X3_sizeOrBits rfl rfl rfl (by decide +kernel) ⟨Nat.le_of_ble_eq_true rfl, Nat.le_of_ble_eq_true rfl⟩) (ro_pre hK (fun k q h => by simp at h)) rfl rfl hl.1 rfl (lv_room (Nat.le_of_ble_eq_true rfl)) dX3_fewest_52 ⟨Nat.zero_le _, Nat.zero_le _⟩) (fun r_7 hr_7 => ?_)
        refine lz_top (y := sizeB ((fewD D F (nI (2 ^ N - 1)) want N M ((2 ^ N - 1) + 1)).1) what) hr_7 ?_
        exact rw_iret (S := Unit) (G := G) (Wd := fun _ : Unit => (lzX x q S ++ lzDoor G (q 6) qh D (lzF F 13 (fa_fill (fun v => wrbD D F v N) (F 13) M)))) () hx hb hr hlk dX3_fewest_55 hS (hP) (rfl)
      · skip
        have c_30 := b2_z hr_3 c_30
        exact Bool.noConfusion (hw.symm.trans c_30)
  · skip
    have c_7 := b2_z hr_1 c_7
    exact Bool.noConfusion (hR.symm.trans c_7)
set_option maxHeartbeats 4000000 in
set_option maxRecDepth 100000 in
theorem c_X3_harsh_state (l : Launch) (G : lzG) (x : Nat) (q : Nat → Nat) (S : Nat → Int32) (qh : Nat → Nat) (D : Nat → Int32) (F : Nat → Nat → Int32) (want set : Int32) (hR : (decide (0 < D 2) && decide (0 < D 3)) = false) : Met l yX3_harsh wsX3_harsh ({ frames := 1, cells := 0, slots := 0, locals := 20 }) (va_Pc [.ref x, .int want, .int set] (roP G (lzX x q S ++ lzDoor G (q 6) qh D F))) (vp_Si (fun r => r = -1000002)) 0 0 (fun _ => False) := by
  refine ro_start (cc := cX3_harsh) (maxL := 3) (ret := (some .int)) (by decide) rfl (Nat.le_of_ble_eq_true rfl) ?_
  intro pp ee ss mm bl me cd hx hb hr hlk hml hts hown hP hK ls hl
  have hown : ss.vm.findClass RX3 = some mm.cls := hown
  have hw1 := hts (.fieldLink RX3 38 "LampSquares" "here" "LLampSquares$Door;") (List.mem_of_getElem? (i := 1) rfl)
  have hw2 := hts (.constant RX3 137 (-1000002)) (List.mem_of_getElem? (i := 2) rfl)
  have hu_wsX30 : ∀ w ∈ wsX30, w.before ([.ref x, .int want, .int set] : List Value).toArray ss = true := fun w h9 => hts w (List.mem_cons_of_mem _ (List.mem_append_left _ (List.mem_append_right _ h9)))
  have hl : lv_has ls 3 [(0, .ref x), (1, .int want), (2, .int set)] := hl
  refine lv_aload_n hx hb dX3_harsh_0 rfl (lv_at hl 0 rfl) ?_
  refine lz_get (G := G) (ci := 3) (v := .ref (q 6)) (C := RX3) (T := TX3) (N := 13) hx hb hu_wsX30 (fun _ h9 => h9) hown hK hP 0 rfl rfl 6 (by decide) hw1 rfl rfl dX3_harsh_1 ?_
  have hPc := hP.sub (ws' := lzDoor G (q 6) qh D F) [1, 2, 3, 4, 5, 6, 7, 8, 9, 10, 11] rfl
  refine ro_calli (va_runV (As := []) (rest := []) ⟨hx, hb, hml, hown, hts⟩ (c_X1_isRead l G (q 6) qh D F ) (cwV 0 hts gX3_harsh_X1_isRead rfl rfl rfl (by decide +kernel) ⟨Nat.le_of_ble_eq_true rfl, Nat.le_of_ble_eq_true rfl⟩) (ro_preV hK hPc hP (ci := 1) (q0 := 1) rfl rfl) rfl rfl hl.1 rfl (lv_room (Nat.le_of_ble_eq_true rfl)) dX3_harsh_4 ⟨Nat.zero_le _, Nat.zero_le _⟩) (fun r_1 hr_1 => ?_)
  refine lv_if_ne (tgt := 13) hx hb dX3_harsh_7 (by decide) (fun c_7 => ?_) (fun c_7 => ?_)
  · skip
    have c_7 := b2_n hr_1 c_7
    exact Bool.noConfusion (hR.symm.trans c_7)
  · skip
    have c_7 := b2_z hr_1 c_7
    refine lv_ldc hx hb hown hw2 dX3_harsh_10 ?_
    exact ro_iret hx hb hr hlk dX3_harsh_12 (rfl)
set_option maxHeartbeats 4000000 in
set_option maxRecDepth 100000 in
theorem c_X3_harsh_bad (l : Launch) (G : lzG) (x : Nat) (q : Nat → Nat) (S : Nat → Int32) (qh : Nat → Nat) (D : Nat → Int32) (F : Nat → Nat → Int32) (want set : Int32) (hR : (decide (0 < D 2) && decide (0 < D 3)) = true) (hbad : (inR want 0 ((1 <<< (D 3 &&& 31)) - 1) && inR set 0 ((1 <<< (D 2 &&& 31)) - 1)) = false) : Met l yX3_harsh wsX3_harsh ({ frames := 2, cells := 0, slots := 0, locals := 43 }) (va_Pc [.ref x, .int want, .int set] (roP G (lzX x q S ++ lzDoor G (q 6) qh D F))) (vp_Si (fun r => r = -1000001)) 0 0 (fun _ => False) := by
  refine ro_start (cc := cX3_harsh) (maxL := 3) (ret := (some .int)) (by decide) rfl (Nat.le_of_ble_eq_true rfl) ?_
  intro pp ee ss mm bl me cd hx hb hr hlk hml hts hown hP hK ls hl
  have hown : ss.vm.findClass RX3 = some mm.cls := hown
  have hw1 := hts (.fieldLink RX3 38 "LampSquares" "here" "LLampSquares$Door;") (List.mem_of_getElem? (i := 1) rfl)
  have hw3 := hts (.constant RX3 81 (-1000001)) (List.mem_of_getElem? (i := 3) rfl)
  have hu_wsX30 : ∀ w ∈ wsX30, w.before ([.ref x, .int want, .int set] : List Value).toArray ss = true := fun w h9 => hts w (List.mem_cons_of_mem _ (List.mem_append_left _ (List.mem_append_right _ h9)))
  have hl : lv_has ls 3 [(0, .ref x), (1, .int want), (2, .int set)] := hl
  refine lv_aload_n hx hb dX3_harsh_0 rfl (lv_at hl 0 rfl) ?_
  refine lz_get (G := G) (ci := 3) (v := .ref (q 6)) (C := RX3) (T := TX3) (N := 13) hx hb hu_wsX30 (fun _ h9 => h9) hown hK hP 0 rfl rfl 6 (by decide) hw1 rfl rfl dX3_harsh_1 ?_
  have hPc := hP.sub (ws' := lzDoor G (q 6) qh D F) [1, 2, 3, 4, 5, 6, 7, 8, 9, 10, 11] rfl
  refine ro_calli (va_runV (As := []) (rest := []) ⟨hx, hb, hml, hown, hts⟩ (c_X1_isRead l G (q 6) qh D F ) (cwV 0 hts gX3_harsh_X1_isRead rfl rfl rfl (by decide +kernel) ⟨Nat.le_of_ble_eq_true rfl, Nat.le_of_ble_eq_true rfl⟩) (ro_preV hK hPc hP (ci := 1) (q0 := 1) rfl rfl) rfl rfl hl.1 rfl (lv_room (Nat.le_of_ble_eq_true rfl)) dX3_harsh_4 ⟨Nat.zero_le _, Nat.zero_le _⟩) (fun r_1 hr_1 => ?_)
  refine lv_if_ne (tgt := 13) hx hb dX3_harsh_7 (by decide) (fun c_7 => ?_) (fun c_7 => ?_)
  · skip
    have c_7 := b2_n hr_1 c_7
    refine lv_aload_n hx hb dX3_harsh_13 rfl (lv_at hl 0 rfl) ?_
    refine lz_get (G := G) (ci := 3) (v := .ref (q 6)) (C := RX3) (T := TX3) (N := 13) hx hb hu_wsX30 (fun _ h9 => h9) hown hK hP 0 rfl rfl 6 (by decide) hw1 rfl rfl dX3_harsh_14 ?_
    refine lv_iload_n hx hb dX3_harsh_17 rfl (lv_at hl 1 rfl) ?_
    have hPc := hP.sub (ws' := lzDoor G (q 6) qh D F) [1, 2, 3, 4, 5, 6, 7, 8, 9, 10, 11] rfl
    refine ro_calli (va_runV (As := [.int want]) (rest := []) ⟨hx, hb, hml, hown, hts⟩ (c_X1_areVisitors l G (q 6) qh D F want ) (cwV 1 hts gX3_harsh_X1_areVisitors rfl rfl rfl (by decide +kernel) ⟨Nat.le_of_ble_eq_true rfl, Nat.le_of_ble_eq_true rfl⟩) (ro_preV hK hPc hP (ci := 1) (q0 := 1) rfl rfl) rfl rfl hl.1 rfl (lv_room (Nat.le_of_ble_eq_true rfl)) dX3_harsh_18 ⟨Nat.zero_le _, Nat.zero_le _⟩) (fun r_2 hr_2 => ?_)
    refine lv_if_eq (tgt := 35) hx hb dX3_harsh_21 (by decide) (fun c_21 => ?_) (fun c_21 => ?_)
    · skip
      have c_21 := b2_z hr_2 c_21
      refine lv_ldc hx hb hown hw3 dX3_harsh_35 ?_
      exact ro_iret hx hb hr hlk dX3_harsh_37 (rfl)
    · skip
      have c_21 := b2_n hr_2 c_21
      refine lv_aload_n hx hb dX3_harsh_24 rfl (lv_at hl 0 rfl) ?_
      refine lz_get (G := G) (ci := 3) (v := .ref (q 6)) (C := RX3) (T := TX3) (N := 13) hx hb hu_wsX30 (fun _ h9 => h9) hown hK hP 0 rfl rfl 6 (by decide) hw1 rfl rfl dX3_harsh_25 ?_
      refine lv_iload_n hx hb dX3_harsh_28 rfl (lv_at hl 2 rfl) ?_
      have hPc := hP.sub (ws' := lzDoor G (q 6) qh D F) [1, 2, 3, 4, 5, 6, 7, 8, 9, 10, 11] rfl
      refine ro_calli (va_runV (As := [.int set]) (rest := []) ⟨hx, hb, hml, hown, hts⟩ (c_X1_areSquares l G (q 6) qh D F set ) (cwV 1 hts gX3_harsh_X1_areSquares rfl rfl rfl (by decide +kernel) ⟨Nat.le_of_ble_eq_true rfl, Nat.le_of_ble_eq_true rfl⟩) (ro_preV hK hPc hP (ci := 1) (q0 := 1) rfl rfl) rfl rfl hl.1 rfl (lv_room (Nat.le_of_ble_eq_true rfl)) dX3_harsh_29 ⟨Nat.zero_le _, Nat.zero_le _⟩) (fun r_3 hr_3 => ?_)
      refine lv_if_ne (tgt := 38) hx hb dX3_harsh_32 (by decide) (fun c_32 => ?_) (fun c_32 => ?_)
      · skip
        have c_32 := b2_n hr_3 c_32
        exact Bool.noConfusion (hbad.symm.trans (by rw [c_21, c_32] <;> rfl))
      · skip
        have c_32 := b2_z hr_3 c_32
        refine lv_ldc hx hb hown hw3 dX3_harsh_35 ?_
        exact ro_iret hx hb hr hlk dX3_harsh_37 (rfl)
  · skip
    have c_7 := b2_z hr_1 c_7
    exact Bool.noConfusion (hR.symm.trans c_7)
set_option maxHeartbeats 4000000 in
set_option maxRecDepth 100000 in
theorem c_X3_harsh_ok (l : Launch) (G : lzG) (x : Nat) (q : Nat → Nat) (S : Nat → Int32) (qh : Nat → Nat) (D : Nat → Int32) (F : Nat → Nat → Int32) (want set : Int32) (N M : Nat) (hN : D 2 = nI N) (hN8 : N ≤ 8) (hM : D 3 = nI M) (hM5 : M ≤ 5) (hR : (decide (0 < D 2) && decide (0 < D 3)) = true) (hvs : inR want 0 ((1 <<< (D 3 &&& 31)) - 1) = true) (hset : inR set 0 ((1 <<< (D 2 &&& 31)) - 1) = true) : Met l yX3_harsh wsX3_harsh ({ frames := 6, cells := 0, slots := 0, locals := 136 }) (va_Pc [.ref x, .int want, .int set] (roP G (lzX x q S ++ lzDoor G (q 6) qh D F))) (vp_Si (fun r => r = maxI (fun v => hasI want v) (fun v => bcI (wrbD D F v N &&& set)) M)) 0 0 (fun _ => False) := by
  refine ro_start (cc := cX3_harsh) (maxL := 3) (ret := (some .int)) (by decide) rfl (Nat.le_of_ble_eq_true rfl) ?_
  intro pp ee ss mm bl me cd hx hb hr hlk hml hts hown hP hK ls hl
  have hown : ss.vm.findClass RX3 = some mm.cls := hown
  have hw1 := hts (.fieldLink RX3 38 "LampSquares" "here" "LLampSquares$Door;") (List.mem_of_getElem? (i := 1) rfl)
  have hu_wsX30 : ∀ w ∈ wsX30, w.before ([.ref x, .int want, .int set] : List Value).toArray ss = true := fun w h9 => hts w (List.mem_cons_of_mem _ (List.mem_append_left _ (List.mem_append_right _ h9)))
  have hl : lv_has ls 3 [(0, .ref x), (1, .int want), (2, .int set)] := hl
  refine lv_aload_n hx hb dX3_harsh_0 rfl (lv_at hl 0 rfl) ?_
  refine lz_get (G := G) (ci := 3) (v := .ref (q 6)) (C := RX3) (T := TX3) (N := 13) hx hb hu_wsX30 (fun _ h9 => h9) hown hK hP 0 rfl rfl 6 (by decide) hw1 rfl rfl dX3_harsh_1 ?_
  have hPc := hP.sub (ws' := lzDoor G (q 6) qh D F) [1, 2, 3, 4, 5, 6, 7, 8, 9, 10, 11] rfl
  refine ro_calli (va_runV (As := []) (rest := []) ⟨hx, hb, hml, hown, hts⟩ (c_X1_isRead l G (q 6) qh D F ) (cwV 0 hts gX3_harsh_X1_isRead rfl rfl rfl (by decide +kernel) ⟨Nat.le_of_ble_eq_true rfl, Nat.le_of_ble_eq_true rfl⟩) (ro_preV hK hPc hP (ci := 1) (q0 := 1) rfl rfl) rfl rfl hl.1 rfl (lv_room (Nat.le_of_ble_eq_true rfl)) dX3_harsh_4 ⟨Nat.zero_le _, Nat.zero_le _⟩) (fun r_1 hr_1 => ?_)
  refine lv_if_ne (tgt := 13) hx hb dX3_harsh_7 (by decide) (fun c_7 => ?_) (fun c_7 => ?_)
  · skip
    have c_7 := b2_n hr_1 c_7
    refine lv_aload_n hx hb dX3_harsh_13 rfl (lv_at hl 0 rfl) ?_
    refine lz_get (G := G) (ci := 3) (v := .ref (q 6)) (C := RX3) (T := TX3) (N := 13) hx hb hu_wsX30 (fun _ h9 => h9) hown hK hP 0 rfl rfl 6 (by decide) hw1 rfl rfl dX3_harsh_14 ?_
    refine lv_iload_n hx hb dX3_harsh_17 rfl (lv_at hl 1 rfl) ?_
    have hPc := hP.sub (ws' := lzDoor G (q 6) qh D F) [1, 2, 3, 4, 5, 6, 7, 8, 9, 10, 11] rfl
    refine ro_calli (va_runV (As := [.int want]) (rest := []) ⟨hx, hb, hml, hown, hts⟩ (c_X1_areVisitors l G (q 6) qh D F want ) (cwV 1 hts gX3_harsh_X1_areVisitors rfl rfl rfl (by decide +kernel) ⟨Nat.le_of_ble_eq_true rfl, Nat.le_of_ble_eq_true rfl⟩) (ro_preV hK hPc hP (ci := 1) (q0 := 1) rfl rfl) rfl rfl hl.1 rfl (lv_room (Nat.le_of_ble_eq_true rfl)) dX3_harsh_18 ⟨Nat.zero_le _, Nat.zero_le _⟩) (fun r_2 hr_2 => ?_)
    refine lv_if_eq (tgt := 35) hx hb dX3_harsh_21 (by decide) (fun c_21 => ?_) (fun c_21 => ?_)
    · skip
      have c_21 := b2_z hr_2 c_21
      exact Bool.noConfusion (hvs.symm.trans c_21)
    · skip
      have c_21 := b2_n hr_2 c_21
      refine lv_aload_n hx hb dX3_harsh_24 rfl (lv_at hl 0 rfl) ?_
      refine lz_get (G := G) (ci := 3) (v := .ref (q 6)) (C := RX3) (T := TX3) (N := 13) hx hb hu_wsX30 (fun _ h9 => h9) hown hK hP 0 rfl rfl 6 (by decide) hw1 rfl rfl dX3_harsh_25 ?_
      refine lv_iload_n hx hb dX3_harsh_28 rfl (lv_at hl 2 rfl) ?_
      have hPc := hP.sub (ws' := lzDoor G (q 6) qh D F) [1, 2, 3, 4, 5, 6, 7, 8, 9, 10, 11] rfl
      refine ro_calli (va_runV (As := [.int set]) (rest := []) ⟨hx, hb, hml, hown, hts⟩ (c_X1_areSquares l G (q 6) qh D F set ) (cwV 1 hts gX3_harsh_X1_areSquares rfl rfl rfl (by decide +kernel) ⟨Nat.le_of_ble_eq_true rfl, Nat.le_of_ble_eq_true rfl⟩) (ro_preV hK hPc hP (ci := 1) (q0 := 1) rfl rfl) rfl rfl hl.1 rfl (lv_room (Nat.le_of_ble_eq_true rfl)) dX3_harsh_29 ⟨Nat.zero_le _, Nat.zero_le _⟩) (fun r_3 hr_3 => ?_)
      refine lv_if_ne (tgt := 38) hx hb dX3_harsh_32 (by decide) (fun c_32 => ?_) (fun c_32 => ?_)
      · skip
        have c_32 := b2_n hr_3 c_32
        refine lv_aload_n hx hb dX3_harsh_38 rfl (lv_at hl 0 rfl) ?_
        refine lz_get (G := G) (ci := 3) (v := .ref (q 6)) (C := RX3) (T := TX3) (N := 13) hx hb hu_wsX30 (fun _ h9 => h9) hown hK hP 0 rfl rfl 6 (by decide) hw1 rfl rfl dX3_harsh_39 ?_
        refine lv_iload_n hx hb dX3_harsh_42 rfl (lv_at hl 1 rfl) ?_
        refine lv_iload_n hx hb dX3_harsh_43 rfl (lv_at hl 2 rfl) ?_
        have hPc := hP.sub (ws' := lzDoor G (q 6) qh D F) [1, 2, 3, 4, 5, 6, 7, 8, 9, 10, 11] rfl
        refine ro_calli (va_runV (As := [.int want, .int set]) (rest := []) ⟨hx, hb, hml, hown, hts⟩ (c_X1_leastStrict l G (q 6) qh D F want set N M (hN) (hN8) (hM) (hM5)) (cwV 2 hts gX3_harsh_X1_leastStrict rfl rfl rfl (by decide +kernel) ⟨Nat.le_of_ble_eq_true rfl, Nat.le_of_ble_eq_true rfl⟩) (ro_preV hK hPc hP (ci := 1) (q0 := 1) rfl rfl) rfl rfl hl.1 rfl (lv_room (Nat.le_of_ble_eq_true rfl)) dX3_harsh_44 ⟨Nat.zero_le _, Nat.zero_le _⟩) (fun r_4 hr_4 => ?_)
        refine lz_top (y := maxI (fun v => hasI want v) (fun v => bcI (wrbD D F v N &&& set)) M) hr_4 ?_
        exact ro_iret hx hb hr hlk dX3_harsh_47 (rfl)
      · skip
        have c_32 := b2_z hr_3 c_32
        exact Bool.noConfusion (hset.symm.trans c_32)
  · skip
    have c_7 := b2_z hr_1 c_7
    exact Bool.noConfusion (hR.symm.trans c_7)
set_option maxHeartbeats 4000000 in
set_option maxRecDepth 100000 in
theorem c_X3_keen_state (l : Launch) (G : lzG) (x : Nat) (q : Nat → Nat) (S : Nat → Int32) (qh : Nat → Nat) (D : Nat → Int32) (F : Nat → Nat → Int32) (what : Int32) (hR : (decide (0 < D 2) && decide (0 < D 3)) = false) : Met l yX3_keen wsX3_keen ({ frames := 1, cells := 0, slots := 0, locals := 20 }) (va_Pc [.ref x, .int what] (roP G (lzX x q S ++ lzDoor G (q 6) qh D F))) (vp_Si (fun r => r = -1000002)) 0 0 (fun _ => False) := by
  refine ro_start (cc := cX3_keen) (maxL := 3) (ret := (some .int)) (by decide) rfl (Nat.le_of_ble_eq_true rfl) ?_
  intro pp ee ss mm bl me cd hx hb hr hlk hml hts hown hP hK ls hl
  have hown : ss.vm.findClass RX3 = some mm.cls := hown
  have hw1 := hts (.fieldLink RX3 38 "LampSquares" "here" "LLampSquares$Door;") (List.mem_of_getElem? (i := 1) rfl)
  have hw2 := hts (.constant RX3 137 (-1000002)) (List.mem_of_getElem? (i := 2) rfl)
  have hu_wsX30 : ∀ w ∈ wsX30, w.before ([.ref x, .int what] : List Value).toArray ss = true := fun w h9 => hts w (List.mem_cons_of_mem _ (List.mem_append_left _ (List.mem_append_right _ h9)))
  have hl : lv_has ls 3 [(0, .ref x), (1, .int what)] := hl
  refine lv_aload_n hx hb dX3_keen_0 rfl (lv_at hl 0 rfl) ?_
  refine lz_get (G := G) (ci := 3) (v := .ref (q 6)) (C := RX3) (T := TX3) (N := 13) hx hb hu_wsX30 (fun _ h9 => h9) hown hK hP 0 rfl rfl 6 (by decide) hw1 rfl rfl dX3_keen_1 ?_
  have hPc := hP.sub (ws' := lzDoor G (q 6) qh D F) [1, 2, 3, 4, 5, 6, 7, 8, 9, 10, 11] rfl
  refine ro_calli (va_runV (As := []) (rest := []) ⟨hx, hb, hml, hown, hts⟩ (c_X1_isRead l G (q 6) qh D F ) (cwV 0 hts gX3_keen_X1_isRead rfl rfl rfl (by decide +kernel) ⟨Nat.le_of_ble_eq_true rfl, Nat.le_of_ble_eq_true rfl⟩) (ro_preV hK hPc hP (ci := 1) (q0 := 1) rfl rfl) rfl rfl hl.1 rfl (lv_room (Nat.le_of_ble_eq_true rfl)) dX3_keen_4 ⟨Nat.zero_le _, Nat.zero_le _⟩) (fun r_1 hr_1 => ?_)
  refine lv_if_ne (tgt := 13) hx hb dX3_keen_7 (by decide) (fun c_7 => ?_) (fun c_7 => ?_)
  · skip
    have c_7 := b2_n hr_1 c_7
    exact Bool.noConfusion (hR.symm.trans c_7)
  · skip
    have c_7 := b2_z hr_1 c_7
    refine lv_ldc hx hb hown hw2 dX3_keen_10 ?_
    exact ro_iret hx hb hr hlk dX3_keen_12 (rfl)
set_option maxHeartbeats 4000000 in
set_option maxRecDepth 100000 in
theorem c_X3_keen_bad (l : Launch) (G : lzG) (x : Nat) (q : Nat → Nat) (S : Nat → Int32) (qh : Nat → Nat) (D : Nat → Int32) (F : Nat → Nat → Int32) (what : Int32) (hR : (decide (0 < D 2) && decide (0 < D 3)) = true) (hbad : (inR what 0 1) = false) : Met l yX3_keen wsX3_keen ({ frames := 1, cells := 0, slots := 0, locals := 22 }) (va_Pc [.ref x, .int what] (roP G (lzX x q S ++ lzDoor G (q 6) qh D F))) (vp_Si (fun r => r = -1000001)) 0 0 (fun _ => False) := by
  refine ro_start (cc := cX3_keen) (maxL := 3) (ret := (some .int)) (by decide) rfl (Nat.le_of_ble_eq_true rfl) ?_
  intro pp ee ss mm bl me cd hx hb hr hlk hml hts hown hP hK ls hl
  have hown : ss.vm.findClass RX3 = some mm.cls := hown
  have hw1 := hts (.fieldLink RX3 38 "LampSquares" "here" "LLampSquares$Door;") (List.mem_of_getElem? (i := 1) rfl)
  have hw3 := hts (.constant RX3 81 (-1000001)) (List.mem_of_getElem? (i := 3) rfl)
  have hu_wsX30 : ∀ w ∈ wsX30, w.before ([.ref x, .int what] : List Value).toArray ss = true := fun w h9 => hts w (List.mem_cons_of_mem _ (List.mem_append_left _ (List.mem_append_right _ h9)))
  have hl : lv_has ls 3 [(0, .ref x), (1, .int what)] := hl
  refine lv_aload_n hx hb dX3_keen_0 rfl (lv_at hl 0 rfl) ?_
  refine lz_get (G := G) (ci := 3) (v := .ref (q 6)) (C := RX3) (T := TX3) (N := 13) hx hb hu_wsX30 (fun _ h9 => h9) hown hK hP 0 rfl rfl 6 (by decide) hw1 rfl rfl dX3_keen_1 ?_
  have hPc := hP.sub (ws' := lzDoor G (q 6) qh D F) [1, 2, 3, 4, 5, 6, 7, 8, 9, 10, 11] rfl
  refine ro_calli (va_runV (As := []) (rest := []) ⟨hx, hb, hml, hown, hts⟩ (c_X1_isRead l G (q 6) qh D F ) (cwV 0 hts gX3_keen_X1_isRead rfl rfl rfl (by decide +kernel) ⟨Nat.le_of_ble_eq_true rfl, Nat.le_of_ble_eq_true rfl⟩) (ro_preV hK hPc hP (ci := 1) (q0 := 1) rfl rfl) rfl rfl hl.1 rfl (lv_room (Nat.le_of_ble_eq_true rfl)) dX3_keen_4 ⟨Nat.zero_le _, Nat.zero_le _⟩) (fun r_1 hr_1 => ?_)
  refine lv_if_ne (tgt := 13) hx hb dX3_keen_7 (by decide) (fun c_7 => ?_) (fun c_7 => ?_)
  · skip
    have c_7 := b2_n hr_1 c_7
    refine lv_iload_n hx hb dX3_keen_13 rfl (lv_at hl 1 rfl) ?_
    refine lv_iconst (v := 0) hx hb dX3_keen_14 (by decide) ?_
    refine lv_iconst (v := 1) hx hb dX3_keen_15 (by decide) ?_
    refine ro_calli (va_runS (As := [.int what, .int 0, .int 1]) (rest := []) ⟨hx, hb, hml, hown, hts⟩ (c_X3_isIn l G what 0 1 ) (cwS 3 hts gX3_keen_X3_isIn rfl rfl rfl (by decide +kernel) ⟨Nat.le_of_ble_eq_true rfl, Nat.le_of_ble_eq_true rfl⟩) (ro_pre hK (fun k q h => by simp at h)) rfl rfl hl.1 rfl (lv_room (Nat.le_of_ble_eq_true rfl)) dX3_keen_16 ⟨Nat.zero_le _, Nat.zero_le _⟩) (fun r_2 hr_2 => ?_)
    refine lv_if_ne (tgt := 25) hx hb dX3_keen_19 (by decide) (fun c_19 => ?_) (fun c_19 => ?_)
    · skip
      have c_19 := b2_n hr_2 c_19
      exact Bool.noConfusion (hbad.symm.trans c_19)
    · skip
      have c_19 := b2_z hr_2 c_19
      refine lv_ldc hx hb hown hw3 dX3_keen_22 ?_
      exact ro_iret hx hb hr hlk dX3_keen_24 (rfl)
  · skip
    have c_7 := b2_z hr_1 c_7
    exact Bool.noConfusion (hR.symm.trans c_7)
set_option maxHeartbeats 4000000 in
set_option maxRecDepth 100000 in
theorem c_X3_keen_ok (l : Launch) (G : lzG) (x : Nat) (q : Nat → Nat) (S : Nat → Int32) (qh : Nat → Nat) (D : Nat → Int32) (F : Nat → Nat → Int32) (what : Int32) (N M : Nat) (hN : D 2 = nI N) (hN8 : N ≤ 8) (hM : D 3 = nI M) (hM5 : M ≤ 5) (hR : (decide (0 < D 2) && decide (0 < D 3)) = true) (hw : inR what 0 1 = true) : Met l yX3_keen wsX3_keen ({ frames := 6, cells := 0, slots := 0, locals := 136 }) (va_Pc [.ref x, .int what] (roP G (lzX x q S ++ lzDoor G (q 6) qh D F))) (vp_Si (fun r => r = if what = 0 then (keenD D F N M N).1 else if (keenD D F N M N).1 = -1000000 then (keenD D F N M N).1 else (keenD D F N M N).2)) 0 0 (fun _ => False) := by
  refine ro_start (cc := cX3_keen) (maxL := 3) (ret := (some .int)) (by decide) rfl (Nat.le_of_ble_eq_true rfl) ?_
  intro pp ee ss mm bl me cd hx hb hr hlk hml hts hown hP hK ls hl
  have hown : ss.vm.findClass RX3 = some mm.cls := hown
  have hw1 := hts (.fieldLink RX3 38 "LampSquares" "here" "LLampSquares$Door;") (List.mem_of_getElem? (i := 1) rfl)
  have hw4 := hts (.constant RX3 66 (-1000000)) (List.mem_of_getElem? (i := 4) rfl)
  have hu_wsX30 : ∀ w ∈ wsX30, w.before ([.ref x, .int what] : List Value).toArray ss = true := fun w h9 => hts w (List.mem_cons_of_mem _ (List.mem_append_left _ (List.mem_append_right _ h9)))
  have hl : lv_has ls 3 [(0, .ref x), (1, .int what)] := hl
  refine lv_aload_n hx hb dX3_keen_0 rfl (lv_at hl 0 rfl) ?_
  refine lz_get (G := G) (ci := 3) (v := .ref (q 6)) (C := RX3) (T := TX3) (N := 13) hx hb hu_wsX30 (fun _ h9 => h9) hown hK hP 0 rfl rfl 6 (by decide) hw1 rfl rfl dX3_keen_1 ?_
  have hPc := hP.sub (ws' := lzDoor G (q 6) qh D F) [1, 2, 3, 4, 5, 6, 7, 8, 9, 10, 11] rfl
  refine ro_calli (va_runV (As := []) (rest := []) ⟨hx, hb, hml, hown, hts⟩ (c_X1_isRead l G (q 6) qh D F ) (cwV 0 hts gX3_keen_X1_isRead rfl rfl rfl (by decide +kernel) ⟨Nat.le_of_ble_eq_true rfl, Nat.le_of_ble_eq_true rfl⟩) (ro_preV hK hPc hP (ci := 1) (q0 := 1) rfl rfl) rfl rfl hl.1 rfl (lv_room (Nat.le_of_ble_eq_true rfl)) dX3_keen_4 ⟨Nat.zero_le _, Nat.zero_le _⟩) (fun r_1 hr_1 => ?_)
  refine lv_if_ne (tgt := 13) hx hb dX3_keen_7 (by decide) (fun c_7 => ?_) (fun c_7 => ?_)
  · skip
    have c_7 := b2_n hr_1 c_7
    refine lv_iload_n hx hb dX3_keen_13 rfl (lv_at hl 1 rfl) ?_
    refine lv_iconst (v := 0) hx hb dX3_keen_14 (by decide) ?_
    refine lv_iconst (v := 1) hx hb dX3_keen_15 (by decide) ?_
    refine ro_calli (va_runS (As := [.int what, .int 0, .int 1]) (rest := []) ⟨hx, hb, hml, hown, hts⟩ (c_X3_isIn l G what 0 1 ) (cwS 3 hts gX3_keen_X3_isIn rfl rfl rfl (by decide +kernel) ⟨Nat.le_of_ble_eq_true rfl, Nat.le_of_ble_eq_true rfl⟩) (ro_pre hK (fun k q h => by simp at h)) rfl rfl hl.1 rfl (lv_room (Nat.le_of_ble_eq_true rfl)) dX3_keen_16 ⟨Nat.zero_le _, Nat.zero_le _⟩) (fun r_2 hr_2 => ?_)
    refine lv_if_ne (tgt := 25) hx hb dX3_keen_19 (by decide) (fun c_19 => ?_) (fun c_19 => ?_)
    · skip
      have c_19 := b2_n hr_2 c_19
      refine lv_aload_n hx hb dX3_keen_25 rfl (lv_at hl 0 rfl) ?_
      refine lz_get (G := G) (ci := 3) (v := .ref (q 6)) (C := RX3) (T := TX3) (N := 13) hx hb hu_wsX30 (fun _ h9 => h9) hown hK hP 0 rfl rfl 6 (by decide) hw1 rfl rfl dX3_keen_26 ?_
      have hPc := hP.sub (ws' := lzDoor G (q 6) qh D F) [1, 2, 3, 4, 5, 6, 7, 8, 9, 10, 11] rfl
      refine ro_calli (va_runV (As := []) (rest := []) ⟨hx, hb, hml, hown, hts⟩ (c_X1_keenest l G (q 6) qh D F N M (hN) (hN8) (hM) (hM5)) (cwV 0 hts gX3_keen_X1_keenest rfl rfl rfl (by decide +kernel) ⟨Nat.le_of_ble_eq_true rfl, Nat.le_of_ble_eq_true rfl⟩) (ro_preV hK hPc hP (ci := 1) (q0 := 1) rfl rfl) rfl rfl hl.1 rfl (lv_room (Nat.le_of_ble_eq_true rfl)) dX3_keen_29 ⟨Nat.zero_le _, Nat.zero_le _⟩) (fun r_3 hr_3 => ?_)
      refine lz_top (y := (keenD D F N M N).1) hr_3 ?_
      refine lv_istore_n (lv' := [(2, .int ((keenD D F N M N).1)), (0, .ref x), (1, .int what)]) hx hb dX3_keen_32 rfl hl (by decide) rfl (fun ls hl => ?_)
      refine lv_iload_n hx hb dX3_keen_33 rfl (lv_at hl 2 rfl) ?_
      refine lv_if_eq (tgt := 43) hx hb dX3_keen_34 (by decide) (fun c_34 => ?_) (fun c_34 => ?_)
      · skip
        refine lv_iload_n hx hb dX3_keen_43 rfl (lv_at hl 0 rfl) ?_
        refine lv_goto (tgt := 55) hx hb dX3_keen_44 (by decide) ?_
        exact ro_iret hx hb hr hlk dX3_keen_55 (by first | rw [if_pos c_34] | rw [if_neg c_34, if_pos c_40] | rw [if_neg c_34, if_neg c_40, hj2])
      · skip
        refine lv_iload_n hx hb dX3_keen_37 rfl (lv_at hl 0 rfl) ?_
        refine lv_ldc hx hb hown hw4 dX3_keen_38 ?_
        refine lv_icmp_ne (tgt := 47) hx hb dX3_keen_40 (by decide) (fun c_40 => ?_) (fun c_40 => ?_)
        · skip
          obtain ⟨j, hj, hj1, hj2⟩ := (keenD_s D F N M N).resolve_left c_40
          refine lv_aload_n hx hb dX3_keen_47 rfl (lv_at hl 1 rfl) ?_
          refine lz_get (G := G) (ci := 3) (v := .ref (q 6)) (C := RX3) (T := TX3) (N := 13) hx hb hu_wsX30 (fun _ h9 => h9) hown hK hP 0 rfl rfl 6 (by decide) hw1 rfl rfl dX3_keen_48 ?_
          refine lv_iload_n hx hb dX3_keen_51 rfl (lv_at hl 0 rfl) ?_
          refine lz_top (y := nI j) (hj1) ?_
          have hPc := hP.sub (ws' := lzDoor G (q 6) qh D F) [1, 2, 3, 4, 5, 6, 7, 8, 9, 10, 11] rfl
          refine ro_calli (va_runV (As := [.int (nI j)]) (rest := []) ⟨hx, hb, hml, hown, hts⟩ (c_X1_difference l G (q 6) qh D F j N M (hN) (hN8) (hM) (hM5)) (cwV 1 hts gX3_keen_X1_difference rfl rfl rfl (by decide +kernel) ⟨Nat.le_of_ble_eq_true rfl, Nat.le_of_ble_eq_true rfl⟩) (ro_preV hK hPc hP (ci := 1) (q0 := 1) rfl rfl) rfl rfl hl.1 rfl (lv_room (Nat.le_of_ble_eq_true rfl)) dX3_keen_52 ⟨Nat.zero_le _, Nat.zero_le _⟩) (fun r_4 hr_4 => ?_)
          refine lz_top (y := diffD D F j N M) hr_4 ?_
          exact ro_iret hx hb hr hlk dX3_keen_55 (by first | rw [if_pos c_34] | rw [if_neg c_34, if_pos c_40] | rw [if_neg c_34, if_neg c_40, hj2])
        · skip
          refine lv_iload_n hx hb dX3_keen_43 rfl (lv_at hl 0 rfl) ?_
          refine lv_goto (tgt := 55) hx hb dX3_keen_44 (by decide) ?_
          exact ro_iret hx hb hr hlk dX3_keen_55 (by first | rw [if_pos c_34] | rw [if_neg c_34, if_pos c_40] | rw [if_neg c_34, if_neg c_40, hj2])
    · skip
      have c_19 := b2_z hr_2 c_19
      exact Bool.noConfusion (hw.symm.trans c_19)
  · skip
    have c_7 := b2_z hr_1 c_7
    exact Bool.noConfusion (hR.symm.trans c_7)
set_option maxHeartbeats 4000000 in
set_option maxRecDepth 100000 in
theorem c_X3_tells_state (l : Launch) (G : lzG) (x : Nat) (q : Nat → Nat) (S : Nat → Int32) (qh : Nat → Nat) (D : Nat → Int32) (F : Nat → Nat → Int32) (set what : Int32) (hR : (decide (0 < D 2) && decide (0 < D 3)) = false) : Met l yX3_tells wsX3_tells ({ frames := 1, cells := 0, slots := 0, locals := 20 }) (va_Pc [.ref x, .int set, .int what] (roP G (lzX x q S ++ lzDoor G (q 6) qh D F))) (vp_Si (fun r => r = -1000002)) 0 0 (fun _ => False) := by
  refine ro_start (cc := cX3_tells) (maxL := 3) (ret := (some .int)) (by decide) rfl (Nat.le_of_ble_eq_true rfl) ?_
  intro pp ee ss mm bl me cd hx hb hr hlk hml hts hown hP hK ls hl
  have hown : ss.vm.findClass RX3 = some mm.cls := hown
  have hw1 := hts (.fieldLink RX3 38 "LampSquares" "here" "LLampSquares$Door;") (List.mem_of_getElem? (i := 1) rfl)
  have hw2 := hts (.constant RX3 137 (-1000002)) (List.mem_of_getElem? (i := 2) rfl)
  have hu_wsX30 : ∀ w ∈ wsX30, w.before ([.ref x, .int set, .int what] : List Value).toArray ss = true := fun w h9 => hts w (List.mem_cons_of_mem _ (List.mem_append_left _ (List.mem_append_right _ h9)))
  have hl : lv_has ls 3 [(0, .ref x), (1, .int set), (2, .int what)] := hl
  refine lv_aload_n hx hb dX3_tells_0 rfl (lv_at hl 0 rfl) ?_
  refine lz_get (G := G) (ci := 3) (v := .ref (q 6)) (C := RX3) (T := TX3) (N := 13) hx hb hu_wsX30 (fun _ h9 => h9) hown hK hP 0 rfl rfl 6 (by decide) hw1 rfl rfl dX3_tells_1 ?_
  have hPc := hP.sub (ws' := lzDoor G (q 6) qh D F) [1, 2, 3, 4, 5, 6, 7, 8, 9, 10, 11] rfl
  refine ro_calli (va_runV (As := []) (rest := []) ⟨hx, hb, hml, hown, hts⟩ (c_X1_isRead l G (q 6) qh D F ) (cwV 0 hts gX3_tells_X1_isRead rfl rfl rfl (by decide +kernel) ⟨Nat.le_of_ble_eq_true rfl, Nat.le_of_ble_eq_true rfl⟩) (ro_preV hK hPc hP (ci := 1) (q0 := 1) rfl rfl) rfl rfl hl.1 rfl (lv_room (Nat.le_of_ble_eq_true rfl)) dX3_tells_4 ⟨Nat.zero_le _, Nat.zero_le _⟩) (fun r_1 hr_1 => ?_)
  refine lv_if_ne (tgt := 13) hx hb dX3_tells_7 (by decide) (fun c_7 => ?_) (fun c_7 => ?_)
  · skip
    have c_7 := b2_n hr_1 c_7
    exact Bool.noConfusion (hR.symm.trans c_7)
  · skip
    have c_7 := b2_z hr_1 c_7
    refine lv_ldc hx hb hown hw2 dX3_tells_10 ?_
    exact ro_iret hx hb hr hlk dX3_tells_12 (rfl)
set_option maxHeartbeats 4000000 in
set_option maxRecDepth 100000 in
theorem c_X3_tells_bad (l : Launch) (G : lzG) (x : Nat) (q : Nat → Nat) (S : Nat → Int32) (qh : Nat → Nat) (D : Nat → Int32) (F : Nat → Nat → Int32) (set what : Int32) (hR : (decide (0 < D 2) && decide (0 < D 3)) = true) (hbad : (inR set 0 ((1 <<< (D 2 &&& 31)) - 1) && inR what 0 1) = false) : Met l yX3_tells wsX3_tells ({ frames := 2, cells := 0, slots := 0, locals := 43 }) (va_Pc [.ref x, .int set, .int what] (roP G (lzX x q S ++ lzDoor G (q 6) qh D F))) (vp_Si (fun r => r = -1000001)) 0 0 (fun _ => False) := by
  refine ro_start (cc := cX3_tells) (maxL := 3) (ret := (some .int)) (by decide) rfl (Nat.le_of_ble_eq_true rfl) ?_
  intro pp ee ss mm bl me cd hx hb hr hlk hml hts hown hP hK ls hl
  have hown : ss.vm.findClass RX3 = some mm.cls := hown
  have hw1 := hts (.fieldLink RX3 38 "LampSquares" "here" "LLampSquares$Door;") (List.mem_of_getElem? (i := 1) rfl)
  have hw3 := hts (.constant RX3 81 (-1000001)) (List.mem_of_getElem? (i := 3) rfl)
  have hu_wsX30 : ∀ w ∈ wsX30, w.before ([.ref x, .int set, .int what] : List Value).toArray ss = true := fun w h9 => hts w (List.mem_cons_of_mem _ (List.mem_append_left _ (List.mem_append_right _ h9)))
  have hl : lv_has ls 3 [(0, .ref x), (1, .int set), (2, .int what)] := hl
  refine lv_aload_n hx hb dX3_tells_0 rfl (lv_at hl 0 rfl) ?_
  refine lz_get (G := G) (ci := 3) (v := .ref (q 6)) (C := RX3) (T := TX3) (N := 13) hx hb hu_wsX30 (fun _ h9 => h9) hown hK hP 0 rfl rfl 6 (by decide) hw1 rfl rfl dX3_tells_1 ?_
  have hPc := hP.sub (ws' := lzDoor G (q 6) qh D F) [1, 2, 3, 4, 5, 6, 7, 8, 9, 10, 11] rfl
  refine ro_calli (va_runV (As := []) (rest := []) ⟨hx, hb, hml, hown, hts⟩ (c_X1_isRead l G (q 6) qh D F ) (cwV 0 hts gX3_tells_X1_isRead rfl rfl rfl (by decide +kernel) ⟨Nat.le_of_ble_eq_true rfl, Nat.le_of_ble_eq_true rfl⟩) (ro_preV hK hPc hP (ci := 1) (q0 := 1) rfl rfl) rfl rfl hl.1 rfl (lv_room (Nat.le_of_ble_eq_true rfl)) dX3_tells_4 ⟨Nat.zero_le _, Nat.zero_le _⟩) (fun r_1 hr_1 => ?_)
  refine lv_if_ne (tgt := 13) hx hb dX3_tells_7 (by decide) (fun c_7 => ?_) (fun c_7 => ?_)
  · skip
    have c_7 := b2_n hr_1 c_7
    refine lv_aload_n hx hb dX3_tells_13 rfl (lv_at hl 0 rfl) ?_
    refine lz_get (G := G) (ci := 3) (v := .ref (q 6)) (C := RX3) (T := TX3) (N := 13) hx hb hu_wsX30 (fun _ h9 => h9) hown hK hP 0 rfl rfl 6 (by decide) hw1 rfl rfl dX3_tells_14 ?_
    refine lv_iload_n hx hb dX3_tells_17 rfl (lv_at hl 1 rfl) ?_
    have hPc := hP.sub (ws' := lzDoor G (q 6) qh D F) [1, 2, 3, 4, 5, 6, 7, 8, 9, 10, 11] rfl
    refine ro_calli (va_runV (As := [.int set]) (rest := []) ⟨hx, hb, hml, hown, hts⟩ (c_X1_areSquares l G (q 6) qh D F set ) (cwV 1 hts gX3_tells_X1_areSquares rfl rfl rfl (by decide +kernel) ⟨Nat.le_of_ble_eq_true rfl, Nat.le_of_ble_eq_true rfl⟩) (ro_preV hK hPc hP (ci := 1) (q0 := 1) rfl rfl) rfl rfl hl.1 rfl (lv_room (Nat.le_of_ble_eq_true rfl)) dX3_tells_18 ⟨Nat.zero_le _, Nat.zero_le _⟩) (fun r_2 hr_2 => ?_)
    refine lv_if_eq (tgt := 33) hx hb dX3_tells_21 (by decide) (fun c_21 => ?_) (fun c_21 => ?_)
    · skip
      have c_21 := b2_z hr_2 c_21
      refine lv_ldc hx hb hown hw3 dX3_tells_33 ?_
      exact ro_iret hx hb hr hlk dX3_tells_35 (rfl)
    · skip
      have c_21 := b2_n hr_2 c_21
      refine lv_iload_n hx hb dX3_tells_24 rfl (lv_at hl 2 rfl) ?_
      refine lv_iconst (v := 0) hx hb dX3_tells_25 (by decide) ?_
      refine lv_iconst (v := 1) hx hb dX3_tells_26 (by decide) ?_
      refine ro_calli (va_runS (As := [.int what, .int 0, .int 1]) (rest := []) ⟨hx, hb, hml, hown, hts⟩ (c_X3_isIn l G what 0 1 ) (cwS 3 hts gX3_tells_X3_isIn rfl rfl rfl (by decide +kernel) ⟨Nat.le_of_ble_eq_true rfl, Nat.le_of_ble_eq_true rfl⟩) (ro_pre hK (fun k q h => by simp at h)) rfl rfl hl.1 rfl (lv_room (Nat.le_of_ble_eq_true rfl)) dX3_tells_27 ⟨Nat.zero_le _, Nat.zero_le _⟩) (fun r_3 hr_3 => ?_)
      refine lv_if_ne (tgt := 36) hx hb dX3_tells_30 (by decide) (fun c_30 => ?_) (fun c_30 => ?_)
      · skip
        have c_30 := b2_n hr_3 c_30
        exact Bool.noConfusion (hbad.symm.trans (by rw [c_21, c_30] <;> rfl))
      · skip
        have c_30 := b2_z hr_3 c_30
        refine lv_ldc hx hb hown hw3 dX3_tells_33 ?_
        exact ro_iret hx hb hr hlk dX3_tells_35 (rfl)
  · skip
    have c_7 := b2_z hr_1 c_7
    exact Bool.noConfusion (hR.symm.trans c_7)
set_option maxHeartbeats 4000000 in
set_option maxRecDepth 100000 in
theorem c_X3_tells_ok (l : Launch) (G : lzG) (x : Nat) (q : Nat → Nat) (S : Nat → Int32) (qh : Nat → Nat) (D : Nat → Int32) (F : Nat → Nat → Int32) (set what : Int32) (N M : Nat) (hN : D 2 = nI N) (hN8 : N ≤ 8) (hM : D 3 = nI M) (hM5 : M ≤ 5) (hR : (decide (0 < D 2) && decide (0 < D 3)) = true) (hset : inR set 0 ((1 <<< (D 2 &&& 31)) - 1) = true) (hw : inR what 0 1 = true) : Met l yX3_tells wsX3_tells ({ frames := 5, cells := 0, slots := 0, locals := 116 }) (va_Pc [.ref x, .int set, .int what] (roP G (lzX x q S ++ lzDoor G (q 6) qh D F))) (vp_Si (fun r => (what = 0 → r = sumI (rowI (fun v w => !alikeD F v w set N) M) M) ∧ (¬ what = 0 → firstR (fun v w => alikeD F v w set N) M r))) 0 0 (fun _ => False) := by
  refine ro_start (cc := cX3_tells) (maxL := 3) (ret := (some .int)) (by decide) rfl (Nat.le_of_ble_eq_true rfl) ?_
  intro pp ee ss mm bl me cd hx hb hr hlk hml hts hown hP hK ls hl
  have hown : ss.vm.findClass RX3 = some mm.cls := hown
  have hw1 := hts (.fieldLink RX3 38 "LampSquares" "here" "LLampSquares$Door;") (List.mem_of_getElem? (i := 1) rfl)
  have hu_wsX30 : ∀ w ∈ wsX30, w.before ([.ref x, .int set, .int what] : List Value).toArray ss = true := fun w h9 => hts w (List.mem_cons_of_mem _ (List.mem_append_left _ (List.mem_append_right _ h9)))
  have hl : lv_has ls 3 [(0, .ref x), (1, .int set), (2, .int what)] := hl
  refine lv_aload_n hx hb dX3_tells_0 rfl (lv_at hl 0 rfl) ?_
  refine lz_get (G := G) (ci := 3) (v := .ref (q 6)) (C := RX3) (T := TX3) (N := 13) hx hb hu_wsX30 (fun _ h9 => h9) hown hK hP 0 rfl rfl 6 (by decide) hw1 rfl rfl dX3_tells_1 ?_
  have hPc := hP.sub (ws' := lzDoor G (q 6) qh D F) [1, 2, 3, 4, 5, 6, 7, 8, 9, 10, 11] rfl
  refine ro_calli (va_runV (As := []) (rest := []) ⟨hx, hb, hml, hown, hts⟩ (c_X1_isRead l G (q 6) qh D F ) (cwV 0 hts gX3_tells_X1_isRead rfl rfl rfl (by decide +kernel) ⟨Nat.le_of_ble_eq_true rfl, Nat.le_of_ble_eq_true rfl⟩) (ro_preV hK hPc hP (ci := 1) (q0 := 1) rfl rfl) rfl rfl hl.1 rfl (lv_room (Nat.le_of_ble_eq_true rfl)) dX3_tells_4 ⟨Nat.zero_le _, Nat.zero_le _⟩) (fun r_1 hr_1 => ?_)
  refine lv_if_ne (tgt := 13) hx hb dX3_tells_7 (by decide) (fun c_7 => ?_) (fun c_7 => ?_)
  · skip
    have c_7 := b2_n hr_1 c_7
    refine lv_aload_n hx hb dX3_tells_13 rfl (lv_at hl 0 rfl) ?_
    refine lz_get (G := G) (ci := 3) (v := .ref (q 6)) (C := RX3) (T := TX3) (N := 13) hx hb hu_wsX30 (fun _ h9 => h9) hown hK hP 0 rfl rfl 6 (by decide) hw1 rfl rfl dX3_tells_14 ?_
    refine lv_iload_n hx hb dX3_tells_17 rfl (lv_at hl 1 rfl) ?_
    have hPc := hP.sub (ws' := lzDoor G (q 6) qh D F) [1, 2, 3, 4, 5, 6, 7, 8, 9, 10, 11] rfl
    refine ro_calli (va_runV (As := [.int set]) (rest := []) ⟨hx, hb, hml, hown, hts⟩ (c_X1_areSquares l G (q 6) qh D F set ) (cwV 1 hts gX3_tells_X1_areSquares rfl rfl rfl (by decide +kernel) ⟨Nat.le_of_ble_eq_true rfl, Nat.le_of_ble_eq_true rfl⟩) (ro_preV hK hPc hP (ci := 1) (q0 := 1) rfl rfl) rfl rfl hl.1 rfl (lv_room (Nat.le_of_ble_eq_true rfl)) dX3_tells_18 ⟨Nat.zero_le _, Nat.zero_le _⟩) (fun r_2 hr_2 => ?_)
    refine lv_if_eq (tgt := 33) hx hb dX3_tells_21 (by decide) (fun c_21 => ?_) (fun c_21 => ?_)
    · skip
      have c_21 := b2_z hr_2 c_21
      exact Bool.noConfusion (hset.symm.trans c_21)
    · skip
      have c_21 := b2_n hr_2 c_21
      refine lv_iload_n hx hb dX3_tells_24 rfl (lv_at hl 2 rfl) ?_
      refine lv_iconst (v := 0) hx hb dX3_tells_25 (by decide) ?_
      refine lv_iconst (v := 1) hx hb dX3_tells_26 (by decide) ?_
      refine ro_calli (va_runS (As := [.int what, .int 0, .int 1]) (rest := []) ⟨hx, hb, hml, hown, hts⟩ (c_X3_isIn l G what 0 1 ) (cwS 3 hts gX3_tells_X3_isIn rfl rfl rfl (by decide +kernel) ⟨Nat.le_of_ble_eq_true rfl, Nat.le_of_ble_eq_true rfl⟩) (ro_pre hK (fun k q h => by simp at h)) rfl rfl hl.1 rfl (lv_room (Nat.le_of_ble_eq_true rfl)) dX3_tells_27 ⟨Nat.zero_le _, Nat.zero_le _⟩) (fun r_3 hr_3 => ?_)
      refine lv_if_ne (tgt := 36) hx hb dX3_tells_30 (by decide) (fun c_30 => ?_) (fun c_30 => ?_)
      · skip
        have c_30 := b2_n hr_3 c_30
        refine lv_iload_n hx hb dX3_tells_36 rfl (lv_at hl 2 rfl) ?_
        refine lv_if_ne (tgt := 51) hx hb dX3_tells_37 (by decide) (fun c_37 => ?_) (fun c_37 => ?_)
        · skip
          refine lv_aload_n hx hb dX3_tells_51 rfl (lv_at hl 0 rfl) ?_
          refine lz_get (G := G) (ci := 3) (v := .ref (q 6)) (C := RX3) (T := TX3) (N := 13) hx hb hu_wsX30 (fun _ h9 => h9) hown hK hP 0 rfl rfl 6 (by decide) hw1 rfl rfl dX3_tells_52 ?_
          refine lv_iload_n hx hb dX3_tells_55 rfl (lv_at hl 1 rfl) ?_
          have hPc := hP.sub (ws' := lzDoor G (q 6) qh D F) [1, 2, 3, 4, 5, 6, 7, 8, 9, 10, 11] rfl
          refine ro_calli (va_runV (As := [.int set]) (rest := []) ⟨hx, hb, hml, hown, hts⟩ (c_X1_firstPairAlike l G (q 6) qh D F set N M (hN) (hN8) (hM) (hM5)) (cwV 1 hts gX3_tells_X1_firstPairAlike rfl rfl rfl (by decide +kernel) ⟨Nat.le_of_ble_eq_true rfl, Nat.le_of_ble_eq_true rfl⟩) (ro_preV hK hPc hP (ci := 1) (q0 := 1) rfl rfl) rfl rfl hl.1 rfl (lv_room (Nat.le_of_ble_eq_true rfl)) dX3_tells_56 ⟨Nat.zero_le _, Nat.zero_le _⟩) (fun r_4 hr_4 => ?_)
          exact ro_iret hx hb hr hlk dX3_tells_59 (by first | exact ⟨fun _ => rfl, fun h9 => absurd c_37 h9⟩ | exact ⟨fun h9 => absurd h9 c_37, fun _ => by assumption⟩)
        · skip
          refine lv_aload_n hx hb dX3_tells_40 rfl (lv_at hl 0 rfl) ?_
          refine lz_get (G := G) (ci := 3) (v := .ref (q 6)) (C := RX3) (T := TX3) (N := 13) hx hb hu_wsX30 (fun _ h9 => h9) hown hK hP 0 rfl rfl 6 (by decide) hw1 rfl rfl dX3_tells_41 ?_
          refine lv_iload_n hx hb dX3_tells_44 rfl (lv_at hl 1 rfl) ?_
          have hPc := hP.sub (ws' := lzDoor G (q 6) qh D F) [1, 2, 3, 4, 5, 6, 7, 8, 9, 10, 11] rfl
          refine ro_calli (va_runV (As := [.int set]) (rest := []) ⟨hx, hb, hml, hown, hts⟩ (c_X1_pairsToldApart l G (q 6) qh D F set N M (hN) (hN8) (hM) (hM5)) (cwV 1 hts gX3_tells_X1_pairsToldApart rfl rfl rfl (by decide +kernel) ⟨Nat.le_of_ble_eq_true rfl, Nat.le_of_ble_eq_true rfl⟩) (ro_preV hK hPc hP (ci := 1) (q0 := 1) rfl rfl) rfl rfl hl.1 rfl (lv_room (Nat.le_of_ble_eq_true rfl)) dX3_tells_45 ⟨Nat.zero_le _, Nat.zero_le _⟩) (fun r_5 hr_5 => ?_)
          refine lz_top (y := sumI (rowI (fun v w => !alikeD F v w set N) M) M) hr_5 ?_
          refine lv_goto (tgt := 59) hx hb dX3_tells_48 (by decide) ?_
          exact ro_iret hx hb hr hlk dX3_tells_59 (by first | exact ⟨fun _ => rfl, fun h9 => absurd c_37 h9⟩ | exact ⟨fun h9 => absurd h9 c_37, fun _ => by assumption⟩)
      · skip
        have c_30 := b2_z hr_3 c_30
        exact Bool.noConfusion (hw.symm.trans c_30)
  · skip
    have c_7 := b2_z hr_1 c_7
    exact Bool.noConfusion (hR.symm.trans c_7)
set_option maxHeartbeats 4000000 in
set_option maxRecDepth 100000 in
theorem c_X3_trace_bad (l : Launch) (G : lzG) (x : Nat) (q : Nat → Nat) (S : Nat → Int32) (t : Nat → Int32) (i : Int32) (hbad : inR i 0 (S 11 - 1) = false) : Met l yX3_trace wsX3_trace ({ frames := 1, cells := 0, slots := 0, locals := 22 }) (va_Pc [.ref x, .int i] (roP G (lzX x q S ++ lzI G (q 10) 16 t))) (vp_Si (fun r => r = -1000000)) 0 0 (fun _ => False) := by
  refine ro_start (cc := cX3_trace) (maxL := 2) (ret := (some .int)) (by decide) rfl (Nat.le_of_ble_eq_true rfl) ?_
  intro pp ee ss mm bl me cd hx hb hr hlk hml hts hown hP hK ls hl
  have hown : ss.vm.findClass RX3 = some mm.cls := hown
  have hw1 := hts (.fieldLink RX3 59 "LampSquares" "tracedCount" "I") (List.mem_of_getElem? (i := 1) rfl)
  have hw3 := hts (.constant RX3 66 (-1000000)) (List.mem_of_getElem? (i := 3) rfl)
  have hu_wsX30 : ∀ w ∈ wsX30, w.before ([.ref x, .int i] : List Value).toArray ss = true := fun w h9 => hts w (List.mem_cons_of_mem _ (List.mem_append_right _ h9))
  have hl : lv_has ls 2 [(0, .ref x), (1, .int i)] := hl
  refine lv_iload_n hx hb dX3_trace_0 rfl (lv_at hl 1 rfl) ?_
  refine lv_iconst (v := 0) hx hb dX3_trace_1 (by decide) ?_
  refine lv_aload_n hx hb dX3_trace_2 rfl (lv_at hl 0 rfl) ?_
  refine lz_get (G := G) (ci := 3) (v := .int (S 11)) (C := RX3) (T := TX3) (N := 13) hx hb hu_wsX30 (fun _ h9 => h9) hown hK hP 0 rfl rfl 11 (by decide) hw1 rfl rfl dX3_trace_3 ?_
  refine lv_iconst (v := 1) hx hb dX3_trace_6 (by decide) ?_
  refine lv_isub hx hb dX3_trace_7 ?_
  refine ro_calli (va_runS (As := [.int i, .int 0, .int ((S 11) - 1)]) (rest := []) ⟨hx, hb, hml, hown, hts⟩ (c_X3_isIn l G i 0 ((S 11) - 1) ) (cwS 3 hts gX3_trace_X3_isIn rfl rfl rfl (by decide +kernel) ⟨Nat.le_of_ble_eq_true rfl, Nat.le_of_ble_eq_true rfl⟩) (ro_pre hK (fun k q h => by simp at h)) rfl rfl hl.1 rfl (lv_room (Nat.le_of_ble_eq_true rfl)) dX3_trace_8 ⟨Nat.zero_le _, Nat.zero_le _⟩) (fun r_1 hr_1 => ?_)
  refine lv_if_eq (tgt := 23) hx hb dX3_trace_11 (by decide) (fun c_11 => ?_) (fun c_11 => ?_)
  · skip
    have c_11 := b2_z hr_1 c_11
    refine lv_ldc hx hb hown hw3 dX3_trace_23 ?_
    exact ro_iret hx hb hr hlk dX3_trace_25 (rfl)
  · skip
    have c_11 := b2_n hr_1 c_11
    exact Bool.noConfusion (hbad.symm.trans c_11)
set_option maxHeartbeats 4000000 in
set_option maxRecDepth 100000 in
theorem c_X3_trace_ok (l : Launch) (G : lzG) (x : Nat) (q : Nat → Nat) (S : Nat → Int32) (t : Nat → Int32) (i T : Nat) (hT : S 11 = nI T) (hT16 : T ≤ 16) (hi : i < T) : Met l yX3_trace wsX3_trace ({ frames := 1, cells := 0, slots := 0, locals := 22 }) (va_Pc [.ref x, .int (nI i)] (roP G (lzX x q S ++ lzI G (q 10) 16 t))) (vp_Si (fun r => r = t i)) 0 0 (fun _ => False) := by
  have hA : inR (nI i) 0 (S 11 - 1) = true := inR_ok hT hi (by omega)
  refine ro_start (cc := cX3_trace) (maxL := 2) (ret := (some .int)) (by decide) rfl (Nat.le_of_ble_eq_true rfl) ?_
  intro pp ee ss mm bl me cd hx hb hr hlk hml hts hown hP hK ls hl
  have hown : ss.vm.findClass RX3 = some mm.cls := hown
  have hw1 := hts (.fieldLink RX3 59 "LampSquares" "tracedCount" "I") (List.mem_of_getElem? (i := 1) rfl)
  have hw2 := hts (.fieldLink RX3 56 "LampSquares" "traced" "[I") (List.mem_of_getElem? (i := 2) rfl)
  have hu_wsX30 : ∀ w ∈ wsX30, w.before ([.ref x, .int (nI i)] : List Value).toArray ss = true := fun w h9 => hts w (List.mem_cons_of_mem _ (List.mem_append_right _ h9))
  have hl : lv_has ls 2 [(0, .ref x), (1, .int (nI i))] := hl
  refine lv_iload_n hx hb dX3_trace_0 rfl (lv_at hl 1 rfl) ?_
  refine lv_iconst (v := 0) hx hb dX3_trace_1 (by decide) ?_
  refine lv_aload_n hx hb dX3_trace_2 rfl (lv_at hl 0 rfl) ?_
  refine lz_get (G := G) (ci := 3) (v := .int (S 11)) (C := RX3) (T := TX3) (N := 13) hx hb hu_wsX30 (fun _ h9 => h9) hown hK hP 0 rfl rfl 11 (by decide) hw1 rfl rfl dX3_trace_3 ?_
  refine lv_iconst (v := 1) hx hb dX3_trace_6 (by decide) ?_
  refine lv_isub hx hb dX3_trace_7 ?_
  refine ro_calli (va_runS (As := [.int (nI i), .int 0, .int ((S 11) - 1)]) (rest := []) ⟨hx, hb, hml, hown, hts⟩ (c_X3_isIn l G (nI i) 0 ((S 11) - 1) ) (cwS 3 hts gX3_trace_X3_isIn rfl rfl rfl (by decide +kernel) ⟨Nat.le_of_ble_eq_true rfl, Nat.le_of_ble_eq_true rfl⟩) (ro_pre hK (fun k q h => by simp at h)) rfl rfl hl.1 rfl (lv_room (Nat.le_of_ble_eq_true rfl)) dX3_trace_8 ⟨Nat.zero_le _, Nat.zero_le _⟩) (fun r_1 hr_1 => ?_)
  refine lv_if_eq (tgt := 23) hx hb dX3_trace_11 (by decide) (fun c_11 => ?_) (fun c_11 => ?_)
  · skip
    have c_11 := b2_z hr_1 c_11
    exact Bool.noConfusion (hA.symm.trans c_11)
  · skip
    have c_11 := b2_n hr_1 c_11
    refine lv_aload_n hx hb dX3_trace_14 rfl (lv_at hl 0 rfl) ?_
    refine lz_get (G := G) (ci := 3) (v := .ref (q 10)) (C := RX3) (T := TX3) (N := 13) hx hb hu_wsX30 (fun _ h9 => h9) hown hK hP 0 rfl rfl 10 (by decide) hw2 rfl rfl dX3_trace_15 ?_
    refine lv_iload_n hx hb dX3_trace_18 rfl (lv_at hl 1 rfl) ?_
    refine lz_iald (f := t) hx hb hK hP 1 rfl i (by omega) (Nat.le_of_ble_eq_true rfl) dX3_trace_19 ?_
    refine lv_goto (tgt := 25) hx hb dX3_trace_20 (by decide) ?_
    exact ro_iret hx hb hr hlk dX3_trace_25 (rfl)
set_option maxHeartbeats 4000000 in
set_option maxRecDepth 100000 in
theorem c_X3_as_bad (l : Launch) (G : lzG) (x : Nat) (q : Nat → Nat) (S : Nat → Int32) (qh : Nat → Nat) (D : Nat → Int32) (F : Nat → Nat → Int32) (a k : Int32) (hbad : (inR a 0 (D 2 - 1) && inR k 0 5) = false) : Met l yX3_as wsX3_as ({ frames := 2, cells := 0, slots := 0, locals := 43 }) (va_Pc [.ref x, .int a, .int k] (roP G (lzX x q S ++ lzDoor G (q 6) qh D F))) (vp_Si (fun r => r = -1000001)) 0 0 (fun _ => False) := by
  refine ro_start (cc := cX3_as) (maxL := 3) (ret := (some .int)) (by decide) rfl (Nat.le_of_ble_eq_true rfl) ?_
  intro pp ee ss mm bl me cd hx hb hr hlk hml hts hown hP hK ls hl
  have hown : ss.vm.findClass RX3 = some mm.cls := hown
  have hw1 := hts (.fieldLink RX3 38 "LampSquares" "here" "LLampSquares$Door;") (List.mem_of_getElem? (i := 1) rfl)
  have hw2 := hts (.constant RX3 81 (-1000001)) (List.mem_of_getElem? (i := 2) rfl)
  have hu_wsX30 : ∀ w ∈ wsX30, w.before ([.ref x, .int a, .int k] : List Value).toArray ss = true := fun w h9 => hts w (List.mem_cons_of_mem _ (List.mem_append_left _ (List.mem_append_right _ h9)))
  have hl : lv_has ls 3 [(0, .ref x), (1, .int a), (2, .int k)] := hl
  refine lv_aload_n hx hb dX3_as_0 rfl (lv_at hl 0 rfl) ?_
  refine lz_get (G := G) (ci := 3) (v := .ref (q 6)) (C := RX3) (T := TX3) (N := 13) hx hb hu_wsX30 (fun _ h9 => h9) hown hK hP 0 rfl rfl 6 (by decide) hw1 rfl rfl dX3_as_1 ?_
  refine lv_iload_n hx hb dX3_as_4 rfl (lv_at hl 1 rfl) ?_
  have hPc := hP.sub (ws' := lzDoor G (q 6) qh D F) [1, 2, 3, 4, 5, 6, 7, 8, 9, 10, 11] rfl
  refine ro_calli (va_runV (As := [.int a]) (rest := []) ⟨hx, hb, hml, hown, hts⟩ (c_X1_isSquare l G (q 6) qh D F a ) (cwV 1 hts gX3_as_X1_isSquare rfl rfl rfl (by decide +kernel) ⟨Nat.le_of_ble_eq_true rfl, Nat.le_of_ble_eq_true rfl⟩) (ro_preV hK hPc hP (ci := 1) (q0 := 1) rfl rfl) rfl rfl hl.1 rfl (lv_room (Nat.le_of_ble_eq_true rfl)) dX3_as_5 ⟨Nat.zero_le _, Nat.zero_le _⟩) (fun r_1 hr_1 => ?_)
  refine lv_if_eq (tgt := 20) hx hb dX3_as_8 (by decide) (fun c_8 => ?_) (fun c_8 => ?_)
  · skip
    have c_8 := b2_z hr_1 c_8
    refine lv_ldc hx hb hown hw2 dX3_as_20 ?_
    exact ro_iret hx hb hr hlk dX3_as_22 (rfl)
  · skip
    have c_8 := b2_n hr_1 c_8
    refine lv_iload_n hx hb dX3_as_11 rfl (lv_at hl 2 rfl) ?_
    refine lv_iconst (v := 0) hx hb dX3_as_12 (by decide) ?_
    refine lv_iconst (v := 5) hx hb dX3_as_13 (by decide) ?_
    refine ro_calli (va_runS (As := [.int k, .int 0, .int 5]) (rest := []) ⟨hx, hb, hml, hown, hts⟩ (c_X3_isIn l G k 0 5 ) (cwS 3 hts gX3_as_X3_isIn rfl rfl rfl (by decide +kernel) ⟨Nat.le_of_ble_eq_true rfl, Nat.le_of_ble_eq_true rfl⟩) (ro_pre hK (fun k q h => by simp at h)) rfl rfl hl.1 rfl (lv_room (Nat.le_of_ble_eq_true rfl)) dX3_as_14 ⟨Nat.zero_le _, Nat.zero_le _⟩) (fun r_2 hr_2 => ?_)
    refine lv_if_ne (tgt := 23) hx hb dX3_as_17 (by decide) (fun c_17 => ?_) (fun c_17 => ?_)
    · skip
      have c_17 := b2_n hr_2 c_17
      exact Bool.noConfusion (hbad.symm.trans (by rw [c_8, c_17] <;> rfl))
    · skip
      have c_17 := b2_z hr_2 c_17
      refine lv_ldc hx hb hown hw2 dX3_as_20 ?_
      exact ro_iret hx hb hr hlk dX3_as_22 (rfl)
set_option maxHeartbeats 4000000 in
set_option maxRecDepth 100000 in
theorem c_X3_as_ok (l : Launch) (G : lzG) (x : Nat) (q : Nat → Nat) (S : Nat → Int32) (qh : Nat → Nat) (D : Nat → Int32) (F : Nat → Nat → Int32) (s N : Nat) (k : Int32) (hN : D 2 = nI N) (hN8 : N ≤ 8) (hs : s < N) (hk : inR k 0 5 = true) : Met l yX3_as wsX3_as ({ frames := 2, cells := 0, slots := 0, locals := 43 }) (va_Pc [.ref x, .int (nI s), .int k] (rwP G (lzX x q S ++ lzDoor G (q 6) qh D F))) (va_Qi (S := Unit) (fun (r : Int32) (_ : Unit) => r = if ofK (F 4 s) k = true then nI s else -1000013) (rwB G (fun _ : Unit => (lzX x q (upd S 3 (if ofK (F 4 s) k = true then 0 else 3)) ++ lzDoor G (q 6) qh D F))) (lzA (lzX x q S ++ lzDoor G (q 6) qh D F))) 0 0 (lzA (lzX x q S ++ lzDoor G (q 6) qh D F)) := by
  have hB : inR (nI s) 0 (D 2 - 1) = true := inR_ok hN hs (by omega)
  refine rw_start (S := Unit) (cc := cX3_as) (maxL := 3) (ret := (some .int)) (by decide) rfl (Nat.le_of_ble_eq_true rfl) ?_
  intro pp ee ss mm bl me cd A hx hb hr hlk hml hts hown hP hK hD hAe hS ls hl
  have hA0 : ∀ zz : Nat, lzA (lzX x q S ++ lzDoor G (q 6) qh D F) zz → A zz := fun zz h9 => by rw [hAe]; exact h9
  rw [← hAe]
  clear hAe
  have hown : ss.vm.findClass RX3 = some mm.cls := hown
  have hw1 := hts (.fieldLink RX3 38 "LampSquares" "here" "LLampSquares$Door;") (List.mem_of_getElem? (i := 1) rfl)
  have hw3 := hts (.fieldLink RX3 197 "LampSquares$Door" "kindOf" "[I") (List.mem_of_getElem? (i := 3) rfl)
  have hw4 := hts (.fieldLink RX3 21 "LampSquares" "finding" "I") (List.mem_of_getElem? (i := 4) rfl)
  have hu_wsX10 : ∀ w ∈ wsX10, w.before ([.ref x, .int (nI s), .int k] : List Value).toArray ss = true := fun w h9 => hts w (List.mem_cons_of_mem _ (List.mem_append_right _ h9))
  have hu_wsX30 : ∀ w ∈ wsX30, w.before ([.ref x, .int (nI s), .int k] : List Value).toArray ss = true := fun w h9 => hts w (List.mem_cons_of_mem _ (List.mem_append_left _ (List.mem_append_right _ h9)))
  have hl : lv_has ls 3 [(0, .ref x), (1, .int (nI s)), (2, .int k)] := hl
  refine lv_aload_n hx hb dX3_as_0 rfl (lv_at hl 0 rfl) ?_
  refine lz_get (G := G) (ci := 3) (v := .ref (q 6)) (C := RX3) (T := TX3) (N := 13) hx hb hu_wsX30 (fun _ h9 => h9) hown hK hP 0 rfl rfl 6 (by decide) hw1 rfl rfl dX3_as_1 ?_
  refine lv_iload_n hx hb dX3_as_4 rfl (lv_at hl 1 rfl) ?_
  have hPc := hP.sub (ws' := lzDoor G (q 6) qh D F) [1, 2, 3, 4, 5, 6, 7, 8, 9, 10, 11] rfl
  refine ro_calli (va_runV (As := [.int (nI s)]) (rest := []) ⟨hx, hb, hml, hown, hts⟩ (c_X1_isSquare l G (q 6) qh D F (nI s) ) (cwV 1 hts gX3_as_X1_isSquare rfl rfl rfl (by decide +kernel) ⟨Nat.le_of_ble_eq_true rfl, Nat.le_of_ble_eq_true rfl⟩) (ro_preV hK hPc hP (ci := 1) (q0 := 1) rfl rfl) rfl rfl hl.1 rfl (lv_room (Nat.le_of_ble_eq_true rfl)) dX3_as_5 ⟨Nat.zero_le _, Nat.zero_le _⟩) (fun r_1 hr_1 => ?_)
  refine lv_if_eq (tgt := 20) hx hb dX3_as_8 (by decide) (fun c_8 => ?_) (fun c_8 => ?_)
  · skip
    have c_8 := b2_z hr_1 c_8
    exact Bool.noConfusion (hB.symm.trans c_8)
  · skip
    have c_8 := b2_n hr_1 c_8
    refine lv_iload_n hx hb dX3_as_11 rfl (lv_at hl 2 rfl) ?_
    refine lv_iconst (v := 0) hx hb dX3_as_12 (by decide) ?_
    refine lv_iconst (v := 5) hx hb dX3_as_13 (by decide) ?_
    refine ro_calli (va_runS (As := [.int k, .int 0, .int 5]) (rest := []) ⟨hx, hb, hml, hown, hts⟩ (c_X3_isIn l G k 0 5 ) (cwS 3 hts gX3_as_X3_isIn rfl rfl rfl (by decide +kernel) ⟨Nat.le_of_ble_eq_true rfl, Nat.le_of_ble_eq_true rfl⟩) (ro_pre hK (fun k q h => by simp at h)) rfl rfl hl.1 rfl (lv_room (Nat.le_of_ble_eq_true rfl)) dX3_as_14 ⟨Nat.zero_le _, Nat.zero_le _⟩) (fun r_2 hr_2 => ?_)
    refine lv_if_ne (tgt := 23) hx hb dX3_as_17 (by decide) (fun c_17 => ?_) (fun c_17 => ?_)
    · skip
      have c_17 := b2_n hr_2 c_17
      refine lv_aload_n hx hb dX3_as_23 rfl (lv_at hl 0 rfl) ?_
      refine lz_get (G := G) (ci := 3) (v := .ref (q 6)) (C := RX3) (T := TX3) (N := 13) hx hb hu_wsX30 (fun _ h9 => h9) hown hK hP 0 rfl rfl 6 (by decide) hw1 rfl rfl dX3_as_24 ?_
      refine lz_get (G := G) (ci := 1) (v := .ref (qh 4)) (C := RX1) (T := TX1) (N := 14) hx hb hu_wsX10 (fun _ h9 => h9) hown hK hP 1 rfl rfl 4 (by decide) hw3 rfl rfl dX3_as_27 ?_
      refine lv_iload_n hx hb dX3_as_30 rfl (lv_at hl 1 rfl) ?_
      refine lz_iald (f := F 4) hx hb hK hP 2 rfl s (by omega) (Nat.le_of_ble_eq_true rfl) dX3_as_31 ?_
      refine lv_iload_n hx hb dX3_as_32 rfl (lv_at hl 2 rfl) ?_
      refine ro_calli (va_runS (As := [.int ((F 4) s), .int k]) (rest := []) ⟨hx, hb, hml, hown, hts⟩ (c_X3_isOfKind l G ((F 4) s) k ) (cwS 2 hts gX3_as_X3_isOfKind rfl rfl rfl (by decide +kernel) ⟨Nat.le_of_ble_eq_true rfl, Nat.le_of_ble_eq_true rfl⟩) (ro_pre hK (fun k q h => by simp at h)) rfl rfl hl.1 rfl (lv_room (Nat.le_of_ble_eq_true rfl)) dX3_as_33 ⟨Nat.zero_le _, Nat.zero_le _⟩) (fun r_3 hr_3 => ?_)
      refine lv_if_ne (tgt := 45) hx hb dX3_as_36 (by decide) (fun c_36 => ?_) (fun c_36 => ?_)
      · skip
        have c_36 := b2_n hr_3 c_36
        refine lv_aload_n hx hb dX3_as_45 rfl (lv_at hl 0 rfl) ?_
        refine lv_iconst (v := 0) hx hb dX3_as_46 (by decide) ?_
        refine lz_put (G := G) (ci := 3) (C := RX3) (T := TX3) (N := 13) hx hb hu_wsX30 (fun _ h9 => h9) tyX3 tyX3_ok nmX3 hown hK hP hD hS 0 rfl rfl 3 (by decide) hw4 rfl rfl (by decide +kernel) (Nat.le_of_ble_eq_true rfl) dX3_as_47 (lzX x q (upd S 3 0) ++ lzDoor G (q 6) qh D F) rfl (fun H locs hP hD hS => ?_)
        refine lv_iload_n hx hb dX3_as_50 rfl (lv_at hl 1 rfl) ?_
        exact rw_iret (S := Unit) (G := G) (Wd := fun _ : Unit => (lzX x q (upd S 3 (if ofK (F 4 s) k = true then 0 else 3)) ++ lzDoor G (q 6) qh D F)) () hx hb hr hlk dX3_as_51 hS (by show va_P G.1 lzC (lzX x q (upd S 3 (if ofK (F 4 s) k = true then 0 else 3)) ++ lzDoor G (q 6) qh D F) _; first | (rw [if_pos c_36]; exact hP) | (rw [if_neg (by rw [c_36]; decide)]; exact hP)) (by first | rw [if_pos c_36] | (rw [if_neg (by rw [c_36]; decide)]; rfl))
      · skip
        have c_36 := b2_z hr_3 c_36
        refine lv_aload_n hx hb dX3_as_39 rfl (lv_at hl 0 rfl) ?_
        refine lv_iconst (v := 3) hx hb dX3_as_40 (by decide) ?_
        have hPc := hP.sub (ws' := lzX x q S) [0] rfl
        have hDc := hD.sub (ws' := lzX x q S) [0] (by decide) rfl
        have hFc : ∀ zz : Nat, lzA (lzX x q S) zz → A zz := lz_free hD [0] rfl
        refine va_calli (va_runV (As := [.int 3]) (rest := []) ⟨hx, hb, hml, hown, hts⟩ (c_X3_found l G x q S 3 ) (cwV 1 hts gX3_as_X3_found rfl rfl rfl (by decide +kernel) ⟨Nat.le_of_ble_eq_true rfl, Nat.le_of_ble_eq_true rfl⟩) (rw_preV hK hPc hDc hP (ci := 3) (q0 := 0) rfl rfl) rfl rfl hl.1 rfl (lv_room (Nat.le_of_ble_eq_true rfl)) dX3_as_41 ⟨Nat.zero_le _, Nat.zero_le _⟩) hS (fun q _ h => hFc q h) hFc (fun r_4 u_5 t9 H1 locs ht hvm hr_4 hB hz1 hk1 hS => ?_)
        replace hB : va_P G.1 lzC _ t9.heap := hB
        rw [ht] at hB
        obtain ⟨hP, hD⟩ := lz_join (wc := lzX x q S) (wr := ([(q 6, .inr (1, [.int (D 0), .int (D 1), .int (D 2), .int (D 3), .ref (qh 4), .ref (qh 5), .ref (qh 6), .ref (qh 7), .ref (qh 8), .ref (qh 9), .ref (qh 10), .ref (qh 11), .ref (qh 12), .ref (qh 13)])), (qh 4, .inl (G.2 0, 8, .inl (F 4))), (qh 5, .inl (G.2 0, 8, .inl (F 5))), (qh 6, .inl (G.2 0, 8, .inl (F 6))), (qh 7, .inl (G.2 0, 8, .inl (F 7))), (qh 8, .inl (G.2 0, 8, .inl (F 8))), (qh 9, .inl (G.2 0, 5, .inl (F 9))), (qh 10, .inl (G.2 0, 5, .inl (F 10))), (qh 11, .inl (G.2 0, 5, .inl (F 11))), (qh 12, .inl (G.2 0, 5, .inl (F 12))), (qh 13, .inl (G.2 0, 5, .inl (F 13)))] : va_W)) (w1 := lzX x q (upd S 3 3)) hP hD [0] [1, 2, 3, 4, 5, 6, 7, 8, 9, 10, 11] rfl rfl (by decide) (by decide) rfl hk1 hB
        replace hP := hP.sub (ws' := (lzX x q (upd S 3 3) ++ lzDoor G (q 6) qh D F)) [11, 0, 1, 2, 3, 4, 5, 6, 7, 8, 9, 10] rfl
        replace hD := hD.sub (ws' := (lzX x q (upd S 3 3) ++ lzDoor G (q 6) qh D F)) [11, 0, 1, 2, 3, 4, 5, 6, 7, 8, 9, 10] (by decide) rfl
        clear ht hvm hB hz1 hk1
        generalize H1 = H at hP hS ⊢
        refine lz_top (y := -1000010 - 3) hr_4 ?_
        exact rw_iret (S := Unit) (G := G) (Wd := fun _ : Unit => (lzX x q (upd S 3 (if ofK (F 4 s) k = true then 0 else 3)) ++ lzDoor G (q 6) qh D F)) () hx hb hr hlk dX3_as_44 hS (by show va_P G.1 lzC (lzX x q (upd S 3 (if ofK (F 4 s) k = true then 0 else 3)) ++ lzDoor G (q 6) qh D F) _; first | (rw [if_pos c_36]; exact hP) | (rw [if_neg (by rw [c_36]; decide)]; exact hP)) (by first | rw [if_pos c_36] | (rw [if_neg (by rw [c_36]; decide)]; rfl))
    · skip
      have c_17 := b2_z hr_2 c_17
      exact Bool.noConfusion (hk.symm.trans c_17)
set_option maxHeartbeats 4000000 in
set_option maxRecDepth 100000 in
theorem c_X3_feed_bad (l : Launch) (G : lzG) (x : Nat) (q : Nat → Nat) (S : Nat → Int32) (qt : Nat → Nat) (U : Nat → Int32) (tb : Nat → Int32) (c : Int32) (hbad : inR c 0 255 = false) : Met l yX3_feed wsX3_feed ({ frames := 1, cells := 0, slots := 0, locals := 22 }) (va_Pc [.ref x, .int c] (roP G (lzX x q S ++ (lzTp (q 4) qt U ++ (lzI G (qt 0) 120 tb))))) (vp_Si (fun r => r = -1000001)) 0 0 (fun _ => False) := by
  refine ro_start (cc := cX3_feed) (maxL := 2) (ret := (some .int)) (by decide) rfl (Nat.le_of_ble_eq_true rfl) ?_
  intro pp ee ss mm bl me cd hx hb hr hlk hml hts hown hP hK ls hl
  have hown : ss.vm.findClass RX3 = some mm.cls := hown
  have hw1 := hts (.constant RX3 81 (-1000001)) (List.mem_of_getElem? (i := 1) rfl)
  have hl : lv_has ls 2 [(0, .ref x), (1, .int c)] := hl
  refine lv_iload_n hx hb dX3_feed_0 rfl (lv_at hl 1 rfl) ?_
  refine lv_iconst (v := 0) hx hb dX3_feed_1 (by decide) ?_
  refine lv_sipush (v := 255) hx hb dX3_feed_2 (by decide) ?_
  refine ro_calli (va_runS (As := [.int c, .int 0, .int 255]) (rest := []) ⟨hx, hb, hml, hown, hts⟩ (c_X3_isIn l G c 0 255 ) (cwS 3 hts gX3_feed_X3_isIn rfl rfl rfl (by decide +kernel) ⟨Nat.le_of_ble_eq_true rfl, Nat.le_of_ble_eq_true rfl⟩) (ro_pre hK (fun k q h => by simp at h)) rfl rfl hl.1 rfl (lv_room (Nat.le_of_ble_eq_true rfl)) dX3_feed_5 ⟨Nat.zero_le _, Nat.zero_le _⟩) (fun r_1 hr_1 => ?_)
  refine lv_if_ne (tgt := 14) hx hb dX3_feed_8 (by decide) (fun c_8 => ?_) (fun c_8 => ?_)
  · skip
    have c_8 := b2_n hr_1 c_8
    exact Bool.noConfusion (hbad.symm.trans c_8)
  · skip
    have c_8 := b2_z hr_1 c_8
    refine lv_ldc hx hb hown hw1 dX3_feed_11 ?_
    exact ro_iret hx hb hr hlk dX3_feed_13 (rfl)
set_option maxHeartbeats 4000000 in
set_option maxRecDepth 100000 in
theorem c_X3_feed_ok (l : Launch) (G : lzG) (x : Nat) (q : Nat → Nat) (S : Nat → Int32) (qt : Nat → Nat) (U : Nat → Int32) (tb : Nat → Int32) (c : Int32) (L : Nat) (hc : inR c 0 255 = true) (hL : U 1 = nI L) (hL1 : L ≤ 120) : Met l yX3_feed wsX3_feed ({ frames := 1, cells := 0, slots := 0, locals := 22 }) (va_Pc [.ref x, .int c] (rwP G (lzX x q S ++ (lzTp (q 4) qt U ++ (lzI G (qt 0) 120 tb))))) (va_Qi (S := Unit) (fun (r : Int32) (_ : Unit) => r = if L < 120 then nI (L + 1) else -1000003) (rwB G (fun _ : Unit => (lzX x q S ++ (lzTp (q 4) qt (upd U 1 (if L < 120 then nI (L + 1) else U 1)) ++ (lzI G (qt 0) 120 (if L < 120 then upd tb L c else tb)))))) (lzA (lzX x q S ++ (lzTp (q 4) qt U ++ (lzI G (qt 0) 120 tb))))) 0 0 (lzA (lzX x q S ++ (lzTp (q 4) qt U ++ (lzI G (qt 0) 120 tb)))) := by
  refine rw_start (S := Unit) (cc := cX3_feed) (maxL := 2) (ret := (some .int)) (by decide) rfl (Nat.le_of_ble_eq_true rfl) ?_
  intro pp ee ss mm bl me cd A hx hb hr hlk hml hts hown hP hK hD hAe hS ls hl
  have hA0 : ∀ zz : Nat, lzA (lzX x q S ++ (lzTp (q 4) qt U ++ (lzI G (qt 0) 120 tb))) zz → A zz := fun zz h9 => by rw [hAe]; exact h9
  rw [← hAe]
  clear hAe
  have hown : ss.vm.findClass RX3 = some mm.cls := hown
  have hw2 := hts (.fieldLink RX3 28 "LampSquares" "tape" "LLampSquares$Tape;") (List.mem_of_getElem? (i := 2) rfl)
  have hw3 := hts (.fieldLink RX3 109 "LampSquares$Tape" "length" "I") (List.mem_of_getElem? (i := 3) rfl)
  have hw4 := hts (.constant RX3 112 (-1000003)) (List.mem_of_getElem? (i := 4) rfl)
  have hu_wsX20 : ∀ w ∈ wsX20, w.before ([.ref x, .int c] : List Value).toArray ss = true := fun w h9 => hts w (List.mem_cons_of_mem _ (List.mem_append_right _ h9))
  have hu_wsX30 : ∀ w ∈ wsX30, w.before ([.ref x, .int c] : List Value).toArray ss = true := fun w h9 => hts w (List.mem_cons_of_mem _ (List.mem_append_left _ (List.mem_append_right _ h9)))
  have hl : lv_has ls 2 [(0, .ref x), (1, .int c)] := hl
  refine lv_iload_n hx hb dX3_feed_0 rfl (lv_at hl 1 rfl) ?_
  refine lv_iconst (v := 0) hx hb dX3_feed_1 (by decide) ?_
  refine lv_sipush (v := 255) hx hb dX3_feed_2 (by decide) ?_
  refine ro_calli (va_runS (As := [.int c, .int 0, .int 255]) (rest := []) ⟨hx, hb, hml, hown, hts⟩ (c_X3_isIn l G c 0 255 ) (cwS 3 hts gX3_feed_X3_isIn rfl rfl rfl (by decide +kernel) ⟨Nat.le_of_ble_eq_true rfl, Nat.le_of_ble_eq_true rfl⟩) (ro_pre hK (fun k q h => by simp at h)) rfl rfl hl.1 rfl (lv_room (Nat.le_of_ble_eq_true rfl)) dX3_feed_5 ⟨Nat.zero_le _, Nat.zero_le _⟩) (fun r_1 hr_1 => ?_)
  refine lv_if_ne (tgt := 14) hx hb dX3_feed_8 (by decide) (fun c_8 => ?_) (fun c_8 => ?_)
  · skip
    have c_8 := b2_n hr_1 c_8
    refine lv_aload_n hx hb dX3_feed_14 rfl (lv_at hl 0 rfl) ?_
    refine lz_get (G := G) (ci := 3) (v := .ref (q 4)) (C := RX3) (T := TX3) (N := 13) hx hb hu_wsX30 (fun _ h9 => h9) hown hK hP 0 rfl rfl 4 (by decide) hw2 rfl rfl dX3_feed_15 ?_
    refine lv_iload_n hx hb dX3_feed_18 rfl (lv_at hl 1 rfl) ?_
    have hPc := hP.sub (ws' := (lzTp (q 4) qt U ++ lzI G (qt 0) 120 tb)) [1, 2] rfl
    have hDc := hD.sub (ws' := (lzTp (q 4) qt U ++ lzI G (qt 0) 120 tb)) [1, 2] (by decide) rfl
    have hFc : ∀ zz : Nat, lzA (lzTp (q 4) qt U ++ lzI G (qt 0) 120 tb) zz → A zz := lz_free hD [1, 2] rfl
    refine va_calli (va_runV (As := [.int c]) (rest := []) ⟨hx, hb, hml, hown, hts⟩ (c_X2_add l G (q 4) qt U tb L c (hL) (hL1)) (cwV 1 hts gX3_feed_X2_add rfl rfl rfl (by decide +kernel) ⟨Nat.le_of_ble_eq_true rfl, Nat.le_of_ble_eq_true rfl⟩) (rw_preV hK hPc hDc hP (ci := 2) (q0 := 1) rfl rfl) rfl rfl hl.1 rfl (lv_room (Nat.le_of_ble_eq_true rfl)) dX3_feed_19 ⟨Nat.zero_le _, Nat.zero_le _⟩) hS (fun q _ h => hFc q h) hFc (fun r_2 u_3 t9 H1 locs ht hvm hr_2 hB hz1 hk1 hS => ?_)
    replace hB : va_P G.1 lzC _ t9.heap := hB
    rw [ht] at hB
    obtain ⟨hP, hD⟩ := lz_join (wc := (lzTp (q 4) qt U ++ lzI G (qt 0) 120 tb)) (wr := ([(x, .inr (3, [.ref (q 0), .ref (q 1), .ref (q 2), .int (S 3), .ref (q 4), .int (S 5), .ref (q 6), .ref (q 7), .ref (q 8), .ref (q 9), .ref (q 10), .int (S 11), .ref (q 12)]))] : va_W)) (w1 := (lzTp (q 4) qt (upd U 1 (if L < 120 then nI (L + 1) else (U 1))) ++ lzI G (qt 0) 120 (if L < 120 then upd tb L c else tb))) hP hD [1, 2] [0] rfl rfl (by decide) (by decide) rfl hk1 hB
    replace hP := hP.sub (ws' := (lzX x q S ++ (lzTp (q 4) qt (upd U 1 (if L < 120 then nI (L + 1) else (U 1))) ++ (lzI G (qt 0) 120 (if L < 120 then upd tb L c else tb))))) [0, 1, 2] rfl
    replace hD := hD.sub (ws' := (lzX x q S ++ (lzTp (q 4) qt (upd U 1 (if L < 120 then nI (L + 1) else (U 1))) ++ (lzI G (qt 0) 120 (if L < 120 then upd tb L c else tb))))) [0, 1, 2] (by decide) rfl
    clear ht hvm hB hz1 hk1
    generalize H1 = H at hP hS ⊢
    refine lv_if_eq (tgt := 35) hx hb dX3_feed_22 (by decide) (fun c_22 => ?_) (fun c_22 => ?_)
    · skip
      have c_22 := b2_z hr_2 c_22
      refine lv_ldc hx hb hown hw4 dX3_feed_35 ?_
      exact rw_iret (S := Unit) (G := G) (Wd := fun _ : Unit => (lzX x q S ++ (lzTp (q 4) qt (upd U 1 (if L < 120 then nI (L + 1) else U 1)) ++ (lzI G (qt 0) 120 (if L < 120 then upd tb L c else tb))))) () hx hb hr hlk dX3_feed_37 hS (hP) (by first | simp [of_decide_eq_true c_22] | simp [of_decide_eq_false c_22])
    · skip
      have c_22 := b2_n hr_2 c_22
      refine lv_aload_n hx hb dX3_feed_25 rfl (lv_at hl 0 rfl) ?_
      refine lz_get (G := G) (ci := 3) (v := .ref (q 4)) (C := RX3) (T := TX3) (N := 13) hx hb hu_wsX30 (fun _ h9 => h9) hown hK hP 0 rfl rfl 4 (by decide) hw2 rfl rfl dX3_feed_26 ?_
      refine lz_get (G := G) (ci := 2) (v := .int (if L < 120 then nI (L + 1) else (U 1))) (C := RX2) (T := TX2) (N := 4) hx hb hu_wsX20 (fun _ h9 => h9) hown hK hP 1 rfl rfl 1 (by decide) hw3 rfl rfl dX3_feed_29 ?_
      refine lv_goto (tgt := 37) hx hb dX3_feed_32 (by decide) ?_
      exact rw_iret (S := Unit) (G := G) (Wd := fun _ : Unit => (lzX x q S ++ (lzTp (q 4) qt (upd U 1 (if L < 120 then nI (L + 1) else U 1)) ++ (lzI G (qt 0) 120 (if L < 120 then upd tb L c else tb))))) () hx hb hr hlk dX3_feed_37 hS (hP) (by first | simp [of_decide_eq_true c_22] | simp [of_decide_eq_false c_22])
  · skip
    have c_8 := b2_z hr_1 c_8
    exact Bool.noConfusion (hc.symm.trans c_8)
set_option maxHeartbeats 4000000 in
set_option maxRecDepth 100000 in
theorem c_X3_lookAt (l : Launch) (G : lzG) (x : Nat) (q : Nat → Nat) (S : Nat → Int32) (ln : Nat → Int32) (rr : Nat) (i n : Int32) (hrw : rr < 8) : Met l yX3_lookAt wsX3_lookAt ({ frames := 1, cells := 0, slots := 0, locals := 23 }) (va_Pc [.ref x, .int (nI rr), .int i, .int n] (rwP G (lzX x q S ++ lzI G (q 2) 8 ln))) (va_Qi (S := Unit) (fun (r : Int32) (_ : Unit) => r = lookV (ln rr) i n) (rwB G (fun _ : Unit => (lzX x q (upd S 3 (lookF (ln rr) i n)) ++ lzI G (q 2) 8 ln))) (lzA (lzX x q S ++ lzI G (q 2) 8 ln))) 0 0 (lzA (lzX x q S ++ lzI G (q 2) 8 ln)) := by
  refine rw_start (S := Unit) (cc := cX3_lookAt) (maxL := 4) (ret := (some .int)) (by decide) rfl (Nat.le_of_ble_eq_true rfl) ?_
  intro pp ee ss mm bl me cd A hx hb hr hlk hml hts hown hP hK hD hAe hS ls hl
  have hA0 : ∀ zz : Nat, lzA (lzX x q S ++ lzI G (q 2) 8 ln) zz → A zz := fun zz h9 => by rw [hAe]; exact h9
  rw [← hAe]
  clear hAe
  have hown : ss.vm.findClass RX3 = some mm.cls := hown
  have hw1 := hts (.fieldLink RX3 21 "LampSquares" "finding" "I") (List.mem_of_getElem? (i := 1) rfl)
  have hu_wsX30 : ∀ w ∈ wsX30, w.before ([.ref x, .int (nI rr), .int i, .int n] : List Value).toArray ss = true := fun w h9 => hts w (List.mem_cons_of_mem _ (List.mem_append_right _ h9))
  have hl : lv_has ls 4 [(0, .ref x), (1, .int (nI rr)), (2, .int i), (3, .int n)] := hl
  refine lv_aload_n hx hb dX3_lookAt_0 rfl (lv_at hl 0 rfl) ?_
  refine lv_iload_n hx hb dX3_lookAt_1 rfl (lv_at hl 1 rfl) ?_
  refine ro_calli (va_runV (As := [.int (nI rr)]) (rest := []) ⟨hx, hb, hml, hown, hts⟩ (c_X3_isMissing l G x q S ln rr (hrw)) (cwV 1 hts gX3_lookAt_X3_isMissing rfl rfl rfl (by decide +kernel) ⟨Nat.le_of_ble_eq_true rfl, Nat.le_of_ble_eq_true rfl⟩) (ro_preV hK hP hP (ci := 3) (q0 := 0) rfl rfl) rfl rfl hl.1 rfl (lv_room (Nat.le_of_ble_eq_true rfl)) dX3_lookAt_2 ⟨Nat.zero_le _, Nat.zero_le _⟩) (fun r_1 hr_1 => ?_)
  refine lv_if_eq (tgt := 14) hx hb dX3_lookAt_5 (by decide) (fun c_5 => ?_) (fun c_5 => ?_)
  · skip
    have c_5 := b2_z hr_1 c_5
    refine lv_aload_n hx hb dX3_lookAt_14 rfl (lv_at hl 0 rfl) ?_
    refine lv_iload_n hx hb dX3_lookAt_15 rfl (lv_at hl 1 rfl) ?_
    refine lv_iload_n hx hb dX3_lookAt_16 rfl (lv_at hl 2 rfl) ?_
    refine lv_iload_n hx hb dX3_lookAt_17 rfl (lv_at hl 3 rfl) ?_
    refine ro_calli (va_runV (As := [.int (nI rr), .int i, .int n]) (rest := []) ⟨hx, hb, hml, hown, hts⟩ (c_X3_hasItems l G x q S ln rr i n (hrw)) (cwV 3 hts gX3_lookAt_X3_hasItems rfl rfl rfl (by decide +kernel) ⟨Nat.le_of_ble_eq_true rfl, Nat.le_of_ble_eq_true rfl⟩) (ro_preV hK hP hP (ci := 3) (q0 := 0) rfl rfl) rfl rfl hl.1 rfl (lv_room (Nat.le_of_ble_eq_true rfl)) dX3_lookAt_18 ⟨Nat.zero_le _, Nat.zero_le _⟩) (fun r_2 hr_2 => ?_)
    refine lv_if_ne (tgt := 30) hx hb dX3_lookAt_21 (by decide) (fun c_21 => ?_) (fun c_21 => ?_)
    · skip
      have c_21 := b2_n hr_2 c_21
      refine lv_aload_n hx hb dX3_lookAt_30 rfl (lv_at hl 0 rfl) ?_
      refine lv_iconst (v := 0) hx hb dX3_lookAt_31 (by decide) ?_
      refine lz_put (G := G) (ci := 3) (C := RX3) (T := TX3) (N := 13) hx hb hu_wsX30 (fun _ h9 => h9) tyX3 tyX3_ok nmX3 hown hK hP hD hS 0 rfl rfl 3 (by decide) hw1 rfl rfl (by decide +kernel) (Nat.le_of_ble_eq_true rfl) dX3_lookAt_32 (lzX x q (upd S 3 0) ++ lzI G (q 2) 8 ln) rfl (fun H locs hP hD hS => ?_)
      refine lv_iconst (v := 0) hx hb dX3_lookAt_35 (by decide) ?_
      exact rw_iret (S := Unit) (G := G) (Wd := fun _ : Unit => (lzX x q (upd S 3 (lookF (ln rr) i n)) ++ lzI G (q 2) 8 ln)) () hx hb hr hlk dX3_lookAt_36 hS (by show va_P G.1 lzC (lzX x q (upd S 3 (lookF (ln rr) i n)) ++ lzI G (q 2) 8 ln) _; unfold lookF; first | (rw [if_pos (of_decide_eq_true c_5)]; exact hP) | (rw [if_neg (of_decide_eq_false c_5), c_21]; exact hP)) (by unfold lookV; first | (rw [if_pos (of_decide_eq_true c_5)]; rfl) | (rw [if_neg (of_decide_eq_false c_5), c_21]; rfl))
    · skip
      have c_21 := b2_z hr_2 c_21
      refine lv_aload_n hx hb dX3_lookAt_24 rfl (lv_at hl 0 rfl) ?_
      refine lv_iconst (v := 2) hx hb dX3_lookAt_25 (by decide) ?_
      have hPc := hP.sub (ws' := lzX x q S) [0] rfl
      have hDc := hD.sub (ws' := lzX x q S) [0] (by decide) rfl
      have hFc : ∀ zz : Nat, lzA (lzX x q S) zz → A zz := lz_free hD [0] rfl
      refine va_calli (va_runV (As := [.int 2]) (rest := []) ⟨hx, hb, hml, hown, hts⟩ (c_X3_found l G x q S 2 ) (cwV 1 hts gX3_lookAt_X3_found rfl rfl rfl (by decide +kernel) ⟨Nat.le_of_ble_eq_true rfl, Nat.le_of_ble_eq_true rfl⟩) (rw_preV hK hPc hDc hP (ci := 3) (q0 := 0) rfl rfl) rfl rfl hl.1 rfl (lv_room (Nat.le_of_ble_eq_true rfl)) dX3_lookAt_26 ⟨Nat.zero_le _, Nat.zero_le _⟩) hS (fun q _ h => hFc q h) hFc (fun r_3 u_4 t9 H1 locs ht hvm hr_3 hB hz1 hk1 hS => ?_)
      replace hB : va_P G.1 lzC _ t9.heap := hB
      rw [ht] at hB
      obtain ⟨hP, hD⟩ := lz_join (wc := lzX x q S) (wr := ([(q 2, .inl (G.2 0, 8, .inl ln))] : va_W)) (w1 := lzX x q (upd S 3 2)) hP hD [0] [1] rfl rfl (by decide) (by decide) rfl hk1 hB
      replace hP := hP.sub (ws' := (lzX x q (upd S 3 2) ++ lzI G (q 2) 8 ln)) [1, 0] rfl
      replace hD := hD.sub (ws' := (lzX x q (upd S 3 2) ++ lzI G (q 2) 8 ln)) [1, 0] (by decide) rfl
      clear ht hvm hB hz1 hk1
      generalize H1 = H at hP hS ⊢
      refine lz_top (y := -1000010 - 2) hr_3 ?_
      exact rw_iret (S := Unit) (G := G) (Wd := fun _ : Unit => (lzX x q (upd S 3 (lookF (ln rr) i n)) ++ lzI G (q 2) 8 ln)) () hx hb hr hlk dX3_lookAt_29 hS (by show va_P G.1 lzC (lzX x q (upd S 3 (lookF (ln rr) i n)) ++ lzI G (q 2) 8 ln) _; unfold lookF; first | (rw [if_pos (of_decide_eq_true c_5)]; exact hP) | (rw [if_neg (of_decide_eq_false c_5), c_21]; exact hP)) (by unfold lookV; first | (rw [if_pos (of_decide_eq_true c_5)]; rfl) | (rw [if_neg (of_decide_eq_false c_5), c_21]; rfl))
  · skip
    have c_5 := b2_n hr_1 c_5
    refine lv_aload_n hx hb dX3_lookAt_8 rfl (lv_at hl 0 rfl) ?_
    refine lv_iconst (v := 1) hx hb dX3_lookAt_9 (by decide) ?_
    have hPc := hP.sub (ws' := lzX x q S) [0] rfl
    have hDc := hD.sub (ws' := lzX x q S) [0] (by decide) rfl
    have hFc : ∀ zz : Nat, lzA (lzX x q S) zz → A zz := lz_free hD [0] rfl
    refine va_calli (va_runV (As := [.int 1]) (rest := []) ⟨hx, hb, hml, hown, hts⟩ (c_X3_found l G x q S 1 ) (cwV 1 hts gX3_lookAt_X3_found rfl rfl rfl (by decide +kernel) ⟨Nat.le_of_ble_eq_true rfl, Nat.le_of_ble_eq_true rfl⟩) (rw_preV hK hPc hDc hP (ci := 3) (q0 := 0) rfl rfl) rfl rfl hl.1 rfl (lv_room (Nat.le_of_ble_eq_true rfl)) dX3_lookAt_10 ⟨Nat.zero_le _, Nat.zero_le _⟩) hS (fun q _ h => hFc q h) hFc (fun r_5 u_6 t9 H1 locs ht hvm hr_5 hB hz1 hk1 hS => ?_)
    replace hB : va_P G.1 lzC _ t9.heap := hB
    rw [ht] at hB
    obtain ⟨hP, hD⟩ := lz_join (wc := lzX x q S) (wr := ([(q 2, .inl (G.2 0, 8, .inl ln))] : va_W)) (w1 := lzX x q (upd S 3 1)) hP hD [0] [1] rfl rfl (by decide) (by decide) rfl hk1 hB
    replace hP := hP.sub (ws' := (lzX x q (upd S 3 1) ++ lzI G (q 2) 8 ln)) [1, 0] rfl
    replace hD := hD.sub (ws' := (lzX x q (upd S 3 1) ++ lzI G (q 2) 8 ln)) [1, 0] (by decide) rfl
    clear ht hvm hB hz1 hk1
    generalize H1 = H at hP hS ⊢
    refine lz_top (y := -1000010 - 1) hr_5 ?_
    exact rw_iret (S := Unit) (G := G) (Wd := fun _ : Unit => (lzX x q (upd S 3 (lookF (ln rr) i n)) ++ lzI G (q 2) 8 ln)) () hx hb hr hlk dX3_lookAt_13 hS (by show va_P G.1 lzC (lzX x q (upd S 3 (lookF (ln rr) i n)) ++ lzI G (q 2) 8 ln) _; unfold lookF; first | (rw [if_pos (of_decide_eq_true c_5)]; exact hP) | (rw [if_neg (of_decide_eq_false c_5), c_21]; exact hP)) (by unfold lookV; first | (rw [if_pos (of_decide_eq_true c_5)]; rfl) | (rw [if_neg (of_decide_eq_false c_5), c_21]; rfl))
set_option maxHeartbeats 4000000 in
set_option maxRecDepth 100000 in
theorem c_X3_drop_bad (l : Launch) (G : lzG) (x : Nat) (q : Nat → Nat) (S : Nat → Int32) (ln : Nat → Int32) (a : Int32) (hbad : inR a 0 7 = false) : Met l yX3_drop wsX3_drop ({ frames := 2, cells := 0, slots := 0, locals := 42 }) (va_Pc [.ref x, .int a] (roP G (lzX x q S ++ lzI G (q 2) 8 ln))) (vp_Si (fun r => r = -1000001)) 0 0 (fun _ => False) := by
  refine ro_start (cc := cX3_drop) (maxL := 3) (ret := (some .int)) (by decide) rfl (Nat.le_of_ble_eq_true rfl) ?_
  intro pp ee ss mm bl me cd hx hb hr hlk hml hts hown hP hK ls hl
  have hown : ss.vm.findClass RX3 = some mm.cls := hown
  have hw1 := hts (.constant RX3 81 (-1000001)) (List.mem_of_getElem? (i := 1) rfl)
  have hl : lv_has ls 3 [(0, .ref x), (1, .int a)] := hl
  refine lv_iload_n hx hb dX3_drop_0 rfl (lv_at hl 1 rfl) ?_
  refine ro_calli (va_runS (As := [.int a]) (rest := []) ⟨hx, hb, hml, hown, hts⟩ (c_X3_isRow l G a ) (cwS 1 hts gX3_drop_X3_isRow rfl rfl rfl (by decide +kernel) ⟨Nat.le_of_ble_eq_true rfl, Nat.le_of_ble_eq_true rfl⟩) (ro_pre hK (fun k q h => by simp at h)) rfl rfl hl.1 rfl (lv_room (Nat.le_of_ble_eq_true rfl)) dX3_drop_1 ⟨Nat.zero_le _, Nat.zero_le _⟩) (fun r_1 hr_1 => ?_)
  refine lv_if_ne (tgt := 10) hx hb dX3_drop_4 (by decide) (fun c_4 => ?_) (fun c_4 => ?_)
  · skip
    have c_4 := b2_n hr_1 c_4
    exact Bool.noConfusion (hbad.symm.trans c_4)
  · skip
    have c_4 := b2_z hr_1 c_4
    refine lv_ldc hx hb hown hw1 dX3_drop_7 ?_
    exact ro_iret hx hb hr hlk dX3_drop_9 (rfl)
set_option maxHeartbeats 4000000 in
set_option maxRecDepth 100000 in
theorem c_X3_drop_null (l : Launch) (G : lzG) (x : Nat) (q : Nat → Nat) (S : Nat → Int32) (ln : Nat → Int32) (rr : Nat) (hrw : rr < 8) (hm : ln rr = -1000000) : Met l yX3_drop wsX3_drop ({ frames := 2, cells := 0, slots := 0, locals := 42 }) (va_Pc [.ref x, .int (nI rr)] (rwP G (lzX x q S ++ lzI G (q 2) 8 ln))) (va_Qi (S := Unit) (fun (r : Int32) (_ : Unit) => r = -1000011) (rwB G (fun _ : Unit => (lzX x q (upd S 3 1) ++ lzI G (q 2) 8 ln))) (lzA (lzX x q S ++ lzI G (q 2) 8 ln))) 0 0 (lzA (lzX x q S ++ lzI G (q 2) 8 ln)) := by
  have hA : inR (nI rr) 0 7 = true := inR_row hrw
  refine rw_start (S := Unit) (cc := cX3_drop) (maxL := 3) (ret := (some .int)) (by decide) rfl (Nat.le_of_ble_eq_true rfl) ?_
  intro pp ee ss mm bl me cd A hx hb hr hlk hml hts hown hP hK hD hAe hS ls hl
  have hA0 : ∀ zz : Nat, lzA (lzX x q S ++ lzI G (q 2) 8 ln) zz → A zz := fun zz h9 => by rw [hAe]; exact h9
  rw [← hAe]
  clear hAe
  have hown : ss.vm.findClass RX3 = some mm.cls := hown
  have hl : lv_has ls 3 [(0, .ref x), (1, .int (nI rr))] := hl
  refine lv_iload_n hx hb dX3_drop_0 rfl (lv_at hl 1 rfl) ?_
  refine ro_calli (va_runS (As := [.int (nI rr)]) (rest := []) ⟨hx, hb, hml, hown, hts⟩ (c_X3_isRow l G (nI rr) ) (cwS 1 hts gX3_drop_X3_isRow rfl rfl rfl (by decide +kernel) ⟨Nat.le_of_ble_eq_true rfl, Nat.le_of_ble_eq_true rfl⟩) (ro_pre hK (fun k q h => by simp at h)) rfl rfl hl.1 rfl (lv_room (Nat.le_of_ble_eq_true rfl)) dX3_drop_1 ⟨Nat.zero_le _, Nat.zero_le _⟩) (fun r_1 hr_1 => ?_)
  refine lv_if_ne (tgt := 10) hx hb dX3_drop_4 (by decide) (fun c_4 => ?_) (fun c_4 => ?_)
  · skip
    have c_4 := b2_n hr_1 c_4
    refine lv_aload_n hx hb dX3_drop_10 rfl (lv_at hl 0 rfl) ?_
    refine lv_iload_n hx hb dX3_drop_11 rfl (lv_at hl 1 rfl) ?_
    refine ro_calli (va_runV (As := [.int (nI rr)]) (rest := []) ⟨hx, hb, hml, hown, hts⟩ (c_X3_isMissing l G x q S ln rr (hrw)) (cwV 1 hts gX3_drop_X3_isMissing rfl rfl rfl (by decide +kernel) ⟨Nat.le_of_ble_eq_true rfl, Nat.le_of_ble_eq_true rfl⟩) (ro_preV hK hP hP (ci := 3) (q0 := 0) rfl rfl) rfl rfl hl.1 rfl (lv_room (Nat.le_of_ble_eq_true rfl)) dX3_drop_12 ⟨Nat.zero_le _, Nat.zero_le _⟩) (fun r_2 hr_2 => ?_)
    refine lv_if_eq (tgt := 24) hx hb dX3_drop_15 (by decide) (fun c_15 => ?_) (fun c_15 => ?_)
    · skip
      have c_15 := b2_z hr_2 c_15
      exact Bool.noConfusion ((decide_eq_true hm).symm.trans c_15)
    · skip
      have c_15 := b2_n hr_2 c_15
      refine lv_aload_n hx hb dX3_drop_18 rfl (lv_at hl 0 rfl) ?_
      refine lv_iconst (v := 1) hx hb dX3_drop_19 (by decide) ?_
      have hPc := hP.sub (ws' := lzX x q S) [0] rfl
      have hDc := hD.sub (ws' := lzX x q S) [0] (by decide) rfl
      have hFc : ∀ zz : Nat, lzA (lzX x q S) zz → A zz := lz_free hD [0] rfl
      refine va_calli (va_runV (As := [.int 1]) (rest := []) ⟨hx, hb, hml, hown, hts⟩ (c_X3_found l G x q S 1 ) (cwV 1 hts gX3_drop_X3_found rfl rfl rfl (by decide +kernel) ⟨Nat.le_of_ble_eq_true rfl, Nat.le_of_ble_eq_true rfl⟩) (rw_preV hK hPc hDc hP (ci := 3) (q0 := 0) rfl rfl) rfl rfl hl.1 rfl (lv_room (Nat.le_of_ble_eq_true rfl)) dX3_drop_20 ⟨Nat.zero_le _, Nat.zero_le _⟩) hS (fun q _ h => hFc q h) hFc (fun r_3 u_4 t9 H1 locs ht hvm hr_3 hB hz1 hk1 hS => ?_)
      replace hB : va_P G.1 lzC _ t9.heap := hB
      rw [ht] at hB
      obtain ⟨hP, hD⟩ := lz_join (wc := lzX x q S) (wr := ([(q 2, .inl (G.2 0, 8, .inl ln))] : va_W)) (w1 := lzX x q (upd S 3 1)) hP hD [0] [1] rfl rfl (by decide) (by decide) rfl hk1 hB
      replace hP := hP.sub (ws' := (lzX x q (upd S 3 1) ++ lzI G (q 2) 8 ln)) [1, 0] rfl
      replace hD := hD.sub (ws' := (lzX x q (upd S 3 1) ++ lzI G (q 2) 8 ln)) [1, 0] (by decide) rfl
      clear ht hvm hB hz1 hk1
      generalize H1 = H at hP hS ⊢
      refine lz_top (y := -1000010 - 1) hr_3 ?_
      exact rw_iret (S := Unit) (G := G) (Wd := fun _ : Unit => (lzX x q (upd S 3 1) ++ lzI G (q 2) 8 ln)) () hx hb hr hlk dX3_drop_23 hS (hP) (rfl)
  · skip
    have c_4 := b2_z hr_1 c_4
    exact Bool.noConfusion (hA.symm.trans c_4)
set_option maxHeartbeats 4000000 in
set_option maxRecDepth 100000 in
theorem c_X3_drop_ok (l : Launch) (G : lzG) (x : Nat) (q : Nat → Nat) (S : Nat → Int32) (ln : Nat → Int32) (rr : Nat) (hrw : rr < 8) (hm : ¬ ln rr = -1000000) : Met l yX3_drop wsX3_drop ({ frames := 2, cells := 0, slots := 0, locals := 42 }) (va_Pc [.ref x, .int (nI rr)] (rwP G (lzX x q S ++ lzI G (q 2) 8 ln))) (va_Qi (S := Unit) (fun (r : Int32) (_ : Unit) => r = ln rr) (rwB G (fun _ : Unit => (lzX x q (upd S 3 0) ++ lzI G (q 2) 8 (upd ln rr (-1000000))))) (lzA (lzX x q S ++ lzI G (q 2) 8 ln))) 0 0 (lzA (lzX x q S ++ lzI G (q 2) 8 ln)) := by
  have hA : inR (nI rr) 0 7 = true := inR_row hrw
  refine rw_start (S := Unit) (cc := cX3_drop) (maxL := 3) (ret := (some .int)) (by decide) rfl (Nat.le_of_ble_eq_true rfl) ?_
  intro pp ee ss mm bl me cd A hx hb hr hlk hml hts hown hP hK hD hAe hS ls hl
  have hA0 : ∀ zz : Nat, lzA (lzX x q S ++ lzI G (q 2) 8 ln) zz → A zz := fun zz h9 => by rw [hAe]; exact h9
  rw [← hAe]
  clear hAe
  have hown : ss.vm.findClass RX3 = some mm.cls := hown
  have hw2 := hts (.fieldLink RX3 21 "LampSquares" "finding" "I") (List.mem_of_getElem? (i := 2) rfl)
  have hw3 := hts (.fieldLink RX3 18 "LampSquares" "lengths" "[I") (List.mem_of_getElem? (i := 3) rfl)
  have hw4 := hts (.constant RX3 66 (-1000000)) (List.mem_of_getElem? (i := 4) rfl)
  have hu_wsX30 : ∀ w ∈ wsX30, w.before ([.ref x, .int (nI rr)] : List Value).toArray ss = true := fun w h9 => hts w (List.mem_cons_of_mem _ (List.mem_append_right _ h9))
  have hl : lv_has ls 3 [(0, .ref x), (1, .int (nI rr))] := hl
  refine lv_iload_n hx hb dX3_drop_0 rfl (lv_at hl 1 rfl) ?_
  refine ro_calli (va_runS (As := [.int (nI rr)]) (rest := []) ⟨hx, hb, hml, hown, hts⟩ (c_X3_isRow l G (nI rr) ) (cwS 1 hts gX3_drop_X3_isRow rfl rfl rfl (by decide +kernel) ⟨Nat.le_of_ble_eq_true rfl, Nat.le_of_ble_eq_true rfl⟩) (ro_pre hK (fun k q h => by simp at h)) rfl rfl hl.1 rfl (lv_room (Nat.le_of_ble_eq_true rfl)) dX3_drop_1 ⟨Nat.zero_le _, Nat.zero_le _⟩) (fun r_1 hr_1 => ?_)
  refine lv_if_ne (tgt := 10) hx hb dX3_drop_4 (by decide) (fun c_4 => ?_) (fun c_4 => ?_)
  · skip
    have c_4 := b2_n hr_1 c_4
    refine lv_aload_n hx hb dX3_drop_10 rfl (lv_at hl 0 rfl) ?_
    refine lv_iload_n hx hb dX3_drop_11 rfl (lv_at hl 1 rfl) ?_
    refine ro_calli (va_runV (As := [.int (nI rr)]) (rest := []) ⟨hx, hb, hml, hown, hts⟩ (c_X3_isMissing l G x q S ln rr (hrw)) (cwV 1 hts gX3_drop_X3_isMissing rfl rfl rfl (by decide +kernel) ⟨Nat.le_of_ble_eq_true rfl, Nat.le_of_ble_eq_true rfl⟩) (ro_preV hK hP hP (ci := 3) (q0 := 0) rfl rfl) rfl rfl hl.1 rfl (lv_room (Nat.le_of_ble_eq_true rfl)) dX3_drop_12 ⟨Nat.zero_le _, Nat.zero_le _⟩) (fun r_2 hr_2 => ?_)
    refine lv_if_eq (tgt := 24) hx hb dX3_drop_15 (by decide) (fun c_15 => ?_) (fun c_15 => ?_)
    · skip
      have c_15 := b2_z hr_2 c_15
      refine lv_aload_n hx hb dX3_drop_24 rfl (lv_at hl 0 rfl) ?_
      refine lv_iconst (v := 0) hx hb dX3_drop_25 (by decide) ?_
      refine lz_put (G := G) (ci := 3) (C := RX3) (T := TX3) (N := 13) hx hb hu_wsX30 (fun _ h9 => h9) tyX3 tyX3_ok nmX3 hown hK hP hD hS 0 rfl rfl 3 (by decide) hw2 rfl rfl (by decide +kernel) (Nat.le_of_ble_eq_true rfl) dX3_drop_26 (lzX x q (upd S 3 0) ++ lzI G (q 2) 8 ln) rfl (fun H locs hP hD hS => ?_)
      refine lv_aload_n hx hb dX3_drop_29 rfl (lv_at hl 0 rfl) ?_
      refine lz_get (G := G) (ci := 3) (v := .ref (q 2)) (C := RX3) (T := TX3) (N := 13) hx hb hu_wsX30 (fun _ h9 => h9) hown hK hP 0 rfl rfl 2 (by decide) hw3 rfl rfl dX3_drop_30 ?_
      refine lv_iload_n hx hb dX3_drop_33 rfl (lv_at hl 1 rfl) ?_
      refine lz_iald (f := ln) hx hb hK hP 1 rfl rr (by omega) (Nat.le_of_ble_eq_true rfl) dX3_drop_34 ?_
      refine lv_istore_n (lv' := [(2, .int (ln rr)), (0, .ref x), (1, .int (nI rr))]) hx hb dX3_drop_35 rfl hl (by decide) rfl (fun ls hl => ?_)
      refine lv_aload_n hx hb dX3_drop_36 rfl (lv_at hl 1 rfl) ?_
      refine lz_get (G := G) (ci := 3) (v := .ref (q 2)) (C := RX3) (T := TX3) (N := 13) hx hb hu_wsX30 (fun _ h9 => h9) hown hK hP 0 rfl rfl 2 (by decide) hw3 rfl rfl dX3_drop_37 ?_
      refine lv_iload_n hx hb dX3_drop_40 rfl (lv_at hl 2 rfl) ?_
      refine lv_ldc hx hb hown hw4 dX3_drop_41 ?_
      refine lz_iast (f := ln) hx hb hK hP hD hS 1 rfl rr (by omega) (Nat.le_of_ble_eq_true rfl) dX3_drop_43 (lzX x q (upd S 3 0) ++ lzI G (q 2) 8 (upd ln rr (-1000000))) rfl (fun H locs hP hD hS => ?_)
      refine lv_iload_n hx hb dX3_drop_44 rfl (lv_at hl 0 rfl) ?_
      exact rw_iret (S := Unit) (G := G) (Wd := fun _ : Unit => (lzX x q (upd S 3 0) ++ lzI G (q 2) 8 (upd ln rr (-1000000)))) () hx hb hr hlk dX3_drop_45 hS (hP) (rfl)
    · skip
      have c_15 := b2_n hr_2 c_15
      exact Bool.noConfusion ((decide_eq_false hm).symm.trans c_15)
  · skip
    have c_4 := b2_z hr_1 c_4
    exact Bool.noConfusion (hA.symm.trans c_4)
