set_option maxHeartbeats 4000000 in
set_option maxRecDepth 100000 in
theorem c_X3_fault (l : Launch) (G : lzG) (x : Nat) (q : Nat → Nat) (S : Nat → Int32)  : Met l yX3_fault wsX3_fault ({ frames := 0, cells := 0, slots := 0, locals := 0 }) (va_Pc [.ref x] (roP G (lzX x q S))) (vp_Si (fun r => r = S 5)) 0 0 (fun _ => False) := by
  refine ro_start (cc := cX3_fault) (maxL := 1) (ret := (some .int)) (by decide) rfl (Nat.le_of_ble_eq_true rfl) ?_
  intro pp ee ss mm bl me cd hx hb hr hlk hml hts hown hP hK ls hl
  have hown : ss.vm.findClass RX3 = some mm.cls := hown
  have hw1 := hts (.fieldLink RX3 32 "LampSquares" "latestFault" "I") (List.mem_of_getElem? (i := 1) rfl)
  have hu_wsX30 : ∀ w ∈ wsX30, w.before ([.ref x] : List Value).toArray ss = true := fun w h9 => hts w (List.mem_cons_of_mem _ (List.mem_append_right _ h9))
  have hl : lv_has ls 1 [(0, .ref x)] := hl
  refine lv_aload_n hx hb dX3_fault_0 rfl (lv_at hl 0 rfl) ?_
  refine lz_get (G := G) (ci := 3) (v := .int (S 5)) (C := RX3) (T := TX3) (N := 13) hx hb hu_wsX30 (fun _ h9 => h9) hown hK hP 0 rfl rfl 5 (by decide) hw1 rfl rfl dX3_fault_1 ?_
  exact ro_iret hx hb hr hlk dX3_fault_4 (rfl)
set_option maxHeartbeats 4000000 in
set_option maxRecDepth 100000 in
theorem c_X3_status (l : Launch) (G : lzG) (x : Nat) (q : Nat → Nat) (S : Nat → Int32)  : Met l yX3_status wsX3_status ({ frames := 0, cells := 0, slots := 0, locals := 0 }) (va_Pc [.ref x] (roP G (lzX x q S))) (vp_Si (fun r => r = S 3)) 0 0 (fun _ => False) := by
  refine ro_start (cc := cX3_status) (maxL := 1) (ret := (some .int)) (by decide) rfl (Nat.le_of_ble_eq_true rfl) ?_
  intro pp ee ss mm bl me cd hx hb hr hlk hml hts hown hP hK ls hl
  have hown : ss.vm.findClass RX3 = some mm.cls := hown
  have hw1 := hts (.fieldLink RX3 21 "LampSquares" "finding" "I") (List.mem_of_getElem? (i := 1) rfl)
  have hu_wsX30 : ∀ w ∈ wsX30, w.before ([.ref x] : List Value).toArray ss = true := fun w h9 => hts w (List.mem_cons_of_mem _ (List.mem_append_right _ h9))
  have hl : lv_has ls 1 [(0, .ref x)] := hl
  refine lv_aload_n hx hb dX3_status_0 rfl (lv_at hl 0 rfl) ?_
  refine lz_get (G := G) (ci := 3) (v := .int (S 3)) (C := RX3) (T := TX3) (N := 13) hx hb hu_wsX30 (fun _ h9 => h9) hown hK hP 0 rfl rfl 3 (by decide) hw1 rfl rfl dX3_status_1 ?_
  exact ro_iret hx hb hr hlk dX3_status_4 (rfl)
set_option maxHeartbeats 4000000 in
set_option maxRecDepth 100000 in
theorem c_X3_kind_bad (l : Launch) (G : lzG) (x : Nat) (q : Nat → Nat) (S : Nat → Int32) (qh : Nat → Nat) (D : Nat → Int32) (F : Nat → Nat → Int32) (a : Int32) (hbad : inR a 0 (D 2 - 1) = false) : Met l yX3_kind wsX3_kind ({ frames := 2, cells := 0, slots := 0, locals := 43 }) (va_Pc [.ref x, .int a] (roP G (lzX x q S ++ lzDoor G (q 6) qh D F))) (vp_Si (fun r => r = -1000001)) 0 0 (fun _ => False) := by
  refine ro_start (cc := cX3_kind) (maxL := 2) (ret := (some .int)) (by decide) rfl (Nat.le_of_ble_eq_true rfl) ?_
  intro pp ee ss mm bl me cd hx hb hr hlk hml hts hown hP hK ls hl
  have hown : ss.vm.findClass RX3 = some mm.cls := hown
  have hw1 := hts (.fieldLink RX3 38 "LampSquares" "here" "LLampSquares$Door;") (List.mem_of_getElem? (i := 1) rfl)
  have hw3 := hts (.constant RX3 81 (-1000001)) (List.mem_of_getElem? (i := 3) rfl)
  have hu_wsX30 : ∀ w ∈ wsX30, w.before ([.ref x, .int a] : List Value).toArray ss = true := fun w h9 => hts w (List.mem_cons_of_mem _ (List.mem_append_left _ (List.mem_append_right _ h9)))
  have hl : lv_has ls 2 [(0, .ref x), (1, .int a)] := hl
  refine lv_aload_n hx hb dX3_kind_0 rfl (lv_at hl 0 rfl) ?_
  refine lz_get (G := G) (ci := 3) (v := .ref (q 6)) (C := RX3) (T := TX3) (N := 13) hx hb hu_wsX30 (fun _ h9 => h9) hown hK hP 0 rfl rfl 6 (by decide) hw1 rfl rfl dX3_kind_1 ?_
  refine lv_iload_n hx hb dX3_kind_4 rfl (lv_at hl 1 rfl) ?_
  have hPc := hP.sub (ws' := lzDoor G (q 6) qh D F) [1, 2, 3, 4, 5, 6, 7, 8, 9, 10, 11] rfl
  refine ro_calli (va_runV (As := [.int a]) (rest := []) ⟨hx, hb, hml, hown, hts⟩ (c_X1_isSquare l G (q 6) qh D F a ) (cwV 1 hts gX3_kind_X1_isSquare rfl rfl rfl (by decide +kernel) ⟨Nat.le_of_ble_eq_true rfl, Nat.le_of_ble_eq_true rfl⟩) (ro_preV hK hPc hP (ci := 1) (q0 := 1) rfl rfl) rfl rfl hl.1 rfl (lv_room (Nat.le_of_ble_eq_true rfl)) dX3_kind_5 ⟨Nat.zero_le _, Nat.zero_le _⟩) (fun r_1 hr_1 => ?_)
  refine lv_if_eq (tgt := 23) hx hb dX3_kind_8 (by decide) (fun c_8 => ?_) (fun c_8 => ?_)
  · skip
    have c_8 := b2_z hr_1 c_8
    refine lv_ldc hx hb hown hw3 dX3_kind_23 ?_
    exact ro_iret hx hb hr hlk dX3_kind_25 (rfl)
  · skip
    have c_8 := b2_n hr_1 c_8
    exact Bool.noConfusion (hbad.symm.trans c_8)
set_option maxHeartbeats 4000000 in
set_option maxRecDepth 100000 in
theorem c_X3_kind_ok (l : Launch) (G : lzG) (x : Nat) (q : Nat → Nat) (S : Nat → Int32) (qh : Nat → Nat) (D : Nat → Int32) (F : Nat → Nat → Int32) (s N : Nat) (hN : D 2 = nI N) (hN8 : N ≤ 8) (hs : s < N) : Met l yX3_kind wsX3_kind ({ frames := 2, cells := 0, slots := 0, locals := 43 }) (va_Pc [.ref x, .int (nI s)] (roP G (lzX x q S ++ lzDoor G (q 6) qh D F))) (vp_Si (fun r => r = F 4 s)) 0 0 (fun _ => False) := by
  have hB : inR (nI s) 0 (D 2 - 1) = true := inR_ok hN hs (by omega)
  refine ro_start (cc := cX3_kind) (maxL := 2) (ret := (some .int)) (by decide) rfl (Nat.le_of_ble_eq_true rfl) ?_
  intro pp ee ss mm bl me cd hx hb hr hlk hml hts hown hP hK ls hl
  have hown : ss.vm.findClass RX3 = some mm.cls := hown
  have hw1 := hts (.fieldLink RX3 38 "LampSquares" "here" "LLampSquares$Door;") (List.mem_of_getElem? (i := 1) rfl)
  have hw2 := hts (.fieldLink RX3 197 "LampSquares$Door" "kindOf" "[I") (List.mem_of_getElem? (i := 2) rfl)
  have hu_wsX10 : ∀ w ∈ wsX10, w.before ([.ref x, .int (nI s)] : List Value).toArray ss = true := fun w h9 => hts w (List.mem_cons_of_mem _ (List.mem_append_right _ h9))
  have hu_wsX30 : ∀ w ∈ wsX30, w.before ([.ref x, .int (nI s)] : List Value).toArray ss = true := fun w h9 => hts w (List.mem_cons_of_mem _ (List.mem_append_left _ (List.mem_append_right _ h9)))
  have hl : lv_has ls 2 [(0, .ref x), (1, .int (nI s))] := hl
  refine lv_aload_n hx hb dX3_kind_0 rfl (lv_at hl 0 rfl) ?_
  refine lz_get (G := G) (ci := 3) (v := .ref (q 6)) (C := RX3) (T := TX3) (N := 13) hx hb hu_wsX30 (fun _ h9 => h9) hown hK hP 0 rfl rfl 6 (by decide) hw1 rfl rfl dX3_kind_1 ?_
  refine lv_iload_n hx hb dX3_kind_4 rfl (lv_at hl 1 rfl) ?_
  have hPc := hP.sub (ws' := lzDoor G (q 6) qh D F) [1, 2, 3, 4, 5, 6, 7, 8, 9, 10, 11] rfl
  refine ro_calli (va_runV (As := [.int (nI s)]) (rest := []) ⟨hx, hb, hml, hown, hts⟩ (c_X1_isSquare l G (q 6) qh D F (nI s) ) (cwV 1 hts gX3_kind_X1_isSquare rfl rfl rfl (by decide +kernel) ⟨Nat.le_of_ble_eq_true rfl, Nat.le_of_ble_eq_true rfl⟩) (ro_preV hK hPc hP (ci := 1) (q0 := 1) rfl rfl) rfl rfl hl.1 rfl (lv_room (Nat.le_of_ble_eq_true rfl)) dX3_kind_5 ⟨Nat.zero_le _, Nat.zero_le _⟩) (fun r_1 hr_1 => ?_)
  refine lv_if_eq (tgt := 23) hx hb dX3_kind_8 (by decide) (fun c_8 => ?_) (fun c_8 => ?_)
  · skip
    have c_8 := b2_z hr_1 c_8
    exact Bool.noConfusion (hB.symm.trans c_8)
  · skip
    have c_8 := b2_n hr_1 c_8
    refine lv_aload_n hx hb dX3_kind_11 rfl (lv_at hl 0 rfl) ?_
    refine lz_get (G := G) (ci := 3) (v := .ref (q 6)) (C := RX3) (T := TX3) (N := 13) hx hb hu_wsX30 (fun _ h9 => h9) hown hK hP 0 rfl rfl 6 (by decide) hw1 rfl rfl dX3_kind_12 ?_
    refine lz_get (G := G) (ci := 1) (v := .ref (qh 4)) (C := RX1) (T := TX1) (N := 14) hx hb hu_wsX10 (fun _ h9 => h9) hown hK hP 1 rfl rfl 4 (by decide) hw2 rfl rfl dX3_kind_15 ?_
    refine lv_iload_n hx hb dX3_kind_18 rfl (lv_at hl 1 rfl) ?_
    refine lz_iald (f := F 4) hx hb hK hP 2 rfl s (by omega) (Nat.le_of_ble_eq_true rfl) dX3_kind_19 ?_
    refine lv_goto (tgt := 25) hx hb dX3_kind_20 (by decide) ?_
    exact ro_iret hx hb hr hlk dX3_kind_25 (rfl)
set_option maxHeartbeats 4000000 in
set_option maxRecDepth 100000 in
theorem c_X3_square_bad (l : Launch) (G : lzG) (x : Nat) (q : Nat → Nat) (S : Nat → Int32) (qh : Nat → Nat) (D : Nat → Int32) (F : Nat → Nat → Int32) (a what : Int32) (hbad : inR a 0 (D 2 - 1) = false) : Met l yX3_square wsX3_square ({ frames := 2, cells := 0, slots := 0, locals := 43 }) (va_Pc [.ref x, .int a, .int what] (roP G (lzX x q S ++ lzDoor G (q 6) qh D F))) (vp_Si (fun r => r = -1000001)) 0 0 (fun _ => False) := by
  refine ro_start (cc := cX3_square) (maxL := 3) (ret := (some .int)) (by decide) rfl (Nat.le_of_ble_eq_true rfl) ?_
  intro pp ee ss mm bl me cd hx hb hr hlk hml hts hown hP hK ls hl
  have hown : ss.vm.findClass RX3 = some mm.cls := hown
  have hw1 := hts (.fieldLink RX3 38 "LampSquares" "here" "LLampSquares$Door;") (List.mem_of_getElem? (i := 1) rfl)
  have hw2 := hts (.constant RX3 81 (-1000001)) (List.mem_of_getElem? (i := 2) rfl)
  have hu_wsX30 : ∀ w ∈ wsX30, w.before ([.ref x, .int a, .int what] : List Value).toArray ss = true := fun w h9 => hts w (List.mem_cons_of_mem _ (List.mem_append_left _ (List.mem_append_right _ h9)))
  have hl : lv_has ls 3 [(0, .ref x), (1, .int a), (2, .int what)] := hl
  refine lv_aload_n hx hb dX3_square_0 rfl (lv_at hl 0 rfl) ?_
  refine lz_get (G := G) (ci := 3) (v := .ref (q 6)) (C := RX3) (T := TX3) (N := 13) hx hb hu_wsX30 (fun _ h9 => h9) hown hK hP 0 rfl rfl 6 (by decide) hw1 rfl rfl dX3_square_1 ?_
  refine lv_iload_n hx hb dX3_square_4 rfl (lv_at hl 1 rfl) ?_
  have hPc := hP.sub (ws' := lzDoor G (q 6) qh D F) [1, 2, 3, 4, 5, 6, 7, 8, 9, 10, 11] rfl
  refine ro_calli (va_runV (As := [.int a]) (rest := []) ⟨hx, hb, hml, hown, hts⟩ (c_X1_isSquare l G (q 6) qh D F a ) (cwV 1 hts gX3_square_X1_isSquare rfl rfl rfl (by decide +kernel) ⟨Nat.le_of_ble_eq_true rfl, Nat.le_of_ble_eq_true rfl⟩) (ro_preV hK hPc hP (ci := 1) (q0 := 1) rfl rfl) rfl rfl hl.1 rfl (lv_room (Nat.le_of_ble_eq_true rfl)) dX3_square_5 ⟨Nat.zero_le _, Nat.zero_le _⟩) (fun r_1 hr_1 => ?_)
  refine lv_if_ne (tgt := 14) hx hb dX3_square_8 (by decide) (fun c_8 => ?_) (fun c_8 => ?_)
  · skip
    have c_8 := b2_n hr_1 c_8
    exact Bool.noConfusion (hbad.symm.trans c_8)
  · skip
    have c_8 := b2_z hr_1 c_8
    refine lv_ldc hx hb hown hw2 dX3_square_11 ?_
    exact ro_iret hx hb hr hlk dX3_square_13 (rfl)
set_option maxHeartbeats 4000000 in
set_option maxRecDepth 100000 in
theorem c_X3_square_ok (l : Launch) (G : lzG) (x : Nat) (q : Nat → Nat) (S : Nat → Int32) (qh : Nat → Nat) (D : Nat → Int32) (F : Nat → Nat → Int32) (s N : Nat) (what : Int32) (hN : D 2 = nI N) (hN8 : N ≤ 8) (hs : s < N) : Met l yX3_square wsX3_square ({ frames := 2, cells := 0, slots := 0, locals := 43 }) (va_Pc [.ref x, .int (nI s), .int what] (roP G (lzX x q S ++ lzDoor G (q 6) qh D F))) (vp_Si (fun r => r = squD D F s what)) 0 0 (fun _ => False) := by
  have hB : inR (nI s) 0 (D 2 - 1) = true := inR_ok hN hs (by omega)
  refine ro_start (cc := cX3_square) (maxL := 3) (ret := (some .int)) (by decide) rfl (Nat.le_of_ble_eq_true rfl) ?_
  intro pp ee ss mm bl me cd hx hb hr hlk hml hts hown hP hK ls hl
  have hown : ss.vm.findClass RX3 = some mm.cls := hown
  have hw1 := hts (.fieldLink RX3 38 "LampSquares" "here" "LLampSquares$Door;") (List.mem_of_getElem? (i := 1) rfl)
  have hw2 := hts (.constant RX3 81 (-1000001)) (List.mem_of_getElem? (i := 2) rfl)
  have hw3 := hts (.fieldLink RX3 164 "LampSquares$Door" "shareOf" "[I") (List.mem_of_getElem? (i := 3) rfl)
  have hw4 := hts (.fieldLink RX3 176 "LampSquares$Door" "edge" "I") (List.mem_of_getElem? (i := 4) rfl)
  have hw5 := hts (.fieldLink RX3 179 "LampSquares$Door" "votesFor" "[I") (List.mem_of_getElem? (i := 5) rfl)
  have hw6 := hts (.fieldLink RX3 182 "LampSquares$Door" "votesAgainst" "[I") (List.mem_of_getElem? (i := 6) rfl)
  have hw7 := hts (.fieldLink RX3 173 "LampSquares$Door" "settledAs" "[I") (List.mem_of_getElem? (i := 7) rfl)
  have hu_wsX10 : ∀ w ∈ wsX10, w.before ([.ref x, .int (nI s), .int what] : List Value).toArray ss = true := fun w h9 => hts w (List.mem_cons_of_mem _ (List.mem_append_right _ h9))
  have hu_wsX30 : ∀ w ∈ wsX30, w.before ([.ref x, .int (nI s), .int what] : List Value).toArray ss = true := fun w h9 => hts w (List.mem_cons_of_mem _ (List.mem_append_left _ (List.mem_append_right _ h9)))
  have hl : lv_has ls 3 [(0, .ref x), (1, .int (nI s)), (2, .int what)] := hl
  refine lv_aload_n hx hb dX3_square_0 rfl (lv_at hl 0 rfl) ?_
  refine lz_get (G := G) (ci := 3) (v := .ref (q 6)) (C := RX3) (T := TX3) (N := 13) hx hb hu_wsX30 (fun _ h9 => h9) hown hK hP 0 rfl rfl 6 (by decide) hw1 rfl rfl dX3_square_1 ?_
  refine lv_iload_n hx hb dX3_square_4 rfl (lv_at hl 1 rfl) ?_
  have hPc := hP.sub (ws' := lzDoor G (q 6) qh D F) [1, 2, 3, 4, 5, 6, 7, 8, 9, 10, 11] rfl
  refine ro_calli (va_runV (As := [.int (nI s)]) (rest := []) ⟨hx, hb, hml, hown, hts⟩ (c_X1_isSquare l G (q 6) qh D F (nI s) ) (cwV 1 hts gX3_square_X1_isSquare rfl rfl rfl (by decide +kernel) ⟨Nat.le_of_ble_eq_true rfl, Nat.le_of_ble_eq_true rfl⟩) (ro_preV hK hPc hP (ci := 1) (q0 := 1) rfl rfl) rfl rfl hl.1 rfl (lv_room (Nat.le_of_ble_eq_true rfl)) dX3_square_5 ⟨Nat.zero_le _, Nat.zero_le _⟩) (fun r_1 hr_1 => ?_)
  refine lv_if_ne (tgt := 14) hx hb dX3_square_8 (by decide) (fun c_8 => ?_) (fun c_8 => ?_)
  · skip
    have c_8 := b2_n hr_1 c_8
    refine lv_iload_n hx hb dX3_square_14 rfl (lv_at hl 2 rfl) ?_
    by_cases v_15_0 : what = 0
    · refine lv_tableIn (off := 37) (tgt := 52) hx hb dX3_square_15 (by rw [v_15_0]; decide) (by rw [v_15_0]; decide) (by rw [v_15_0]; rfl) (by decide) ?_
      refine lv_aload_n hx hb dX3_square_52 rfl (lv_at hl 0 rfl) ?_
      refine lz_get (G := G) (ci := 3) (v := .ref (q 6)) (C := RX3) (T := TX3) (N := 13) hx hb hu_wsX30 (fun _ h9 => h9) hown hK hP 0 rfl rfl 6 (by decide) hw1 rfl rfl dX3_square_53 ?_
      refine lz_get (G := G) (ci := 1) (v := .ref (qh 5)) (C := RX1) (T := TX1) (N := 14) hx hb hu_wsX10 (fun _ h9 => h9) hown hK hP 1 rfl rfl 5 (by decide) hw3 rfl rfl dX3_square_56 ?_
      refine lv_iload_n hx hb dX3_square_59 rfl (lv_at hl 1 rfl) ?_
      refine lz_iald (f := F 5) hx hb hK hP 3 rfl s (by omega) (Nat.le_of_ble_eq_true rfl) dX3_square_60 ?_
      exact ro_iret hx hb hr hlk dX3_square_61 (by simp [squD, c_8, v_15_0, b2])
    by_cases v_15_1 : what = 1
    · refine lv_tableIn (off := 47) (tgt := 62) hx hb dX3_square_15 (by rw [v_15_1]; decide) (by rw [v_15_1]; decide) (by rw [v_15_1]; rfl) (by decide) ?_
      refine lv_aload_n hx hb dX3_square_62 rfl (lv_at hl 0 rfl) ?_
      refine lz_get (G := G) (ci := 3) (v := .ref (q 6)) (C := RX3) (T := TX3) (N := 13) hx hb hu_wsX30 (fun _ h9 => h9) hown hK hP 0 rfl rfl 6 (by decide) hw1 rfl rfl dX3_square_63 ?_
      refine lz_get (G := G) (ci := 1) (v := .ref (qh 5)) (C := RX1) (T := TX1) (N := 14) hx hb hu_wsX10 (fun _ h9 => h9) hown hK hP 1 rfl rfl 5 (by decide) hw3 rfl rfl dX3_square_66 ?_
      refine lv_iload_n hx hb dX3_square_69 rfl (lv_at hl 1 rfl) ?_
      refine lz_iald (f := F 5) hx hb hK hP 3 rfl s (by omega) (Nat.le_of_ble_eq_true rfl) dX3_square_70 ?_
      refine lv_aload_n hx hb dX3_square_71 rfl (lv_at hl 0 rfl) ?_
      refine lz_get (G := G) (ci := 3) (v := .ref (q 6)) (C := RX3) (T := TX3) (N := 13) hx hb hu_wsX30 (fun _ h9 => h9) hown hK hP 0 rfl rfl 6 (by decide) hw1 rfl rfl dX3_square_72 ?_
      refine lz_get (G := G) (ci := 1) (v := .int (D 0)) (C := RX1) (T := TX1) (N := 14) hx hb hu_wsX10 (fun _ h9 => h9) hown hK hP 1 rfl rfl 0 (by decide) hw4 rfl rfl dX3_square_75 ?_
      refine lv_icmp_lt (tgt := 85) hx hb dX3_square_78 (by decide) (fun c_78 => ?_) (fun c_78 => ?_)
      · skip
        have c_78' := Int32.not_le.mpr c_78
        refine lv_iconst (v := 0) hx hb dX3_square_85 (by decide) ?_
        exact ro_iret hx hb hr hlk dX3_square_86 (by simp [squD, c_8, v_15_1, c_78, c_78', b2])
      · skip
        have c_78' := Int32.not_lt.mp c_78
        refine lv_iconst (v := 1) hx hb dX3_square_81 (by decide) ?_
        refine lv_goto (tgt := 86) hx hb dX3_square_82 (by decide) ?_
        exact ro_iret hx hb hr hlk dX3_square_86 (by simp [squD, c_8, v_15_1, c_78, c_78', b2])
    by_cases v_15_2 : what = 2
    · refine lv_tableIn (off := 72) (tgt := 87) hx hb dX3_square_15 (by rw [v_15_2]; decide) (by rw [v_15_2]; decide) (by rw [v_15_2]; rfl) (by decide) ?_
      refine lv_aload_n hx hb dX3_square_87 rfl (lv_at hl 0 rfl) ?_
      refine lz_get (G := G) (ci := 3) (v := .ref (q 6)) (C := RX3) (T := TX3) (N := 13) hx hb hu_wsX30 (fun _ h9 => h9) hown hK hP 0 rfl rfl 6 (by decide) hw1 rfl rfl dX3_square_88 ?_
      refine lv_iload_n hx hb dX3_square_91 rfl (lv_at hl 1 rfl) ?_
      have hPc := hP.sub (ws' := lzDoor G (q 6) qh D F) [1, 2, 3, 4, 5, 6, 7, 8, 9, 10, 11] rfl
      refine ro_calli (va_runV (As := [.int (nI s)]) (rest := []) ⟨hx, hb, hml, hown, hts⟩ (c_X1_isCounted l G (q 6) qh D F s (by omega)) (cwV 1 hts gX3_square_X1_isCounted rfl rfl rfl (by decide +kernel) ⟨Nat.le_of_ble_eq_true rfl, Nat.le_of_ble_eq_true rfl⟩) (ro_preV hK hPc hP (ci := 1) (q0 := 1) rfl rfl) rfl rfl hl.1 rfl (lv_room (Nat.le_of_ble_eq_true rfl)) dX3_square_92 ⟨Nat.zero_le _, Nat.zero_le _⟩) (fun r_2 hr_2 => ?_)
      refine lv_if_eq (tgt := 102) hx hb dX3_square_95 (by decide) (fun c_95 => ?_) (fun c_95 => ?_)
      · skip
        have c_95 := b2_z hr_2 c_95
        refine lv_iconst (v := 0) hx hb dX3_square_102 (by decide) ?_
        exact ro_iret hx hb hr hlk dX3_square_103 (by simp [squD, c_8, v_15_2, c_95, b2])
      · skip
        have c_95 := b2_n hr_2 c_95
        refine lv_iconst (v := 1) hx hb dX3_square_98 (by decide) ?_
        refine lv_goto (tgt := 103) hx hb dX3_square_99 (by decide) ?_
        exact ro_iret hx hb hr hlk dX3_square_103 (by simp [squD, c_8, v_15_2, c_95, b2])
    by_cases v_15_3 : what = 3
    · refine lv_tableIn (off := 89) (tgt := 104) hx hb dX3_square_15 (by rw [v_15_3]; decide) (by rw [v_15_3]; decide) (by rw [v_15_3]; rfl) (by decide) ?_
      refine lv_aload_n hx hb dX3_square_104 rfl (lv_at hl 0 rfl) ?_
      refine lz_get (G := G) (ci := 3) (v := .ref (q 6)) (C := RX3) (T := TX3) (N := 13) hx hb hu_wsX30 (fun _ h9 => h9) hown hK hP 0 rfl rfl 6 (by decide) hw1 rfl rfl dX3_square_105 ?_
      refine lz_get (G := G) (ci := 1) (v := .ref (qh 6)) (C := RX1) (T := TX1) (N := 14) hx hb hu_wsX10 (fun _ h9 => h9) hown hK hP 1 rfl rfl 6 (by decide) hw5 rfl rfl dX3_square_108 ?_
      refine lv_iload_n hx hb dX3_square_111 rfl (lv_at hl 1 rfl) ?_
      refine lz_iald (f := F 6) hx hb hK hP 4 rfl s (by omega) (Nat.le_of_ble_eq_true rfl) dX3_square_112 ?_
      exact ro_iret hx hb hr hlk dX3_square_113 (by simp [squD, c_8, v_15_3, b2])
    by_cases v_15_4 : what = 4
    · refine lv_tableIn (off := 99) (tgt := 114) hx hb dX3_square_15 (by rw [v_15_4]; decide) (by rw [v_15_4]; decide) (by rw [v_15_4]; rfl) (by decide) ?_
      refine lv_aload_n hx hb dX3_square_114 rfl (lv_at hl 0 rfl) ?_
      refine lz_get (G := G) (ci := 3) (v := .ref (q 6)) (C := RX3) (T := TX3) (N := 13) hx hb hu_wsX30 (fun _ h9 => h9) hown hK hP 0 rfl rfl 6 (by decide) hw1 rfl rfl dX3_square_115 ?_
      refine lz_get (G := G) (ci := 1) (v := .ref (qh 7)) (C := RX1) (T := TX1) (N := 14) hx hb hu_wsX10 (fun _ h9 => h9) hown hK hP 1 rfl rfl 7 (by decide) hw6 rfl rfl dX3_square_118 ?_
      refine lv_iload_n hx hb dX3_square_121 rfl (lv_at hl 1 rfl) ?_
      refine lz_iald (f := F 7) hx hb hK hP 5 rfl s (by omega) (Nat.le_of_ble_eq_true rfl) dX3_square_122 ?_
      exact ro_iret hx hb hr hlk dX3_square_123 (by simp [squD, c_8, v_15_4, b2])
    by_cases v_15_5 : what = 5
    · refine lv_tableIn (off := 109) (tgt := 124) hx hb dX3_square_15 (by rw [v_15_5]; decide) (by rw [v_15_5]; decide) (by rw [v_15_5]; rfl) (by decide) ?_
      refine lv_aload_n hx hb dX3_square_124 rfl (lv_at hl 0 rfl) ?_
      refine lz_get (G := G) (ci := 3) (v := .ref (q 6)) (C := RX3) (T := TX3) (N := 13) hx hb hu_wsX30 (fun _ h9 => h9) hown hK hP 0 rfl rfl 6 (by decide) hw1 rfl rfl dX3_square_125 ?_
      refine lz_get (G := G) (ci := 1) (v := .ref (qh 8)) (C := RX1) (T := TX1) (N := 14) hx hb hu_wsX10 (fun _ h9 => h9) hown hK hP 1 rfl rfl 8 (by decide) hw7 rfl rfl dX3_square_128 ?_
      refine lv_iload_n hx hb dX3_square_131 rfl (lv_at hl 1 rfl) ?_
      refine lz_iald (f := F 8) hx hb hK hP 6 rfl s (by omega) (Nat.le_of_ble_eq_true rfl) dX3_square_132 ?_
      exact ro_iret hx hb hr hlk dX3_square_133 (by simp [squD, c_8, v_15_5, b2])
    have v_15_0T : ¬ Int32.toInt what = 0 := lv_neT v_15_0 rfl
    have v_15_1T : ¬ Int32.toInt what = 1 := lv_neT v_15_1 rfl
    have v_15_2T : ¬ Int32.toInt what = 2 := lv_neT v_15_2 rfl
    have v_15_3T : ¬ Int32.toInt what = 3 := lv_neT v_15_3 rfl
    have v_15_4T : ¬ Int32.toInt what = 4 := lv_neT v_15_4 rfl
    have v_15_5T : ¬ Int32.toInt what = 5 := lv_neT v_15_5 rfl
    refine lv_tableOut (tgt := 134) hx hb dX3_square_15 (by omega) (by decide) ?_
    refine lv_ldc hx hb hown hw2 dX3_square_134 ?_
    exact ro_iret hx hb hr hlk dX3_square_136 (by simp [squD, c_8, v_15_0, v_15_1, v_15_2, v_15_3, v_15_4, v_15_5, b2])
  · skip
    have c_8 := b2_z hr_1 c_8
    exact Bool.noConfusion (hB.symm.trans c_8)
set_option maxHeartbeats 4000000 in
set_option maxRecDepth 100000 in
theorem c_X3_visitor_bad (l : Launch) (G : lzG) (x : Nat) (q : Nat → Nat) (S : Nat → Int32) (qh : Nat → Nat) (D : Nat → Int32) (F : Nat → Nat → Int32) (a what : Int32) (hbad : inR a 0 (D 3 - 1) = false) : Met l yX3_visitor wsX3_visitor ({ frames := 2, cells := 0, slots := 0, locals := 43 }) (va_Pc [.ref x, .int a, .int what] (roP G (lzX x q S ++ lzDoor G (q 6) qh D F))) (vp_Si (fun r => r = -1000001)) 0 0 (fun _ => False) := by
  refine ro_start (cc := cX3_visitor) (maxL := 3) (ret := (some .int)) (by decide) rfl (Nat.le_of_ble_eq_true rfl) ?_
  intro pp ee ss mm bl me cd hx hb hr hlk hml hts hown hP hK ls hl
  have hown : ss.vm.findClass RX3 = some mm.cls := hown
  have hw1 := hts (.fieldLink RX3 38 "LampSquares" "here" "LLampSquares$Door;") (List.mem_of_getElem? (i := 1) rfl)
  have hw2 := hts (.constant RX3 81 (-1000001)) (List.mem_of_getElem? (i := 2) rfl)
  have hu_wsX30 : ∀ w ∈ wsX30, w.before ([.ref x, .int a, .int what] : List Value).toArray ss = true := fun w h9 => hts w (List.mem_cons_of_mem _ (List.mem_append_left _ (List.mem_append_right _ h9)))
  have hl : lv_has ls 3 [(0, .ref x), (1, .int a), (2, .int what)] := hl
  refine lv_aload_n hx hb dX3_visitor_0 rfl (lv_at hl 0 rfl) ?_
  refine lz_get (G := G) (ci := 3) (v := .ref (q 6)) (C := RX3) (T := TX3) (N := 13) hx hb hu_wsX30 (fun _ h9 => h9) hown hK hP 0 rfl rfl 6 (by decide) hw1 rfl rfl dX3_visitor_1 ?_
  refine lv_iload_n hx hb dX3_visitor_4 rfl (lv_at hl 1 rfl) ?_
  have hPc := hP.sub (ws' := lzDoor G (q 6) qh D F) [1, 2, 3, 4, 5, 6, 7, 8, 9, 10, 11] rfl
  refine ro_calli (va_runV (As := [.int a]) (rest := []) ⟨hx, hb, hml, hown, hts⟩ (c_X1_isVisitor l G (q 6) qh D F a ) (cwV 1 hts gX3_visitor_X1_isVisitor rfl rfl rfl (by decide +kernel) ⟨Nat.le_of_ble_eq_true rfl, Nat.le_of_ble_eq_true rfl⟩) (ro_preV hK hPc hP (ci := 1) (q0 := 1) rfl rfl) rfl rfl hl.1 rfl (lv_room (Nat.le_of_ble_eq_true rfl)) dX3_visitor_5 ⟨Nat.zero_le _, Nat.zero_le _⟩) (fun r_1 hr_1 => ?_)
  refine lv_if_ne (tgt := 14) hx hb dX3_visitor_8 (by decide) (fun c_8 => ?_) (fun c_8 => ?_)
  · skip
    have c_8 := b2_n hr_1 c_8
    exact Bool.noConfusion (hbad.symm.trans c_8)
  · skip
    have c_8 := b2_z hr_1 c_8
    refine lv_ldc hx hb hown hw2 dX3_visitor_11 ?_
    exact ro_iret hx hb hr hlk dX3_visitor_13 (rfl)
set_option maxHeartbeats 4000000 in
set_option maxRecDepth 100000 in
theorem c_X3_visitor_ok (l : Launch) (G : lzG) (x : Nat) (q : Nat → Nat) (S : Nat → Int32) (qh : Nat → Nat) (D : Nat → Int32) (F : Nat → Nat → Int32) (v M : Nat) (what : Int32) (hM : D 3 = nI M) (hM5 : M ≤ 5) (hv : v < M) : Met l yX3_visitor wsX3_visitor ({ frames := 2, cells := 0, slots := 0, locals := 43 }) (va_Pc [.ref x, .int (nI v), .int what] (roP G (lzX x q S ++ lzDoor G (q 6) qh D F))) (vp_Si (fun r => r = visQ F v what)) 0 0 (fun _ => False) := by
  have hA : inR (nI v) 0 (D 3 - 1) = true := inR_ok hM hv (by omega)
  refine ro_start (cc := cX3_visitor) (maxL := 3) (ret := (some .int)) (by decide) rfl (Nat.le_of_ble_eq_true rfl) ?_
  intro pp ee ss mm bl me cd hx hb hr hlk hml hts hown hP hK ls hl
  have hown : ss.vm.findClass RX3 = some mm.cls := hown
  have hw1 := hts (.fieldLink RX3 38 "LampSquares" "here" "LLampSquares$Door;") (List.mem_of_getElem? (i := 1) rfl)
  have hw2 := hts (.constant RX3 81 (-1000001)) (List.mem_of_getElem? (i := 2) rfl)
  have hw3 := hts (.fieldLink RX3 185 "LampSquares$Door" "careOf" "[I") (List.mem_of_getElem? (i := 3) rfl)
  have hw4 := hts (.fieldLink RX3 188 "LampSquares$Door" "earOf" "[I") (List.mem_of_getElem? (i := 4) rfl)
  have hw5 := hts (.fieldLink RX3 191 "LampSquares$Door" "timesAsked" "[I") (List.mem_of_getElem? (i := 5) rfl)
  have hw6 := hts (.fieldLink RX3 194 "LampSquares$Door" "timesLetIn" "[I") (List.mem_of_getElem? (i := 6) rfl)
  have hu_wsX10 : ∀ w ∈ wsX10, w.before ([.ref x, .int (nI v), .int what] : List Value).toArray ss = true := fun w h9 => hts w (List.mem_cons_of_mem _ (List.mem_append_right _ h9))
  have hu_wsX30 : ∀ w ∈ wsX30, w.before ([.ref x, .int (nI v), .int what] : List Value).toArray ss = true := fun w h9 => hts w (List.mem_cons_of_mem _ (List.mem_append_left _ (List.mem_append_right _ h9)))
  have hl : lv_has ls 3 [(0, .ref x), (1, .int (nI v)), (2, .int what)] := hl
  refine lv_aload_n hx hb dX3_visitor_0 rfl (lv_at hl 0 rfl) ?_
  refine lz_get (G := G) (ci := 3) (v := .ref (q 6)) (C := RX3) (T := TX3) (N := 13) hx hb hu_wsX30 (fun _ h9 => h9) hown hK hP 0 rfl rfl 6 (by decide) hw1 rfl rfl dX3_visitor_1 ?_
  refine lv_iload_n hx hb dX3_visitor_4 rfl (lv_at hl 1 rfl) ?_
  have hPc := hP.sub (ws' := lzDoor G (q 6) qh D F) [1, 2, 3, 4, 5, 6, 7, 8, 9, 10, 11] rfl
  refine ro_calli (va_runV (As := [.int (nI v)]) (rest := []) ⟨hx, hb, hml, hown, hts⟩ (c_X1_isVisitor l G (q 6) qh D F (nI v) ) (cwV 1 hts gX3_visitor_X1_isVisitor rfl rfl rfl (by decide +kernel) ⟨Nat.le_of_ble_eq_true rfl, Nat.le_of_ble_eq_true rfl⟩) (ro_preV hK hPc hP (ci := 1) (q0 := 1) rfl rfl) rfl rfl hl.1 rfl (lv_room (Nat.le_of_ble_eq_true rfl)) dX3_visitor_5 ⟨Nat.zero_le _, Nat.zero_le _⟩) (fun r_1 hr_1 => ?_)
  refine lv_if_ne (tgt := 14) hx hb dX3_visitor_8 (by decide) (fun c_8 => ?_) (fun c_8 => ?_)
  · skip
    have c_8 := b2_n hr_1 c_8
    refine lv_iload_n hx hb dX3_visitor_14 rfl (lv_at hl 2 rfl) ?_
    by_cases v_15_0 : what = 0
    · refine lv_tableIn (off := 29) (tgt := 44) hx hb dX3_visitor_15 (by rw [v_15_0]; decide) (by rw [v_15_0]; decide) (by rw [v_15_0]; rfl) (by decide) ?_
      refine lv_aload_n hx hb dX3_visitor_44 rfl (lv_at hl 0 rfl) ?_
      refine lz_get (G := G) (ci := 3) (v := .ref (q 6)) (C := RX3) (T := TX3) (N := 13) hx hb hu_wsX30 (fun _ h9 => h9) hown hK hP 0 rfl rfl 6 (by decide) hw1 rfl rfl dX3_visitor_45 ?_
      refine lz_get (G := G) (ci := 1) (v := .ref (qh 9)) (C := RX1) (T := TX1) (N := 14) hx hb hu_wsX10 (fun _ h9 => h9) hown hK hP 1 rfl rfl 9 (by decide) hw3 rfl rfl dX3_visitor_48 ?_
      refine lv_iload_n hx hb dX3_visitor_51 rfl (lv_at hl 1 rfl) ?_
      refine lz_iald (f := F 9) hx hb hK hP 7 rfl v (by omega) (Nat.le_of_ble_eq_true rfl) dX3_visitor_52 ?_
      exact ro_iret hx hb hr hlk dX3_visitor_53 (by simp [visQ, c_8, v_15_0])
    by_cases v_15_1 : what = 1
    · refine lv_tableIn (off := 39) (tgt := 54) hx hb dX3_visitor_15 (by rw [v_15_1]; decide) (by rw [v_15_1]; decide) (by rw [v_15_1]; rfl) (by decide) ?_
      refine lv_aload_n hx hb dX3_visitor_54 rfl (lv_at hl 0 rfl) ?_
      refine lz_get (G := G) (ci := 3) (v := .ref (q 6)) (C := RX3) (T := TX3) (N := 13) hx hb hu_wsX30 (fun _ h9 => h9) hown hK hP 0 rfl rfl 6 (by decide) hw1 rfl rfl dX3_visitor_55 ?_
      refine lz_get (G := G) (ci := 1) (v := .ref (qh 10)) (C := RX1) (T := TX1) (N := 14) hx hb hu_wsX10 (fun _ h9 => h9) hown hK hP 1 rfl rfl 10 (by decide) hw4 rfl rfl dX3_visitor_58 ?_
      refine lv_iload_n hx hb dX3_visitor_61 rfl (lv_at hl 1 rfl) ?_
      refine lz_iald (f := F 10) hx hb hK hP 8 rfl v (by omega) (Nat.le_of_ble_eq_true rfl) dX3_visitor_62 ?_
      exact ro_iret hx hb hr hlk dX3_visitor_63 (by simp [visQ, c_8, v_15_1])
    by_cases v_15_2 : what = 2
    · refine lv_tableIn (off := 49) (tgt := 64) hx hb dX3_visitor_15 (by rw [v_15_2]; decide) (by rw [v_15_2]; decide) (by rw [v_15_2]; rfl) (by decide) ?_
      refine lv_aload_n hx hb dX3_visitor_64 rfl (lv_at hl 0 rfl) ?_
      refine lz_get (G := G) (ci := 3) (v := .ref (q 6)) (C := RX3) (T := TX3) (N := 13) hx hb hu_wsX30 (fun _ h9 => h9) hown hK hP 0 rfl rfl 6 (by decide) hw1 rfl rfl dX3_visitor_65 ?_
      refine lz_get (G := G) (ci := 1) (v := .ref (qh 11)) (C := RX1) (T := TX1) (N := 14) hx hb hu_wsX10 (fun _ h9 => h9) hown hK hP 1 rfl rfl 11 (by decide) hw5 rfl rfl dX3_visitor_68 ?_
      refine lv_iload_n hx hb dX3_visitor_71 rfl (lv_at hl 1 rfl) ?_
      refine lz_iald (f := F 11) hx hb hK hP 9 rfl v (by omega) (Nat.le_of_ble_eq_true rfl) dX3_visitor_72 ?_
      exact ro_iret hx hb hr hlk dX3_visitor_73 (by simp [visQ, c_8, v_15_2])
    by_cases v_15_3 : what = 3
    · refine lv_tableIn (off := 59) (tgt := 74) hx hb dX3_visitor_15 (by rw [v_15_3]; decide) (by rw [v_15_3]; decide) (by rw [v_15_3]; rfl) (by decide) ?_
      refine lv_aload_n hx hb dX3_visitor_74 rfl (lv_at hl 0 rfl) ?_
      refine lz_get (G := G) (ci := 3) (v := .ref (q 6)) (C := RX3) (T := TX3) (N := 13) hx hb hu_wsX30 (fun _ h9 => h9) hown hK hP 0 rfl rfl 6 (by decide) hw1 rfl rfl dX3_visitor_75 ?_
      refine lz_get (G := G) (ci := 1) (v := .ref (qh 12)) (C := RX1) (T := TX1) (N := 14) hx hb hu_wsX10 (fun _ h9 => h9) hown hK hP 1 rfl rfl 12 (by decide) hw6 rfl rfl dX3_visitor_78 ?_
      refine lv_iload_n hx hb dX3_visitor_81 rfl (lv_at hl 1 rfl) ?_
      refine lz_iald (f := F 12) hx hb hK hP 10 rfl v (by omega) (Nat.le_of_ble_eq_true rfl) dX3_visitor_82 ?_
      exact ro_iret hx hb hr hlk dX3_visitor_83 (by simp [visQ, c_8, v_15_3])
    have v_15_0T : ¬ Int32.toInt what = 0 := lv_neT v_15_0 rfl
    have v_15_1T : ¬ Int32.toInt what = 1 := lv_neT v_15_1 rfl
    have v_15_2T : ¬ Int32.toInt what = 2 := lv_neT v_15_2 rfl
    have v_15_3T : ¬ Int32.toInt what = 3 := lv_neT v_15_3 rfl
    refine lv_tableOut (tgt := 84) hx hb dX3_visitor_15 (by omega) (by decide) ?_
    refine lv_ldc hx hb hown hw2 dX3_visitor_84 ?_
    exact ro_iret hx hb hr hlk dX3_visitor_86 (by simp [visQ, c_8, v_15_0, v_15_1, v_15_2, v_15_3])
  · skip
    have c_8 := b2_z hr_1 c_8
    exact Bool.noConfusion (hA.symm.trans c_8)
set_option maxHeartbeats 4000000 in
set_option maxRecDepth 100000 in
theorem c_X3_sees_bad (l : Launch) (G : lzG) (x : Nat) (q : Nat → Nat) (S : Nat → Int32) (qh : Nat → Nat) (D : Nat → Int32) (F : Nat → Nat → Int32) (a b : Int32) (hbad : (inR a 0 (D 3 - 1) && inR b 0 (D 2 - 1)) = false) : Met l yX3_sees wsX3_sees ({ frames := 2, cells := 0, slots := 0, locals := 43 }) (va_Pc [.ref x, .int a, .int b] (roP G (lzX x q S ++ lzDoor G (q 6) qh D F))) (vp_Si (fun r => r = -1000001)) 0 0 (fun _ => False) := by
  refine ro_start (cc := cX3_sees) (maxL := 3) (ret := (some .int)) (by decide) rfl (Nat.le_of_ble_eq_true rfl) ?_
  intro pp ee ss mm bl me cd hx hb hr hlk hml hts hown hP hK ls hl
  have hown : ss.vm.findClass RX3 = some mm.cls := hown
  have hw1 := hts (.fieldLink RX3 38 "LampSquares" "here" "LLampSquares$Door;") (List.mem_of_getElem? (i := 1) rfl)
  have hw2 := hts (.constant RX3 81 (-1000001)) (List.mem_of_getElem? (i := 2) rfl)
  have hu_wsX30 : ∀ w ∈ wsX30, w.before ([.ref x, .int a, .int b] : List Value).toArray ss = true := fun w h9 => hts w (List.mem_cons_of_mem _ (List.mem_append_left _ (List.mem_append_right _ h9)))
  have hl : lv_has ls 3 [(0, .ref x), (1, .int a), (2, .int b)] := hl
  refine lv_aload_n hx hb dX3_sees_0 rfl (lv_at hl 0 rfl) ?_
  refine lz_get (G := G) (ci := 3) (v := .ref (q 6)) (C := RX3) (T := TX3) (N := 13) hx hb hu_wsX30 (fun _ h9 => h9) hown hK hP 0 rfl rfl 6 (by decide) hw1 rfl rfl dX3_sees_1 ?_
  refine lv_iload_n hx hb dX3_sees_4 rfl (lv_at hl 1 rfl) ?_
  have hPc := hP.sub (ws' := lzDoor G (q 6) qh D F) [1, 2, 3, 4, 5, 6, 7, 8, 9, 10, 11] rfl
  refine ro_calli (va_runV (As := [.int a]) (rest := []) ⟨hx, hb, hml, hown, hts⟩ (c_X1_isVisitor l G (q 6) qh D F a ) (cwV 1 hts gX3_sees_X1_isVisitor rfl rfl rfl (by decide +kernel) ⟨Nat.le_of_ble_eq_true rfl, Nat.le_of_ble_eq_true rfl⟩) (ro_preV hK hPc hP (ci := 1) (q0 := 1) rfl rfl) rfl rfl hl.1 rfl (lv_room (Nat.le_of_ble_eq_true rfl)) dX3_sees_5 ⟨Nat.zero_le _, Nat.zero_le _⟩) (fun r_1 hr_1 => ?_)
  refine lv_if_eq (tgt := 22) hx hb dX3_sees_8 (by decide) (fun c_8 => ?_) (fun c_8 => ?_)
  · skip
    have c_8 := b2_z hr_1 c_8
    refine lv_ldc hx hb hown hw2 dX3_sees_22 ?_
    exact ro_iret hx hb hr hlk dX3_sees_24 (rfl)
  · skip
    have c_8 := b2_n hr_1 c_8
    refine lv_aload_n hx hb dX3_sees_11 rfl (lv_at hl 0 rfl) ?_
    refine lz_get (G := G) (ci := 3) (v := .ref (q 6)) (C := RX3) (T := TX3) (N := 13) hx hb hu_wsX30 (fun _ h9 => h9) hown hK hP 0 rfl rfl 6 (by decide) hw1 rfl rfl dX3_sees_12 ?_
    refine lv_iload_n hx hb dX3_sees_15 rfl (lv_at hl 2 rfl) ?_
    have hPc := hP.sub (ws' := lzDoor G (q 6) qh D F) [1, 2, 3, 4, 5, 6, 7, 8, 9, 10, 11] rfl
    refine ro_calli (va_runV (As := [.int b]) (rest := []) ⟨hx, hb, hml, hown, hts⟩ (c_X1_isSquare l G (q 6) qh D F b ) (cwV 1 hts gX3_sees_X1_isSquare rfl rfl rfl (by decide +kernel) ⟨Nat.le_of_ble_eq_true rfl, Nat.le_of_ble_eq_true rfl⟩) (ro_preV hK hPc hP (ci := 1) (q0 := 1) rfl rfl) rfl rfl hl.1 rfl (lv_room (Nat.le_of_ble_eq_true rfl)) dX3_sees_16 ⟨Nat.zero_le _, Nat.zero_le _⟩) (fun r_2 hr_2 => ?_)
    refine lv_if_ne (tgt := 25) hx hb dX3_sees_19 (by decide) (fun c_19 => ?_) (fun c_19 => ?_)
    · skip
      have c_19 := b2_n hr_2 c_19
      exact Bool.noConfusion (hbad.symm.trans (by rw [c_8, c_19]; rfl))
    · skip
      have c_19 := b2_z hr_2 c_19
      refine lv_ldc hx hb hown hw2 dX3_sees_22 ?_
      exact ro_iret hx hb hr hlk dX3_sees_24 (rfl)
set_option maxHeartbeats 4000000 in
set_option maxRecDepth 100000 in
theorem c_X3_sees_ok (l : Launch) (G : lzG) (x : Nat) (q : Nat → Nat) (S : Nat → Int32) (qh : Nat → Nat) (D : Nat → Int32) (F : Nat → Nat → Int32) (v s N M : Nat) (hN : D 2 = nI N) (hN8 : N ≤ 8) (hM : D 3 = nI M) (hM5 : M ≤ 5) (hv : v < M) (hs : s < N) : Met l yX3_sees wsX3_sees ({ frames := 2, cells := 0, slots := 0, locals := 43 }) (va_Pc [.ref x, .int (nI v), .int (nI s)] (roP G (lzX x q S ++ lzDoor G (q 6) qh D F))) (vp_Si (fun r => r = seenI (F 4 s) (F 5 s) (F 9 v) (F 10 v))) 0 0 (fun _ => False) := by
  have hA : inR (nI v) 0 (D 3 - 1) = true := inR_ok hM hv (by omega)
  have hB : inR (nI s) 0 (D 2 - 1) = true := inR_ok hN hs (by omega)
  refine ro_start (cc := cX3_sees) (maxL := 3) (ret := (some .int)) (by decide) rfl (Nat.le_of_ble_eq_true rfl) ?_
  intro pp ee ss mm bl me cd hx hb hr hlk hml hts hown hP hK ls hl
  have hown : ss.vm.findClass RX3 = some mm.cls := hown
  have hw1 := hts (.fieldLink RX3 38 "LampSquares" "here" "LLampSquares$Door;") (List.mem_of_getElem? (i := 1) rfl)
  have hw3 := hts (.fieldLink RX3 185 "LampSquares$Door" "careOf" "[I") (List.mem_of_getElem? (i := 3) rfl)
  have hw4 := hts (.fieldLink RX3 188 "LampSquares$Door" "earOf" "[I") (List.mem_of_getElem? (i := 4) rfl)
  have hw5 := hts (.fieldLink RX3 197 "LampSquares$Door" "kindOf" "[I") (List.mem_of_getElem? (i := 5) rfl)
  have hw6 := hts (.fieldLink RX3 164 "LampSquares$Door" "shareOf" "[I") (List.mem_of_getElem? (i := 6) rfl)
  have hu_wsX10 : ∀ w ∈ wsX10, w.before ([.ref x, .int (nI v), .int (nI s)] : List Value).toArray ss = true := fun w h9 => hts w (List.mem_cons_of_mem _ (List.mem_append_right _ h9))
  have hu_wsX30 : ∀ w ∈ wsX30, w.before ([.ref x, .int (nI v), .int (nI s)] : List Value).toArray ss = true := fun w h9 => hts w (List.mem_cons_of_mem _ (List.mem_append_left _ (List.mem_append_right _ h9)))
  have hl : lv_has ls 3 [(0, .ref x), (1, .int (nI v)), (2, .int (nI s))] := hl
  refine lv_aload_n hx hb dX3_sees_0 rfl (lv_at hl 0 rfl) ?_
  refine lz_get (G := G) (ci := 3) (v := .ref (q 6)) (C := RX3) (T := TX3) (N := 13) hx hb hu_wsX30 (fun _ h9 => h9) hown hK hP 0 rfl rfl 6 (by decide) hw1 rfl rfl dX3_sees_1 ?_
  refine lv_iload_n hx hb dX3_sees_4 rfl (lv_at hl 1 rfl) ?_
  have hPc := hP.sub (ws' := lzDoor G (q 6) qh D F) [1, 2, 3, 4, 5, 6, 7, 8, 9, 10, 11] rfl
  refine ro_calli (va_runV (As := [.int (nI v)]) (rest := []) ⟨hx, hb, hml, hown, hts⟩ (c_X1_isVisitor l G (q 6) qh D F (nI v) ) (cwV 1 hts gX3_sees_X1_isVisitor rfl rfl rfl (by decide +kernel) ⟨Nat.le_of_ble_eq_true rfl, Nat.le_of_ble_eq_true rfl⟩) (ro_preV hK hPc hP (ci := 1) (q0 := 1) rfl rfl) rfl rfl hl.1 rfl (lv_room (Nat.le_of_ble_eq_true rfl)) dX3_sees_5 ⟨Nat.zero_le _, Nat.zero_le _⟩) (fun r_1 hr_1 => ?_)
  refine lv_if_eq (tgt := 22) hx hb dX3_sees_8 (by decide) (fun c_8 => ?_) (fun c_8 => ?_)
  · skip
    have c_8 := b2_z hr_1 c_8
    exact Bool.noConfusion (hA.symm.trans c_8)
  · skip
    have c_8 := b2_n hr_1 c_8
    refine lv_aload_n hx hb dX3_sees_11 rfl (lv_at hl 0 rfl) ?_
    refine lz_get (G := G) (ci := 3) (v := .ref (q 6)) (C := RX3) (T := TX3) (N := 13) hx hb hu_wsX30 (fun _ h9 => h9) hown hK hP 0 rfl rfl 6 (by decide) hw1 rfl rfl dX3_sees_12 ?_
    refine lv_iload_n hx hb dX3_sees_15 rfl (lv_at hl 2 rfl) ?_
    have hPc := hP.sub (ws' := lzDoor G (q 6) qh D F) [1, 2, 3, 4, 5, 6, 7, 8, 9, 10, 11] rfl
    refine ro_calli (va_runV (As := [.int (nI s)]) (rest := []) ⟨hx, hb, hml, hown, hts⟩ (c_X1_isSquare l G (q 6) qh D F (nI s) ) (cwV 1 hts gX3_sees_X1_isSquare rfl rfl rfl (by decide +kernel) ⟨Nat.le_of_ble_eq_true rfl, Nat.le_of_ble_eq_true rfl⟩) (ro_preV hK hPc hP (ci := 1) (q0 := 1) rfl rfl) rfl rfl hl.1 rfl (lv_room (Nat.le_of_ble_eq_true rfl)) dX3_sees_16 ⟨Nat.zero_le _, Nat.zero_le _⟩) (fun r_2 hr_2 => ?_)
    refine lv_if_ne (tgt := 25) hx hb dX3_sees_19 (by decide) (fun c_19 => ?_) (fun c_19 => ?_)
    · skip
      have c_19 := b2_n hr_2 c_19
      refine lv_aload_n hx hb dX3_sees_25 rfl (lv_at hl 0 rfl) ?_
      refine lz_get (G := G) (ci := 3) (v := .ref (q 6)) (C := RX3) (T := TX3) (N := 13) hx hb hu_wsX30 (fun _ h9 => h9) hown hK hP 0 rfl rfl 6 (by decide) hw1 rfl rfl dX3_sees_26 ?_
      refine lz_get (G := G) (ci := 1) (v := .ref (qh 9)) (C := RX1) (T := TX1) (N := 14) hx hb hu_wsX10 (fun _ h9 => h9) hown hK hP 1 rfl rfl 9 (by decide) hw3 rfl rfl dX3_sees_29 ?_
      refine lv_iload_n hx hb dX3_sees_32 rfl (lv_at hl 1 rfl) ?_
      refine lz_iald (f := F 9) hx hb hK hP 7 rfl v (by omega) (Nat.le_of_ble_eq_true rfl) dX3_sees_33 ?_
      refine lv_aload_n hx hb dX3_sees_34 rfl (lv_at hl 0 rfl) ?_
      refine lz_get (G := G) (ci := 3) (v := .ref (q 6)) (C := RX3) (T := TX3) (N := 13) hx hb hu_wsX30 (fun _ h9 => h9) hown hK hP 0 rfl rfl 6 (by decide) hw1 rfl rfl dX3_sees_35 ?_
      refine lz_get (G := G) (ci := 1) (v := .ref (qh 10)) (C := RX1) (T := TX1) (N := 14) hx hb hu_wsX10 (fun _ h9 => h9) hown hK hP 1 rfl rfl 10 (by decide) hw4 rfl rfl dX3_sees_38 ?_
      refine lv_iload_n hx hb dX3_sees_41 rfl (lv_at hl 1 rfl) ?_
      refine lz_iald (f := F 10) hx hb hK hP 8 rfl v (by omega) (Nat.le_of_ble_eq_true rfl) dX3_sees_42 ?_
      refine lv_aload_n hx hb dX3_sees_43 rfl (lv_at hl 0 rfl) ?_
      refine lz_get (G := G) (ci := 3) (v := .ref (q 6)) (C := RX3) (T := TX3) (N := 13) hx hb hu_wsX30 (fun _ h9 => h9) hown hK hP 0 rfl rfl 6 (by decide) hw1 rfl rfl dX3_sees_44 ?_
      refine lz_get (G := G) (ci := 1) (v := .ref (qh 4)) (C := RX1) (T := TX1) (N := 14) hx hb hu_wsX10 (fun _ h9 => h9) hown hK hP 1 rfl rfl 4 (by decide) hw5 rfl rfl dX3_sees_47 ?_
      refine lv_iload_n hx hb dX3_sees_50 rfl (lv_at hl 2 rfl) ?_
      refine lz_iald (f := F 4) hx hb hK hP 2 rfl s (by omega) (Nat.le_of_ble_eq_true rfl) dX3_sees_51 ?_
      refine lv_aload_n hx hb dX3_sees_52 rfl (lv_at hl 0 rfl) ?_
      refine lz_get (G := G) (ci := 3) (v := .ref (q 6)) (C := RX3) (T := TX3) (N := 13) hx hb hu_wsX30 (fun _ h9 => h9) hown hK hP 0 rfl rfl 6 (by decide) hw1 rfl rfl dX3_sees_53 ?_
      refine lz_get (G := G) (ci := 1) (v := .ref (qh 5)) (C := RX1) (T := TX1) (N := 14) hx hb hu_wsX10 (fun _ h9 => h9) hown hK hP 1 rfl rfl 5 (by decide) hw6 rfl rfl dX3_sees_56 ?_
      refine lv_iload_n hx hb dX3_sees_59 rfl (lv_at hl 2 rfl) ?_
      refine lz_iald (f := F 5) hx hb hK hP 3 rfl s (by omega) (Nat.le_of_ble_eq_true rfl) dX3_sees_60 ?_
      refine ro_calli (va_runS (As := [.int ((F 9) v), .int ((F 10) v), .int ((F 4) s), .int ((F 5) s)]) (rest := []) ⟨hx, hb, hml, hown, hts⟩ (c_X3_seenBy l G ((F 9) v) ((F 10) v) ((F 4) s) ((F 5) s) ) (cwS 4 hts gX3_sees_X3_seenBy rfl rfl rfl (by decide +kernel) ⟨Nat.le_of_ble_eq_true rfl, Nat.le_of_ble_eq_true rfl⟩) (ro_pre hK (fun k q h => by simp at h)) rfl rfl hl.1 rfl (lv_room (Nat.le_of_ble_eq_true rfl)) dX3_sees_61 ⟨Nat.zero_le _, Nat.zero_le _⟩) (fun r_3 hr_3 => ?_)
      refine lz_top (y := seenI ((F 4) s) ((F 5) s) ((F 9) v) ((F 10) v)) hr_3 ?_
      exact ro_iret hx hb hr hlk dX3_sees_64 (rfl)
    · skip
      have c_19 := b2_z hr_2 c_19
      exact Bool.noConfusion (hB.symm.trans c_19)
set_option maxHeartbeats 4000000 in
set_option maxRecDepth 100000 in
theorem c_X3_clicks_bad (l : Launch) (G : lzG) (x : Nat) (q : Nat → Nat) (S : Nat → Int32) (qh : Nat → Nat) (D : Nat → Int32) (F : Nat → Nat → Int32) (a : Int32) (hbad : inR a 0 (D 3 - 1) = false) : Met l yX3_clicks wsX3_clicks ({ frames := 2, cells := 0, slots := 0, locals := 43 }) (va_Pc [.ref x, .int a] (roP G (lzX x q S ++ lzDoor G (q 6) qh D F))) (vp_Si (fun r => r = -1000001)) 0 0 (fun _ => False) := by
  refine ro_start (cc := cX3_clicks) (maxL := 2) (ret := (some .int)) (by decide) rfl (Nat.le_of_ble_eq_true rfl) ?_
  intro pp ee ss mm bl me cd hx hb hr hlk hml hts hown hP hK ls hl
  have hown : ss.vm.findClass RX3 = some mm.cls := hown
  have hw1 := hts (.fieldLink RX3 38 "LampSquares" "here" "LLampSquares$Door;") (List.mem_of_getElem? (i := 1) rfl)
  have hw2 := hts (.constant RX3 81 (-1000001)) (List.mem_of_getElem? (i := 2) rfl)
  have hu_wsX30 : ∀ w ∈ wsX30, w.before ([.ref x, .int a] : List Value).toArray ss = true := fun w h9 => hts w (List.mem_cons_of_mem _ (List.mem_append_left _ (List.mem_append_right _ h9)))
  have hl : lv_has ls 2 [(0, .ref x), (1, .int a)] := hl
  refine lv_aload_n hx hb dX3_clicks_0 rfl (lv_at hl 0 rfl) ?_
  refine lz_get (G := G) (ci := 3) (v := .ref (q 6)) (C := RX3) (T := TX3) (N := 13) hx hb hu_wsX30 (fun _ h9 => h9) hown hK hP 0 rfl rfl 6 (by decide) hw1 rfl rfl dX3_clicks_1 ?_
  refine lv_iload_n hx hb dX3_clicks_4 rfl (lv_at hl 1 rfl) ?_
  have hPc := hP.sub (ws' := lzDoor G (q 6) qh D F) [1, 2, 3, 4, 5, 6, 7, 8, 9, 10, 11] rfl
  refine ro_calli (va_runV (As := [.int a]) (rest := []) ⟨hx, hb, hml, hown, hts⟩ (c_X1_isVisitor l G (q 6) qh D F a ) (cwV 1 hts gX3_clicks_X1_isVisitor rfl rfl rfl (by decide +kernel) ⟨Nat.le_of_ble_eq_true rfl, Nat.le_of_ble_eq_true rfl⟩) (ro_preV hK hPc hP (ci := 1) (q0 := 1) rfl rfl) rfl rfl hl.1 rfl (lv_room (Nat.le_of_ble_eq_true rfl)) dX3_clicks_5 ⟨Nat.zero_le _, Nat.zero_le _⟩) (fun r_1 hr_1 => ?_)
  refine lv_if_eq (tgt := 22) hx hb dX3_clicks_8 (by decide) (fun c_8 => ?_) (fun c_8 => ?_)
  · skip
    have c_8 := b2_z hr_1 c_8
    refine lv_ldc hx hb hown hw2 dX3_clicks_22 ?_
    exact ro_iret hx hb hr hlk dX3_clicks_24 (rfl)
  · skip
    have c_8 := b2_n hr_1 c_8
    exact Bool.noConfusion (hbad.symm.trans c_8)
set_option maxHeartbeats 4000000 in
set_option maxRecDepth 100000 in
theorem c_X3_clicks_ok (l : Launch) (G : lzG) (x : Nat) (q : Nat → Nat) (S : Nat → Int32) (qh : Nat → Nat) (D : Nat → Int32) (F : Nat → Nat → Int32) (v N M : Nat) (hN : D 2 = nI N) (hN8 : N ≤ 8) (hM : D 3 = nI M) (hM5 : M ≤ 5) (hv : v < M) : Met l yX3_clicks wsX3_clicks ({ frames := 3, cells := 0, slots := 0, locals := 69 }) (va_Pc [.ref x, .int (nI v)] (roP G (lzX x q S ++ lzDoor G (q 6) qh D F))) (vp_Si (fun r => r = bitsI (clkD F v) N)) 0 0 (fun _ => False) := by
  have hA : inR (nI v) 0 (D 3 - 1) = true := inR_ok hM hv (by omega)
  refine ro_start (cc := cX3_clicks) (maxL := 2) (ret := (some .int)) (by decide) rfl (Nat.le_of_ble_eq_true rfl) ?_
  intro pp ee ss mm bl me cd hx hb hr hlk hml hts hown hP hK ls hl
  have hown : ss.vm.findClass RX3 = some mm.cls := hown
  have hw1 := hts (.fieldLink RX3 38 "LampSquares" "here" "LLampSquares$Door;") (List.mem_of_getElem? (i := 1) rfl)
  have hu_wsX30 : ∀ w ∈ wsX30, w.before ([.ref x, .int (nI v)] : List Value).toArray ss = true := fun w h9 => hts w (List.mem_cons_of_mem _ (List.mem_append_left _ (List.mem_append_right _ h9)))
  have hl : lv_has ls 2 [(0, .ref x), (1, .int (nI v))] := hl
  refine lv_aload_n hx hb dX3_clicks_0 rfl (lv_at hl 0 rfl) ?_
  refine lz_get (G := G) (ci := 3) (v := .ref (q 6)) (C := RX3) (T := TX3) (N := 13) hx hb hu_wsX30 (fun _ h9 => h9) hown hK hP 0 rfl rfl 6 (by decide) hw1 rfl rfl dX3_clicks_1 ?_
  refine lv_iload_n hx hb dX3_clicks_4 rfl (lv_at hl 1 rfl) ?_
  have hPc := hP.sub (ws' := lzDoor G (q 6) qh D F) [1, 2, 3, 4, 5, 6, 7, 8, 9, 10, 11] rfl
  refine ro_calli (va_runV (As := [.int (nI v)]) (rest := []) ⟨hx, hb, hml, hown, hts⟩ (c_X1_isVisitor l G (q 6) qh D F (nI v) ) (cwV 1 hts gX3_clicks_X1_isVisitor rfl rfl rfl (by decide +kernel) ⟨Nat.le_of_ble_eq_true rfl, Nat.le_of_ble_eq_true rfl⟩) (ro_preV hK hPc hP (ci := 1) (q0 := 1) rfl rfl) rfl rfl hl.1 rfl (lv_room (Nat.le_of_ble_eq_true rfl)) dX3_clicks_5 ⟨Nat.zero_le _, Nat.zero_le _⟩) (fun r_1 hr_1 => ?_)
  refine lv_if_eq (tgt := 22) hx hb dX3_clicks_8 (by decide) (fun c_8 => ?_) (fun c_8 => ?_)
  · skip
    have c_8 := b2_z hr_1 c_8
    exact Bool.noConfusion (hA.symm.trans c_8)
  · skip
    have c_8 := b2_n hr_1 c_8
    refine lv_aload_n hx hb dX3_clicks_11 rfl (lv_at hl 0 rfl) ?_
    refine lz_get (G := G) (ci := 3) (v := .ref (q 6)) (C := RX3) (T := TX3) (N := 13) hx hb hu_wsX30 (fun _ h9 => h9) hown hK hP 0 rfl rfl 6 (by decide) hw1 rfl rfl dX3_clicks_12 ?_
    refine lv_iload_n hx hb dX3_clicks_15 rfl (lv_at hl 1 rfl) ?_
    have hPc := hP.sub (ws' := lzDoor G (q 6) qh D F) [1, 2, 3, 4, 5, 6, 7, 8, 9, 10, 11] rfl
    refine ro_calli (va_runV (As := [.int (nI v)]) (rest := []) ⟨hx, hb, hml, hown, hts⟩ (c_X1_clickBits l G (q 6) qh D F v N (by omega) (hN) (hN8)) (cwV 1 hts gX3_clicks_X1_clickBits rfl rfl rfl (by decide +kernel) ⟨Nat.le_of_ble_eq_true rfl, Nat.le_of_ble_eq_true rfl⟩) (ro_preV hK hPc hP (ci := 1) (q0 := 1) rfl rfl) rfl rfl hl.1 rfl (lv_room (Nat.le_of_ble_eq_true rfl)) dX3_clicks_16 ⟨Nat.zero_le _, Nat.zero_le _⟩) (fun r_2 hr_2 => ?_)
    refine lz_top (y := bitsI (clkD F v) N) hr_2 ?_
    refine lv_goto (tgt := 24) hx hb dX3_clicks_19 (by decide) ?_
    exact ro_iret hx hb hr hlk dX3_clicks_24 (rfl)
set_option maxHeartbeats 4000000 in
set_option maxRecDepth 100000 in
theorem c_X3_wrong_bad (l : Launch) (G : lzG) (x : Nat) (q : Nat → Nat) (S : Nat → Int32) (qh : Nat → Nat) (D : Nat → Int32) (F : Nat → Nat → Int32) (a set : Int32) (hbad : (inR a 0 (D 3 - 1) && inR set 0 ((1 <<< (D 2 &&& 31)) - 1)) = false) : Met l yX3_wrong wsX3_wrong ({ frames := 2, cells := 0, slots := 0, locals := 43 }) (va_Pc [.ref x, .int a, .int set] (roP G (lzX x q S ++ lzDoor G (q 6) qh D F))) (vp_Si (fun r => r = -1000001)) 0 0 (fun _ => False) := by
  refine ro_start (cc := cX3_wrong) (maxL := 3) (ret := (some .int)) (by decide) rfl (Nat.le_of_ble_eq_true rfl) ?_
  intro pp ee ss mm bl me cd hx hb hr hlk hml hts hown hP hK ls hl
  have hown : ss.vm.findClass RX3 = some mm.cls := hown
  have hw1 := hts (.fieldLink RX3 38 "LampSquares" "here" "LLampSquares$Door;") (List.mem_of_getElem? (i := 1) rfl)
  have hw2 := hts (.constant RX3 81 (-1000001)) (List.mem_of_getElem? (i := 2) rfl)
  have hu_wsX30 : ∀ w ∈ wsX30, w.before ([.ref x, .int a, .int set] : List Value).toArray ss = true := fun w h9 => hts w (List.mem_cons_of_mem _ (List.mem_append_left _ (List.mem_append_right _ h9)))
  have hl : lv_has ls 3 [(0, .ref x), (1, .int a), (2, .int set)] := hl
  refine lv_aload_n hx hb dX3_wrong_0 rfl (lv_at hl 0 rfl) ?_
  refine lz_get (G := G) (ci := 3) (v := .ref (q 6)) (C := RX3) (T := TX3) (N := 13) hx hb hu_wsX30 (fun _ h9 => h9) hown hK hP 0 rfl rfl 6 (by decide) hw1 rfl rfl dX3_wrong_1 ?_
  refine lv_iload_n hx hb dX3_wrong_4 rfl (lv_at hl 1 rfl) ?_
  have hPc := hP.sub (ws' := lzDoor G (q 6) qh D F) [1, 2, 3, 4, 5, 6, 7, 8, 9, 10, 11] rfl
  refine ro_calli (va_runV (As := [.int a]) (rest := []) ⟨hx, hb, hml, hown, hts⟩ (c_X1_isVisitor l G (q 6) qh D F a ) (cwV 1 hts gX3_wrong_X1_isVisitor rfl rfl rfl (by decide +kernel) ⟨Nat.le_of_ble_eq_true rfl, Nat.le_of_ble_eq_true rfl⟩) (ro_preV hK hPc hP (ci := 1) (q0 := 1) rfl rfl) rfl rfl hl.1 rfl (lv_room (Nat.le_of_ble_eq_true rfl)) dX3_wrong_5 ⟨Nat.zero_le _, Nat.zero_le _⟩) (fun r_1 hr_1 => ?_)
  refine lv_if_eq (tgt := 22) hx hb dX3_wrong_8 (by decide) (fun c_8 => ?_) (fun c_8 => ?_)
  · skip
    have c_8 := b2_z hr_1 c_8
    refine lv_ldc hx hb hown hw2 dX3_wrong_22 ?_
    exact ro_iret hx hb hr hlk dX3_wrong_24 (rfl)
  · skip
    have c_8 := b2_n hr_1 c_8
    refine lv_aload_n hx hb dX3_wrong_11 rfl (lv_at hl 0 rfl) ?_
    refine lz_get (G := G) (ci := 3) (v := .ref (q 6)) (C := RX3) (T := TX3) (N := 13) hx hb hu_wsX30 (fun _ h9 => h9) hown hK hP 0 rfl rfl 6 (by decide) hw1 rfl rfl dX3_wrong_12 ?_
    refine lv_iload_n hx hb dX3_wrong_15 rfl (lv_at hl 2 rfl) ?_
    have hPc := hP.sub (ws' := lzDoor G (q 6) qh D F) [1, 2, 3, 4, 5, 6, 7, 8, 9, 10, 11] rfl
    refine ro_calli (va_runV (As := [.int set]) (rest := []) ⟨hx, hb, hml, hown, hts⟩ (c_X1_areSquares l G (q 6) qh D F set ) (cwV 1 hts gX3_wrong_X1_areSquares rfl rfl rfl (by decide +kernel) ⟨Nat.le_of_ble_eq_true rfl, Nat.le_of_ble_eq_true rfl⟩) (ro_preV hK hPc hP (ci := 1) (q0 := 1) rfl rfl) rfl rfl hl.1 rfl (lv_room (Nat.le_of_ble_eq_true rfl)) dX3_wrong_16 ⟨Nat.zero_le _, Nat.zero_le _⟩) (fun r_2 hr_2 => ?_)
    refine lv_if_ne (tgt := 25) hx hb dX3_wrong_19 (by decide) (fun c_19 => ?_) (fun c_19 => ?_)
    · skip
      have c_19 := b2_n hr_2 c_19
      exact Bool.noConfusion (hbad.symm.trans (by rw [c_8, c_19]; rfl))
    · skip
      have c_19 := b2_z hr_2 c_19
      refine lv_ldc hx hb hown hw2 dX3_wrong_22 ?_
      exact ro_iret hx hb hr hlk dX3_wrong_24 (rfl)
set_option maxHeartbeats 4000000 in
set_option maxRecDepth 100000 in
theorem c_X3_wrong_ok (l : Launch) (G : lzG) (x : Nat) (q : Nat → Nat) (S : Nat → Int32) (qh : Nat → Nat) (D : Nat → Int32) (F : Nat → Nat → Int32) (v : Nat) (set : Int32) (N M : Nat) (hN : D 2 = nI N) (hN8 : N ≤ 8) (hM : D 3 = nI M) (hM5 : M ≤ 5) (hv : v < M) (hset : inR set 0 ((1 <<< (D 2 &&& 31)) - 1) = true) : Met l yX3_wrong wsX3_wrong ({ frames := 5, cells := 0, slots := 0, locals := 112 }) (va_Pc [.ref x, .int (nI v), .int set] (roP G (lzX x q S ++ lzDoor G (q 6) qh D F))) (vp_Si (fun r => r = bcI (wrbD D F v N &&& set))) 0 0 (fun _ => False) := by
  have hA : inR (nI v) 0 (D 3 - 1) = true := inR_ok hM hv (by omega)
  refine ro_start (cc := cX3_wrong) (maxL := 3) (ret := (some .int)) (by decide) rfl (Nat.le_of_ble_eq_true rfl) ?_
  intro pp ee ss mm bl me cd hx hb hr hlk hml hts hown hP hK ls hl
  have hown : ss.vm.findClass RX3 = some mm.cls := hown
  have hw1 := hts (.fieldLink RX3 38 "LampSquares" "here" "LLampSquares$Door;") (List.mem_of_getElem? (i := 1) rfl)
  have hu_wsX30 : ∀ w ∈ wsX30, w.before ([.ref x, .int (nI v), .int set] : List Value).toArray ss = true := fun w h9 => hts w (List.mem_cons_of_mem _ (List.mem_append_left _ (List.mem_append_right _ h9)))
  have hl : lv_has ls 3 [(0, .ref x), (1, .int (nI v)), (2, .int set)] := hl
  refine lv_aload_n hx hb dX3_wrong_0 rfl (lv_at hl 0 rfl) ?_
  refine lz_get (G := G) (ci := 3) (v := .ref (q 6)) (C := RX3) (T := TX3) (N := 13) hx hb hu_wsX30 (fun _ h9 => h9) hown hK hP 0 rfl rfl 6 (by decide) hw1 rfl rfl dX3_wrong_1 ?_
  refine lv_iload_n hx hb dX3_wrong_4 rfl (lv_at hl 1 rfl) ?_
  have hPc := hP.sub (ws' := lzDoor G (q 6) qh D F) [1, 2, 3, 4, 5, 6, 7, 8, 9, 10, 11] rfl
  refine ro_calli (va_runV (As := [.int (nI v)]) (rest := []) ⟨hx, hb, hml, hown, hts⟩ (c_X1_isVisitor l G (q 6) qh D F (nI v) ) (cwV 1 hts gX3_wrong_X1_isVisitor rfl rfl rfl (by decide +kernel) ⟨Nat.le_of_ble_eq_true rfl, Nat.le_of_ble_eq_true rfl⟩) (ro_preV hK hPc hP (ci := 1) (q0 := 1) rfl rfl) rfl rfl hl.1 rfl (lv_room (Nat.le_of_ble_eq_true rfl)) dX3_wrong_5 ⟨Nat.zero_le _, Nat.zero_le _⟩) (fun r_1 hr_1 => ?_)
  refine lv_if_eq (tgt := 22) hx hb dX3_wrong_8 (by decide) (fun c_8 => ?_) (fun c_8 => ?_)
  · skip
    have c_8 := b2_z hr_1 c_8
    exact Bool.noConfusion (hA.symm.trans c_8)
  · skip
    have c_8 := b2_n hr_1 c_8
    refine lv_aload_n hx hb dX3_wrong_11 rfl (lv_at hl 0 rfl) ?_
    refine lz_get (G := G) (ci := 3) (v := .ref (q 6)) (C := RX3) (T := TX3) (N := 13) hx hb hu_wsX30 (fun _ h9 => h9) hown hK hP 0 rfl rfl 6 (by decide) hw1 rfl rfl dX3_wrong_12 ?_
    refine lv_iload_n hx hb dX3_wrong_15 rfl (lv_at hl 2 rfl) ?_
    have hPc := hP.sub (ws' := lzDoor G (q 6) qh D F) [1, 2, 3, 4, 5, 6, 7, 8, 9, 10, 11] rfl
    refine ro_calli (va_runV (As := [.int set]) (rest := []) ⟨hx, hb, hml, hown, hts⟩ (c_X1_areSquares l G (q 6) qh D F set ) (cwV 1 hts gX3_wrong_X1_areSquares rfl rfl rfl (by decide +kernel) ⟨Nat.le_of_ble_eq_true rfl, Nat.le_of_ble_eq_true rfl⟩) (ro_preV hK hPc hP (ci := 1) (q0 := 1) rfl rfl) rfl rfl hl.1 rfl (lv_room (Nat.le_of_ble_eq_true rfl)) dX3_wrong_16 ⟨Nat.zero_le _, Nat.zero_le _⟩) (fun r_2 hr_2 => ?_)
    refine lv_if_ne (tgt := 25) hx hb dX3_wrong_19 (by decide) (fun c_19 => ?_) (fun c_19 => ?_)
    · skip
      have c_19 := b2_n hr_2 c_19
      refine lv_aload_n hx hb dX3_wrong_25 rfl (lv_at hl 0 rfl) ?_
      refine lz_get (G := G) (ci := 3) (v := .ref (q 6)) (C := RX3) (T := TX3) (N := 13) hx hb hu_wsX30 (fun _ h9 => h9) hown hK hP 0 rfl rfl 6 (by decide) hw1 rfl rfl dX3_wrong_26 ?_
      refine lv_iload_n hx hb dX3_wrong_29 rfl (lv_at hl 1 rfl) ?_
      refine lv_iload_n hx hb dX3_wrong_30 rfl (lv_at hl 2 rfl) ?_
      have hPc := hP.sub (ws' := lzDoor G (q 6) qh D F) [1, 2, 3, 4, 5, 6, 7, 8, 9, 10, 11] rfl
      refine ro_calli (va_runV (As := [.int (nI v), .int set]) (rest := []) ⟨hx, hb, hml, hown, hts⟩ (c_X1_timesWrong l G (q 6) qh D F v set N (by omega) (hN) (hN8)) (cwV 2 hts gX3_wrong_X1_timesWrong rfl rfl rfl (by decide +kernel) ⟨Nat.le_of_ble_eq_true rfl, Nat.le_of_ble_eq_true rfl⟩) (ro_preV hK hPc hP (ci := 1) (q0 := 1) rfl rfl) rfl rfl hl.1 rfl (lv_room (Nat.le_of_ble_eq_true rfl)) dX3_wrong_31 ⟨Nat.zero_le _, Nat.zero_le _⟩) (fun r_3 hr_3 => ?_)
      refine lz_top (y := bcI (wrbD D F v N &&& set)) hr_3 ?_
      exact ro_iret hx hb hr hlk dX3_wrong_34 (rfl)
    · skip
      have c_19 := b2_z hr_2 c_19
      exact Bool.noConfusion (hset.symm.trans c_19)
