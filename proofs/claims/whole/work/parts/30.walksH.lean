set_option maxHeartbeats 4000000 in
set_option maxRecDepth 100000 in
theorem c_X3_fault (l : Launch) (G : lzG) (x : Nat) (q : Nat → Nat) (S : Nat → Int32)  : Met l yX3_fault wsX3_fault ({ frames := 0, cells := 0, slots := 0, locals := 0 }) (va_Pc [.ref x] (roP G (lzX x q S))) (vp_Si (fun r => r = S 5)) 0 0 (fun _ => False) := by
  refine ro_start (cc := cX3_fault) (maxL := 1) (ret := (some .int)) (by decide) rfl (Nat.le_of_ble_eq_true rfl) ?_
  intro pp ee ss mm bl me cd hx hb hr hlk hml hts hown hP hK ls hl
  have hown : ss.vm.findClass RX3 = some mm.cls := hown
  have hw1 := hts (.fieldLink RX3 32 "LampSquares" "latestFault" "I") (List.mem_of_getElem? (i := 1) rfl)
  have hu_wsX30 : ∀ w ∈ wsX30, w.before ([.ref x] : List Value).toArray ss = true := fun w h9 => hts w (List.mem_cons_of_mem _ (List.mem_append_right _ h9))
  have hl : lv_has ls 1 [(0, .ref x)] := hl
  refine lv_aload_n hx hb dX3_fault_0 rfl (lv_at hl 0 rfl) ?_
  refine lz_get (G := G) (ci := 3) (v := .int (S 5)) (C := RX3) (T := TX3) (N := 13) hx hb hu_wsX30 (fun _ h9 => h9) hown hK hP 0 rfl rfl 5 (by decide) hw1 rfl rfl dX3_fault_1 ?_
  exact ro_iret hx hb hr hlk dX3_fault_4 (rfl)
set_option maxHeartbeats 4000000 in
set_option maxRecDepth 100000 in
theorem c_X3_status (l : Launch) (G : lzG) (x : Nat) (q : Nat → Nat) (S : Nat → Int32)  : Met l yX3_status wsX3_status ({ frames := 0, cells := 0, slots := 0, locals := 0 }) (va_Pc [.ref x] (roP G (lzX x q S))) (vp_Si (fun r => r = S 3)) 0 0 (fun _ => False) := by
  refine ro_start (cc := cX3_status) (maxL := 1) (ret := (some .int)) (by decide) rfl (Nat.le_of_ble_eq_true rfl) ?_
  intro pp ee ss mm bl me cd hx hb hr hlk hml hts hown hP hK ls hl
  have hown : ss.vm.findClass RX3 = some mm.cls := hown
  have hw1 := hts (.fieldLink RX3 21 "LampSquares" "finding" "I") (List.mem_of_getElem? (i := 1) rfl)
  have hu_wsX30 : ∀ w ∈ wsX30, w.before ([.ref x] : List Value).toArray ss = true := fun w h9 => hts w (List.mem_cons_of_mem _ (List.mem_append_right _ h9))
  have hl : lv_has ls 1 [(0, .ref x)] := hl
  refine lv_aload_n hx hb dX3_status_0 rfl (lv_at hl 0 rfl) ?_
  refine lz_get (G := G) (ci := 3) (v := .int (S 3)) (C := RX3) (T := TX3) (N := 13) hx hb hu_wsX30 (fun _ h9 => h9) hown hK hP 0 rfl rfl 3 (by decide) hw1 rfl rfl dX3_status_1 ?_
  exact ro_iret hx hb hr hlk dX3_status_4 (rfl)
set_option maxHeartbeats 4000000 in
set_option maxRecDepth 100000 in
theorem c_X3_kind_bad (l : Launch) (G : lzG) (x : Nat) (q : Nat → Nat) (S : Nat → Int32) (qh : Nat → Nat) (D : Nat → Int32) (F : Nat → Nat → Int32) (a : Int32) (hbad : inR a 0 (D 2 - 1) = false) : Met l yX3_kind wsX3_kind ({ frames := 2, cells := 0, slots := 0, locals := 43 }) (va_Pc [.ref x, .int a] (roP G (lzX x q S ++ lzDoor G (q 6) qh D F))) (vp_Si (fun r => r = -1000001)) 0 0 (fun _ => False) := by
  refine ro_start (cc := cX3_kind) (maxL := 2) (ret := (some .int)) (by decide) rfl (Nat.le_of_ble_eq_true rfl) ?_
  intro pp ee ss mm bl me cd hx hb hr hlk hml hts hown hP hK ls hl
  have hown : ss.vm.findClass RX3 = some mm.cls := hown
  have hw1 := hts (.fieldLink RX3 38 "LampSquares" "here" "LLampSquares$Door;") (List.mem_of_getElem? (i := 1) rfl)
  have hw3 := hts (.constant RX3 81 (-1000001)) (List.mem_of_getElem? (i := 3) rfl)
  have hu_wsX30 : ∀ w ∈ wsX30, w.before ([.ref x, .int a] : List Value).toArray ss = true := fun w h9 => hts w (List.mem_cons_of_mem _ (List.mem_append_left _ (List.mem_append_right _ h9)))
  have hl : lv_has ls 2 [(0, .ref x), (1, .int a)] := hl
  refine lv_aload_n hx hb dX3_kind_0 rfl (lv_at hl 0 rfl) ?_
  refine lz_get (G := G) (ci := 3) (v := .ref (q 6)) (C := RX3) (T := TX3) (N := 13) hx hb hu_wsX30 (fun _ h9 => h9) hown hK hP 0 rfl rfl 6 (by decide) hw1 rfl rfl dX3_kind_1 ?_
  refine lv_iload_n hx hb dX3_kind_4 rfl (lv_at hl 1 rfl) ?_
  have hPc := hP.sub (ws' := lzDoor G (q 6) qh D F) [1, 2, 3, 4, 5, 6, 7, 8, 9, 10, 11] rfl
  refine ro_calli (va_runV (As := [.int a]) (rest := []) ⟨hx, hb, hml, hown, hts⟩ (c_X1_isSquare l G (q 6) qh D F a ) (cwV 1 hts gX3_kind_X1_isSquare rfl rfl rfl (by decide +kernel) ⟨Nat.le_of_ble_eq_true rfl, Nat.le_of_ble_eq_true rfl⟩) (ro_preV hK hPc hP (ci := 1) (q0 := 1) rfl rfl) rfl rfl hl.1 rfl (lv_room (Nat.le_of_ble_eq_true rfl)) dX3_kind_5 ⟨Nat.zero_le _, Nat.zero_le _⟩) (fun r_1 hr_1 => ?_)
  refine lv_if_eq (tgt := 23) hx hb dX3_kind_8 (by decide) (fun c_8 => ?_) (fun c_8 => ?_)
  · skip
    have c_8 := b2_z hr_1 c_8
    refine lv_ldc hx hb hown hw3 dX3_kind_23 ?_
    exact ro_iret hx hb hr hlk dX3_kind_25 (rfl)
  · skip
    have c_8 := b2_n hr_1 c_8
    exact Bool.noConfusion (hbad.symm.trans c_8)
set_option maxHeartbeats 4000000 in
set_option maxRecDepth 100000 in
theorem c_X3_kind_ok (l : Launch) (G : lzG) (x : Nat) (q : Nat → Nat) (S : Nat → Int32) (qh : Nat → Nat) (D : Nat → Int32) (F : Nat → Nat → Int32) (s N : Nat) (hN : D 2 = nI N) (hN8 : N ≤ 8) (hs : s < N) : Met l yX3_kind wsX3_kind ({ frames := 2, cells := 0, slots := 0, locals := 43 }) (va_Pc [.ref x, .int (nI s)] (roP G (lzX x q S ++ lzDoor G (q 6) qh D F))) (vp_Si (fun r => r = F 4 s)) 0 0 (fun _ => False) := by
  have hB : inR (nI s) 0 (D 2 - 1) = true := inR_ok hN hs (by omega)
  refine ro_start (cc := cX3_kind) (maxL := 2) (ret := (some .int)) (by decide) rfl (Nat.le_of_ble_eq_true rfl) ?_
  intro pp ee ss mm bl me cd hx hb hr hlk hml hts hown hP hK ls hl
  have hown : ss.vm.findClass RX3 = some mm.cls := hown
  have hw1 := hts (.fieldLink RX3 38 "LampSquares" "here" "LLampSquares$Door;") (List.mem_of_getElem? (i := 1) rfl)
  have hw2 := hts (.fieldLink RX3 197 "LampSquares$Door" "kindOf" "[I") (List.mem_of_getElem? (i := 2) rfl)
  have hu_wsX10 : ∀ w ∈ wsX10, w.before ([.ref x, .int (nI s)] : List Value).toArray ss = true := fun w h9 => hts w (List.mem_cons_of_mem _ (List.mem_append_right _ h9))
  have hu_wsX30 : ∀ w ∈ wsX30, w.before ([.ref x, .int (nI s)] : List Value).toArray ss = true := fun w h9 => hts w (List.mem_cons_of_mem _ (List.mem_append_left _ (List.mem_append_right _ h9)))
  have hl : lv_has ls 2 [(0, .ref x), (1, .int (nI s))] := hl
  refine lv_aload_n hx hb dX3_kind_0 rfl (lv_at hl 0 rfl) ?_
  refine lz_get (G := G) (ci := 3) (v := .ref (q 6)) (C := RX3) (T := TX3) (N := 13) hx hb hu_wsX30 (fun _ h9 => h9) hown hK hP 0 rfl rfl 6 (by decide) hw1 rfl rfl dX3_kind_1 ?_
  refine lv_iload_n hx hb dX3_kind_4 rfl (lv_at hl 1 rfl) ?_
  have hPc := hP.sub (ws' := lzDoor G (q 6) qh D F) [1, 2, 3, 4, 5, 6, 7, 8, 9, 10, 11] rfl
  refine ro_calli (va_runV (As := [.int (nI s)]) (rest := []) ⟨hx, hb, hml, hown, hts⟩ (c_X1_isSquare l G (q 6) qh D F (nI s) ) (cwV 1 hts gX3_kind_X1_isSquare rfl rfl rfl (by decide +kernel) ⟨Nat.le_of_ble_eq_true rfl, Nat.le_of_ble_eq_true rfl⟩) (ro_preV hK hPc hP (ci := 1) (q0 := 1) rfl rfl) rfl rfl hl.1 rfl (lv_room (Nat.le_of_ble_eq_true rfl)) dX3_kind_5 ⟨Nat.zero_le _, Nat.zero_le _⟩) (fun r_1 hr_1 => ?_)
  refine lv_if_eq (tgt := 23) hx hb dX3_kind_8 (by decide) (fun c_8 => ?_) (fun c_8 => ?_)
  · skip
    have c_8 := b2_z hr_1 c_8
    exact Bool.noConfusion (hB.symm.trans c_8)
  · skip
    have c_8 := b2_n hr_1 c_8
    refine lv_aload_n hx hb dX3_kind_11 rfl (lv_at hl 0 rfl) ?_
    refine lz_get (G := G) (ci := 3) (v := .ref (q 6)) (C := RX3) (T := TX3) (N := 13) hx hb hu_wsX30 (fun _ h9 => h9) hown hK hP 0 rfl rfl 6 (by decide) hw1 rfl rfl dX3_kind_12 ?_
    refine lz_get (G := G) (ci := 1) (v := .ref (qh 4)) (C := RX1) (T := TX1) (N := 14) hx hb hu_wsX10 (fun _ h9 => h9) hown hK hP 1 rfl rfl 4 (by decide) hw2 rfl rfl dX3_kind_15 ?_
    refine lv_iload_n hx hb dX3_kind_18 rfl (lv_at hl 1 rfl) ?_
    refine lz_iald (f := F 4) hx hb hK hP 2 rfl s (by omega) (Nat.le_of_ble_eq_true rfl) dX3_kind_19 ?_
    refine lv_goto (tgt := 25) hx hb dX3_kind_20 (by decide) ?_
    exact ro_iret hx hb hr hlk dX3_kind_25 (rfl)
set_option maxHeartbeats 4000000 in
set_option maxRecDepth 100000 in
theorem c_X3_square_bad (l : Launch) (G : lzG) (x : Nat) (q : Nat → Nat) (S : Nat → Int32) (qh : Nat → Nat) (D : Nat → Int32) (F : Nat → Nat → Int32) (a what : Int32) (hbad : inR a 0 (D 2 - 1) = false) : Met l yX3_square wsX3_square ({ frames := 2, cells := 0, slots := 0, locals := 43 }) (va_Pc [.ref x, .int a, .int what] (roP G (lzX x q S ++ lzDoor G (q 6) qh D F))) (vp_Si (fun r => r = -1000001)) 0 0 (fun _ => False) := by
  refine ro_start (cc := cX3_square) (maxL := 3) (ret := (some .int)) (by decide) rfl (Nat.le_of_ble_eq_true rfl) ?_
  intro pp ee ss mm bl me cd hx hb hr hlk hml hts hown hP hK ls hl
  have hown : ss.vm.findClass RX3 = some mm.cls := hown
  have hw1 := hts (.fieldLink RX3 38 "LampSquares" "here" "LLampSquares$Door;") (List.mem_of_getElem? (i := 1) rfl)
  have hw2 := hts (.constant RX3 81 (-1000001)) (List.mem_of_getElem? (i := 2) rfl)
  have hu_wsX30 : ∀ w ∈ wsX30, w.before ([.ref x, .int a, .int what] : List Value).toArray ss = true := fun w h9 => hts w (List.mem_cons_of_mem _ (List.mem_append_left _ (List.mem_append_right _ h9)))
  have hl : lv_has ls 3 [(0, .ref x), (1, .int a), (2, .int what)] := hl
  refine lv_aload_n hx hb dX3_square_0 rfl (lv_at hl 0 rfl) ?_
  refine lz_get (G := G) (ci := 3) (v := .ref (q 6)) (C := RX3) (T := TX3) (N := 13) hx hb hu_wsX30 (fun _ h9 => h9) hown hK hP 0 rfl rfl 6 (by decide) hw1 rfl rfl dX3_square_1 ?_
  refine lv_iload_n hx hb dX3_square_4 rfl (lv_at hl 1 rfl) ?_
  have hPc := hP.sub (ws' := lzDoor G (q 6) qh D F) [1, 2, 3, 4, 5, 6, 7, 8, 9, 10, 11] rfl
  refine ro_calli (va_runV (As := [.int a]) (rest := []) ⟨hx, hb, hml, hown, hts⟩ (c_X1_isSquare l G (q 6) qh D F a ) (cwV 1 hts gX3_square_X1_isSquare rfl rfl rfl (by decide +kernel) ⟨Nat.le_of_ble_eq_true rfl, Nat.le_of_ble_eq_true rfl⟩) (ro_preV hK hPc hP (ci := 1) (q0 := 1) rfl rfl) rfl rfl hl.1 rfl (lv_room (Nat.le_of_ble_eq_true rfl)) dX3_square_5 ⟨Nat.zero_le _, Nat.zero_le _⟩) (fun r_1 hr_1 => ?_)
  refine lv_if_ne (tgt := 14) hx hb dX3_square_8 (by decide) (fun c_8 => ?_) (fun c_8 => ?_)
  · skip
    have c_8 := b2_n hr_1 c_8
    exact Bool.noConfusion (hbad.symm.trans c_8)
  · skip
    have c_8 := b2_z hr_1 c_8
    refine lv_ldc hx hb hown hw2 dX3_square_11 ?_
    exact ro_iret hx hb hr hlk dX3_square_13 (rfl)
set_option maxHeartbeats 4000000 in
set_option maxRecDepth 100000 in
theorem c_X3_square_ok (l : Launch) (G : lzG) (x : Nat) (q : Nat → Nat) (S : Nat → Int32) (qh : Nat → Nat) (D : Nat → Int32) (F : Nat → Nat → Int32) (s N : Nat) (what : Int32) (hN : D 2 = nI N) (hN8 : N ≤ 8) (hs : s < N) : Met l yX3_square wsX3_square ({ frames := 2, cells := 0, slots := 0, locals := 43 }) (va_Pc [.ref x, .int (nI s), .int what] (roP G (lzX x q S ++ lzDoor G (q 6) qh D F))) (vp_Si (fun r => r = squD D F s what)) 0 0 (fun _ => False) := by
  have hB : inR (nI s) 0 (D 2 - 1) = true := inR_ok hN hs (by omega)
  refine ro_start (cc := cX3_square) (maxL := 3) (ret := (some .int)) (by decide) rfl (Nat.le_of_ble_eq_true rfl) ?_
  intro pp ee ss mm bl me cd hx hb hr hlk hml hts hown hP hK ls hl
  have hown : ss.vm.findClass RX3 = some mm.cls := hown
  have hw1 := hts (.fieldLink RX3 38 "LampSquares" "here" "LLampSquares$Door;") (List.mem_of_getElem? (i := 1) rfl)
  have hw2 := hts (.constant RX3 81 (-1000001)) (List.mem_of_getElem? (i := 2) rfl)
  have hw3 := hts (.fieldLink RX3 164 "LampSquares$Door" "shareOf" "[I") (List.mem_of_getElem? (i := 3) rfl)
  have hw4 := hts (.fieldLink RX3 176 "LampSquares$Door" "edge" "I") (List.mem_of_getElem? (i := 4) rfl)
  have hw5 := hts (.fieldLink RX3 179 "LampSquares$Door" "votesFor" "[I") (List.mem_of_getElem? (i := 5) rfl)
  have hw6 := hts (.fieldLink RX3 182 "LampSquares$Door" "votesAgainst" "[I") (List.mem_of_getElem? (i := 6) rfl)
  have hw7 := hts (.fieldLink RX3 173 "LampSquares$Door" "settledAs" "[I") (List.mem_of_getElem? (i := 7) rfl)
  have hu_wsX10 : ∀ w ∈ wsX10, w.before ([.ref x, .int (nI s), .int what] : List Value).toArray ss = true := fun w h9 => hts w (List.mem_cons_of_mem _ (List.mem_append_right _ h9))
  have hu_wsX30 : ∀ w ∈ wsX30, w.before ([.ref x, .int (nI s), .int what] : List Value).toArray ss = true := fun w h9 => hts w (List.mem_cons_of_mem _ (List.mem_append_left _ (List.mem_append_right _ h9)))
  have hl : lv_has ls 3 [(0, .ref x), (1, .int (nI s)), (2, .int what)] := hl
  refine lv_aload_n hx hb dX3_square_0 rfl (lv_at hl 0 rfl) ?_
  refine lz_get (G := G) (ci := 3) (v := .ref (q 6)) (C := RX3) (T := TX3) (N := 13) hx hb hu_wsX30 (fun _ h9 => h9) hown hK hP 0 rfl rfl 6 (by decide) hw1 rfl rfl dX3_square_1 ?_
  refine lv_iload_n hx hb dX3_square_4 rfl (lv_at hl 1 rfl) ?_
  have hPc := hP.sub (ws' := lzDoor G (q 6) qh D F) [1, 2, 3, 4, 5, 6, 7, 8, 9, 10, 11] rfl
  refine ro_calli (va_runV (As := [.int (nI s)]) (rest := []) ⟨hx, hb, hml, hown, hts⟩ (c_X1_isSquare l G (q 6) qh D F (nI s) ) (cwV 1 hts gX3_square_X1_isSquare rfl rfl rfl (by decide +kernel) ⟨Nat.le_of_ble_eq_true rfl, Nat.le_of_ble_eq_true rfl⟩) (ro_preV hK hPc hP (ci := 1) (q0 := 1) rfl rfl) rfl rfl hl.1 rfl (lv_room (Nat.le_of_ble_eq_true rfl)) dX3_square_5 ⟨Nat.zero_le _, Nat.zero_le _⟩) (fun r_1 hr_1 => ?_)
  refine lv_if_ne (tgt := 14) hx hb dX3_square_8 (by decide) (fun c_8 => ?_) (fun c_8 => ?_)
  · skip
    have c_8 := b2_n hr_1 c_8
    refine lv_iload_n hx hb dX3_square_14 rfl (lv_at hl 2 rfl) ?_
    by_cases v_15_0 : what = 0
    · refine lv_tableIn (off := 37) (tgt := 52) hx hb dX3_square_15 (by rw [v_15_0]; decide) (by rw [v_15_0]; decide) (by rw [v_15_0]; rfl) (by decide) ?_
      refine lv_aload_n hx hb dX3_square_52 rfl (lv_at hl 0 rfl) ?_
      refine lz_get (G := G) (ci := 3) (v := .ref (q 6)) (C := RX3) (T := TX3) (N := 13) hx hb hu_wsX30 (fun _ h9 => h9) hown hK hP 0 rfl rfl 6 (by decide) hw1 rfl rfl dX3_square_53 ?_
      refine lz_get (G := G) (ci := 1) (v := .ref (qh 5)) (C := RX1) (T := TX1) (N := 14) hx hb hu_wsX10 (fun _ h9 => h9) hown hK hP 1 rfl rfl 5 (by decide) hw3 rfl rfl dX3_square_56 ?_
      refine lv_iload_n hx hb dX3_square_59 rfl (lv_at hl 1 rfl) ?_
      refine lz_iald (f := F 5) hx hb hK hP 3 rfl s (by omega) (Nat.le_of_ble_eq_true rfl) dX3_square_60 ?_
      exact ro_iret hx hb hr hlk dX3_square_61 (by simp [squD, c_8, v_15_0, b2])
    by_cases v_15_1 : what = 1
    · refine lv_tableIn (off := 47) (tgt := 62) hx hb dX3_square_15 (by rw [v_15_1]; decide) (by rw [v_15_1]; decide) (by rw [v_15_1]; rfl) (by decide) ?_
      refine lv_aload_n hx hb dX3_square_62 rfl (lv_at hl 0 rfl) ?_
      refine lz_get (G := G) (ci := 3) (v := .ref (q 6)) (C := RX3) (T := TX3) (N := 13) hx hb hu_wsX30 (fun _ h9 => h9) hown hK hP 0 rfl rfl 6 (by decide) hw1 rfl rfl dX3_square_63 ?_
      refine lz_get (G := G) (ci := 1) (v := .ref (qh 5)) (C := RX1) (T := TX1) (N := 14) hx hb hu_wsX10 (fun _ h9 => h9) hown hK hP 1 rfl rfl 5 (by decide) hw3 rfl rfl dX3_square_66 ?_
      refine lv_iload_n hx hb dX3_square_69 rfl (lv_at hl 1 rfl) ?_
      refine lz_iald (f := F 5) hx hb hK hP 3 rfl s (by omega) (Nat.le_of_ble_eq_true rfl) dX3_square_70 ?_
      refine lv_aload_n hx hb dX3_square_71 rfl (lv_at hl 0 rfl) ?_
      refine lz_get (G := G) (ci := 3) (v := .ref (q 6)) (C := RX3) (T := TX3) (N := 13) hx hb hu_wsX30 (fun _ h9 => h9) hown hK hP 0 rfl rfl 6 (by decide) hw1 rfl rfl dX3_square_72 ?_
      refine lz_get (G := G) (ci := 1) (v := .int (D 0)) (C := RX1) (T := TX1) (N := 14) hx hb hu_wsX10 (fun _ h9 => h9) hown hK hP 1 rfl rfl 0 (by decide) hw4 rfl rfl dX3_square_75 ?_
      refine lv_icmp_lt (tgt := 85) hx hb dX3_square_78 (by decide) (fun c_78 => ?_) (fun c_78 => ?_)
      · skip
        have c_78' := Int32.not_le.mpr c_78
        refine lv_iconst (v := 0) hx hb dX3_square_85 (by decide) ?_
        exact ro_iret hx hb hr hlk dX3_square_86 (by simp [squD, c_8, v_15_1, c_78, c_78', b2])
      · skip
        have c_78' := Int32.not_lt.mp c_78
        refine lv_iconst (v := 1) hx hb dX3_square_81 (by decide) ?_
        refine lv_goto (tgt := 86) hx hb dX3_square_82 (by decide) ?_
        exact ro_iret hx hb hr hlk dX3_square_86 (by simp [squD, c_8, v_15_1, c_78, c_78', b2])
    by_cases v_15_2 : what = 2
    · refine lv_tableIn (off := 72) (tgt := 87) hx hb dX3_square_15 (by rw [v_15_2]; decide) (by rw [v_15_2]; decide) (by rw [v_15_2]; rfl) (by decide) ?_
      refine lv_aload_n hx hb dX3_square_87 rfl (lv_at hl 0 rfl) ?_
      refine lz_get (G := G) (ci := 3) (v := .ref (q 6)) (C := RX3) (T := TX3) (N := 13) hx hb hu_wsX30 (fun _ h9 => h9) hown hK hP 0 rfl rfl 6 (by decide) hw1 rfl rfl dX3_square_88 ?_
      refine lv_iload_n hx hb dX3_square_91 rfl (lv_at hl 1 rfl) ?_
      have hPc := hP.sub (ws' := lzDoor G (q 6) qh D F) [1, 2, 3, 4, 5, 6, 7, 8, 9, 10, 11] rfl
      refine ro_calli (va_runV (As := [.int (nI s)]) (rest := []) ⟨hx, hb, hml, hown, hts⟩ (c_X1_isCounted l G (q 6) qh D F s (by omega)) (cwV 1 hts gX3_square_X1_isCounted rfl rfl rfl (by decide +kernel) ⟨Nat.le_of_ble_eq_true rfl, Nat.le_of_ble_eq_true rfl⟩) (ro_preV hK hPc hP (ci := 1) (q0 := 1) rfl rfl) rfl rfl hl.1 rfl (lv_room (Nat.le_of_ble_eq_true rfl)) dX3_square_92 ⟨Nat.zero_le _, Nat.zero_le _⟩) (fun r_2 hr_2 => ?_)
      refine lv_if_eq (tgt := 102) hx hb dX3_square_95 (by decide) (fun c_95 => ?_) (fun c_95 => ?_)
      · skip
        have c_95 := b2_z hr_2 c_95
        refine lv_iconst (v := 0) hx hb dX3_square_102 (by decide) ?_
        exact ro_iret hx hb hr hlk dX3_square_103 (by simp [squD, c_8, v_15_2, c_95, b2])
      · skip
        have c_95 := b2_n hr_2 c_95
        refine lv_iconst (v := 1) hx hb dX3_square_98 (by decide) ?_
        refine lv_goto (tgt := 103) hx hb dX3_square_99 (by decide) ?_
        exact ro_iret hx hb hr hlk dX3_square_103 (by simp [squD, c_8, v_15_2, c_95, b2])
    by_cases v_15_3 : what = 3
    · refine lv_tableIn (off := 89) (tgt := 104) hx hb dX3_square_15 (by rw [v_15_3]; decide) (by rw [v_15_3]; decide) (by rw [v_15_3]; rfl) (by decide) ?_
      refine lv_aload_n hx hb dX3_square_104 rfl (lv_at hl 0 rfl) ?_
      refine lz_get (G := G) (ci := 3) (v := .ref (q 6)) (C := RX3) (T := TX3) (N := 13) hx hb hu_wsX30 (fun _ h9 => h9) hown hK hP 0 rfl rfl 6 (by decide) hw1 rfl rfl dX3_square_105 ?_
      refine lz_get (G := G) (ci := 1) (v := .ref (qh 6)) (C := RX1) (T := TX1) (N := 14) hx hb hu_wsX10 (fun _ h9 => h9) hown hK hP 1 rfl rfl 6 (by decide) hw5 rfl rfl dX3_square_108 ?_
      refine lv_iload_n hx hb dX3_square_111 rfl (lv_at hl 1 rfl) ?_
      refine lz_iald (f := F 6) hx hb hK hP 4 rfl s (by omega) (Nat.le_of_ble_eq_true rfl) dX3_square_112 ?_
      exact ro_iret hx hb hr hlk dX3_square_113 (by simp [squD, c_8, v_15_3, b2])
    by_cases v_15_4 : what = 4
    · refine lv_tableIn (off := 99) (tgt := 114) hx hb dX3_square_15 (by rw [v_15_4]; decide) (by rw [v_15_4]; decide) (by rw [v_15_4]; rfl) (by decide) ?_
      refine lv_aload_n hx hb dX3_square_114 rfl (lv_at hl 0 rfl) ?_
      refine lz_get (G := G) (ci := 3) (v := .ref (q 6)) (C := RX3) (T := TX3) (N := 13) hx hb hu_wsX30 (fun _ h9 => h9) hown hK hP 0 rfl rfl 6 (by decide) hw1 rfl rfl dX3_square_115 ?_
      refine lz_get (G := G) (ci := 1) (v := .ref (qh 7)) (C := RX1) (T := TX1) (N := 14) hx hb hu_wsX10 (fun _ h9 => h9) hown hK hP 1 rfl rfl 7 (by decide) hw6 rfl rfl dX3_square_118 ?_
      refine lv_iload_n hx hb dX3_square_121 rfl (lv_at hl 1 rfl) ?_
      refine lz_iald (f := F 7) hx hb hK hP 5 rfl s (by omega) (Nat.le_of_ble_eq_true rfl) dX3_square_122 ?_
      exact ro_iret hx hb hr hlk dX3_square_123 (by simp [squD, c_8, v_15_4, b2])
    by_cases v_15_5 : what = 5
    · refine lv_tableIn (off := 109) (tgt := 124) hx hb dX3_square_15 (by rw [v_15_5]; decide) (by rw [v_15_5]; decide) (by rw [v_15_5]; rfl) (by decide) ?_
      refine lv_aload_n hx hb dX3_square_124 rfl (lv_at hl 0 rfl) ?_
      refine lz_get (G := G) (ci := 3) (v := .ref (q 6)) (C := RX3) (T := TX3) (N := 13) hx hb hu_wsX30 (fun _ h9 => h9) hown hK hP 0 rfl rfl 6 (by decide) hw1 rfl rfl dX3_square_125 ?_
      refine lz_get (G := G) (ci := 1) (v := .ref (qh 8)) (C := RX1) (T := TX1) (N := 14) hx hb hu_wsX10 (fun _ h9 => h9) hown hK hP 1 rfl rfl 8 (by decide) hw7 rfl rfl dX3_square_128 ?_
      refine lv_iload_n hx hb dX3_square_131 rfl (lv_at hl 1 rfl) ?_
      refine lz_iald (f := F 8) hx hb hK hP 6 rfl s (by omega) (Nat.le_of_ble_eq_true rfl) dX3_square_132 ?_
      exact ro_iret hx hb hr hlk dX3_square_133 (by simp [squD, c_8, v_15_5, b2])
    have v_15_0T : ¬ Int32.toInt what = 0 := lv_neT v_15_0 rfl
    have v_15_1T : ¬ Int32.toInt what = 1 := lv_neT v_15_1 rfl
    have v_15_2T : ¬ Int32.toInt what = 2 := lv_neT v_15_2 rfl
    have v_15_3T : ¬ Int32.toInt what = 3 := lv_neT v_15_3 rfl
    have v_15_4T : ¬ Int32.toInt what = 4 := lv_neT v_15_4 rfl
    have v_15_5T : ¬ Int32.toInt what = 5 := lv_neT v_15_5 rfl
    refine lv_tableOut (tgt := 134) hx hb dX3_square_15 (by omega) (by decide) ?_
    refine lv_ldc hx hb hown hw2 dX3_square_134 ?_
    exact ro_iret hx hb hr hlk dX3_square_136 (by simp [squD, c_8, v_15_0, v_15_1, v_15_2, v_15_3, v_15_4, v_15_5, b2])
  · skip
    have c_8 := b2_z hr_1 c_8
    exact Bool.noConfusion (hB.symm.trans c_8)
set_option maxHeartbeats 4000000 in
set_option maxRecDepth 100000 in
theorem c_X3_visitor_bad (l : Launch) (G : lzG) (x : Nat) (q : Nat → Nat) (S : Nat → Int32) (qh : Nat → Nat) (D : Nat → Int32) (F : Nat → Nat → Int32) (a what : Int32) (hbad : inR a 0 (D 3 - 1) = false) : Met l yX3_visitor wsX3_visitor ({ frames := 2, cells := 0, slots := 0, locals := 43 }) (va_Pc [.ref x, .int a, .int what] (roP G (lzX x q S ++ lzDoor G (q 6) qh D F))) (vp_Si (fun r => r = -1000001)) 0 0 (fun _ => False) := by
  refine ro_start (cc := cX3_visitor) (maxL := 3) (ret := (some .int)) (by decide) rfl (Nat.le_of_ble_eq_true rfl) ?_
  intro pp ee ss mm bl me cd hx hb hr hlk hml hts hown hP hK ls hl
  have hown : ss.vm.findClass RX3 = some mm.cls := hown
  have hw1 := hts (.fieldLink RX3 38 "LampSquares" "here" "LLampSquares$Door;") (List.mem_of_getElem? (i := 1) rfl)
  have hw2 := hts (.constant RX3 81 (-1000001)) (List.mem_of_getElem? (i := 2) rfl)
  have hu_wsX30 : ∀ w ∈ wsX30, w.before ([.ref x, .int a, .int what] : List Value).toArray ss = true := fun w h9 => hts w (List.mem_cons_of_mem _ (List.mem_append_left _ (List.mem_append_right _ h9)))
  have hl : lv_has ls 3 [(0, .ref x), (1, .int a), (2, .int what)] := hl
  refine lv_aload_n hx hb dX3_visitor_0 rfl (lv_at hl 0 rfl) ?_
  refine lz_get (G := G) (ci := 3) (v := .ref (q 6)) (C := RX3) (T := TX3) (N := 13) hx hb hu_wsX30 (fun _ h9 => h9) hown hK hP 0 rfl rfl 6 (by decide) hw1 rfl rfl dX3_visitor_1 ?_
  refine lv_iload_n hx hb dX3_visitor_4 rfl (lv_at hl 1 rfl) ?_
  have hPc := hP.sub (ws' := lzDoor G (q 6) qh D F) [1, 2, 3, 4, 5, 6, 7, 8, 9, 10, 11] rfl
  refine ro_calli (va_runV (As := [.int a]) (rest := []) ⟨hx, hb, hml, hown, hts⟩ (c_X1_isVisitor l G (q 6) qh D F a ) (cwV 1 hts gX3_visitor_X1_isVisitor rfl rfl rfl (by decide +kernel) ⟨Nat.le_of_ble_eq_true rfl, Nat.le_of_ble_eq_true rfl⟩) (ro_preV hK hPc hP (ci := 1) (q0 := 1) rfl rfl) rfl rfl hl.1 rfl (lv_room (Nat.le_of_ble_eq_true rfl)) dX3_visitor_5 ⟨Nat.zero_le _, Nat.zero_le _⟩) (fun r_1 hr_1 => ?_)
  refine lv_if_ne (tgt := 14) hx hb dX3_visitor_8 (by decide) (fun c_8 => ?_) (fun c_8 => ?_)
  · skip
    have c_8 := b2_n hr_1 c_8
    exact Bool.noConfusion (hbad.symm.trans c_8)
  · skip
    have c_8 := b2_z hr_1 c_8
    refine lv_ldc hx hb hown hw2 dX3_visitor_11 ?_
    exact ro_iret hx hb hr hlk dX3_visitor_13 (rfl)
set_option maxHeartbeats 4000000 in
set_option maxRecDepth 100000 in
theorem c_X3_visitor_ok (l : Launch) (G : lzG) (x : Nat) (q : Nat → Nat) (S : Nat → Int32) (qh : Nat → Nat) (D : Nat → Int32) (F : Nat → Nat → Int32) (v M : Nat) (what : Int32) (hM : D 3 = nI M) (hM5 : M ≤ 5) (hv : v < M) : Met l yX3_visitor wsX3_visitor ({ frames := 2, cells := 0, slots := 0, locals := 43 }) (va_Pc [.ref x, .int (nI v), .int what] (roP G (lzX x q S ++ lzDoor G (q 6) qh D F))) (vp_Si (fun r => r = visQ F v what)) 0 0 (fun _ => False) := by
  have hA : inR (nI v) 0 (D 3 - 1) = true := inR_ok hM hv (by omega)
  refine ro_start (cc := cX3_visitor) (maxL := 3) (ret := (some .int)) (by decide) rfl (Nat.le_of_ble_eq_true rfl) ?_
  intro pp ee ss mm bl me cd hx hb hr hlk hml hts hown hP hK ls hl
  have hown : ss.vm.findClass RX3 = some mm.cls := hown
  have hw1 := hts (.fieldLink RX3 38 "LampSquares" "here" "LLampSquares$Door;") (List.mem_of_getElem? (i := 1) rfl)
  have hw2 := hts (.constant RX3 81 (-1000001)) (List.mem_of_getElem? (i := 2) rfl)
  have hw3 := hts (.fieldLink RX3 185 "LampSquares$Door" "careOf" "[I") (List.mem_of_getElem? (i := 3) rfl)
  have hw4 := hts (.fieldLink RX3 188 "LampSquares$Door" "earOf" "[I") (List.mem_of_getElem? (i := 4) rfl)
  have hw5 := hts (.fieldLink RX3 191 "LampSquares$Door" "timesAsked" "[I") (List.mem_of_getElem? (i := 5) rfl)
  have hw6 := hts (.fieldLink RX3 194 "LampSquares$Door" "timesLetIn" "[I") (List.mem_of_getElem? (i := 6) rfl)
  have hu_wsX10 : ∀ w ∈ wsX10, w.before ([.ref x, .int (nI v), .int what] : List Value).toArray ss = true := fun w h9 => hts w (List.mem_cons_of_mem _ (List.mem_append_right _ h9))
  have hu_wsX30 : ∀ w ∈ wsX30, w.before ([.ref x, .int (nI v), .int what] : List Value).toArray ss = true := fun w h9 => hts w (List.mem_cons_of_mem _ (List.mem_append_left _ (List.mem_append_right _ h9)))
  have hl : lv_has ls 3 [(0, .ref x), (1, .int (nI v)), (2, .int what)] := hl
  refine lv_aload_n hx hb dX3_visitor_0 rfl (lv_at hl 0 rfl) ?_
  refine lz_get (G := G) (ci := 3) (v := .ref (q 6)) (C := RX3) (T := TX3) (N := 13) hx hb hu_wsX30 (fun _ h9 => h9) hown hK hP 0 rfl rfl 6 (by decide) hw1 rfl rfl dX3_visitor_1 ?_
  refine lv_iload_n hx hb dX3_visitor_4 rfl (lv_at hl 1 rfl) ?_
  have hPc := hP.sub (ws' := lzDoor G (q 6) qh D F) [1, 2, 3, 4, 5, 6, 7, 8, 9, 10, 11] rfl
  refine ro_calli (va_runV (As := [.int (nI v)]) (rest := []) ⟨hx, hb, hml, hown, hts⟩ (c_X1_isVisitor l G (q 6) qh D F (nI v) ) (cwV 1 hts gX3_visitor_X1_isVisitor rfl rfl rfl (by decide +kernel) ⟨Nat.le_of_ble_eq_true rfl, Nat.le_of_ble_eq_true rfl⟩) (ro_preV hK hPc hP (ci := 1) (q0 := 1) rfl rfl) rfl rfl hl.1 rfl (lv_room (Nat.le_of_ble_eq_true rfl)) dX3_visitor_5 ⟨Nat.zero_le _, Nat.zero_le _⟩) (fun r_1 hr_1 => ?_)
  refine lv_if_ne (tgt := 14) hx hb dX3_visitor_8 (by decide) (fun c_8 => ?_) (fun c_8 => ?_)
  · skip
    have c_8 := b2_n hr_1 c_8
    refine lv_iload_n hx hb dX3_visitor_14 rfl (lv_at hl 2 rfl) ?_
    by_cases v_15_0 : what = 0
    · refine lv_tableIn (off := 29) (tgt := 44) hx hb dX3_visitor_15 (by rw [v_15_0]; decide) (by rw [v_15_0]; decide) (by rw [v_15_0]; rfl) (by decide) ?_
      refine lv_aload_n hx hb dX3_visitor_44 rfl (lv_at hl 0 rfl) ?_
      refine lz_get (G := G) (ci := 3) (v := .ref (q 6)) (C := RX3) (T := TX3) (N := 13) hx hb hu_wsX30 (fun _ h9 => h9) hown hK hP 0 rfl rfl 6 (by decide) hw1 rfl rfl dX3_visitor_45 ?_
      refine lz_get (G := G) (ci := 1) (v := .ref (qh 9)) (C := RX1) (T := TX1) (N := 14) hx hb hu_wsX10 (fun _ h9 => h9) hown hK hP 1 rfl rfl 9 (by decide) hw3 rfl rfl dX3_visitor_48 ?_
      refine lv_iload_n hx hb dX3_visitor_51 rfl (lv_at hl 1 rfl) ?_
      refine lz_iald (f := F 9) hx hb hK hP 7 rfl v (by omega) (Nat.le_of_ble_eq_true rfl) dX3_visitor_52 ?_
      exact ro_iret hx hb hr hlk dX3_visitor_53 (by simp [visQ, c_8, v_15_0])
    by_cases v_15_1 : what = 1
    · refine lv_tableIn (off := 39) (tgt := 54) hx hb dX3_visitor_15 (by rw [v_15_1]; decide) (by rw [v_15_1]; decide) (by rw [v_15_1]; rfl) (by decide) ?_
      refine lv_aload_n hx hb dX3_visitor_54 rfl (lv_at hl 0 rfl) ?_
      refine lz_get (G := G) (ci := 3) (v := .ref (q 6)) (C := RX3) (T := TX3) (N := 13) hx hb hu_wsX30 (fun _ h9 => h9) hown hK hP 0 rfl rfl 6 (by decide) hw1 rfl rfl dX3_visitor_55 ?_
      refine lz_get (G := G) (ci := 1) (v := .ref (qh 10)) (C := RX1) (T := TX1) (N := 14) hx hb hu_wsX10 (fun _ h9 => h9) hown hK hP 1 rfl rfl 10 (by decide) hw4 rfl rfl dX3_visitor_58 ?_
      refine lv_iload_n hx hb dX3_visitor_61 rfl (lv_at hl 1 rfl) ?_
      refine lz_iald (f := F 10) hx hb hK hP 8 rfl v (by omega) (Nat.le_of_ble_eq_true rfl) dX3_visitor_62 ?_
      exact ro_iret hx hb hr hlk dX3_visitor_63 (by simp [visQ, c_8, v_15_1])
    by_cases v_15_2 : what = 2
    · refine lv_tableIn (off := 49) (tgt := 64) hx hb dX3_visitor_15 (by rw [v_15_2]; decide) (by rw [v_15_2]; decide) (by rw [v_15_2]; rfl) (by decide) ?_
      refine lv_aload_n hx hb dX3_visitor_64 rfl (lv_at hl 0 rfl) ?_
      refine lz_get (G := G) (ci := 3) (v := .ref (q 6)) (C := RX3) (T := TX3) (N := 13) hx hb hu_wsX30 (fun _ h9 => h9) hown hK hP 0 rfl rfl 6 (by decide) hw1 rfl rfl dX3_visitor_65 ?_
      refine lz_get (G := G) (ci := 1) (v := .ref (qh 11)) (C := RX1) (T := TX1) (N := 14) hx hb hu_wsX10 (fun _ h9 => h9) hown hK hP 1 rfl rfl 11 (by decide) hw5 rfl rfl dX3_visitor_68 ?_
      refine lv_iload_n hx hb dX3_visitor_71 rfl (lv_at hl 1 rfl) ?_
      refine lz_iald (f := F 11) hx hb hK hP 9 rfl v (by omega) (Nat.le_of_ble_eq_true rfl) dX3_visitor_72 ?_
      exact ro_iret hx hb hr hlk dX3_visitor_73 (by simp [visQ, c_8, v_15_2])
    by_cases v_15_3 : what = 3
    · refine lv_tableIn (off := 59) (tgt := 74) hx hb dX3_visitor_15 (by rw [v_15_3]; decide) (by rw [v_15_3]; decide) (by rw [v_15_3]; rfl) (by decide) ?_
      refine lv_aload_n hx hb dX3_visitor_74 rfl (lv_at hl 0 rfl) ?_
      refine lz_get (G := G) (ci := 3) (v := .ref (q 6)) (C := RX3) (T := TX3) (N := 13) hx hb hu_wsX30 (fun _ h9 => h9) hown hK hP 0 rfl rfl 6 (by decide) hw1 rfl rfl dX3_visitor_75 ?_
      refine lz_get (G := G) (ci := 1) (v := .ref (qh 12)) (C := RX1) (T := TX1) (N := 14) hx hb hu_wsX10 (fun _ h9 => h9) hown hK hP 1 rfl rfl 12 (by decide) hw6 rfl rfl dX3_visitor_78 ?_
      refine lv_iload_n hx hb dX3_visitor_81 rfl (lv_at hl 1 rfl) ?_
      refine lz_iald (f := F 12) hx hb hK hP 10 rfl v (by omega) (Nat.le_of_ble_eq_true rfl) dX3_visitor_82 ?_
      exact ro_iret hx hb hr hlk dX3_visitor_83 (by simp [visQ, c_8, v_15_3])
    have v_15_0T : ¬ Int32.toInt what = 0 := lv_neT v_15_0 rfl
    have v_15_1T : ¬ Int32.toInt what = 1 := lv_neT v_15_1 rfl
    have v_15_2T : ¬ Int32.toInt what = 2 := lv_neT v_15_2 rfl
    have v_15_3T : ¬ Int32.toInt what = 3 := lv_neT v_15_3 rfl
    refine lv_tableOut (tgt := 84) hx hb dX3_visitor_15 (by omega) (by decide) ?_
    refine lv_ldc hx hb hown hw2 dX3_visitor_84 ?_
    exact ro_iret hx hb hr hlk dX3_visitor_86 (by simp [visQ, c_8, v_15_0, v_15_1, v_15_2, v_15_3])
  · skip
    have c_8 := b2_z hr_1 c_8
    exact Bool.noConfusion (hA.symm.trans c_8)
set_option maxHeartbeats 4000000 in
set_option maxRecDepth 100000 in
theorem c_X3_sees_bad (l : Launch) (G : lzG) (x : Nat) (q : Nat → Nat) (S : Nat → Int32) (qh : Nat → Nat) (D : Nat → Int32) (F : Nat → Nat → Int32) (a b : Int32) (hbad : (inR a 0 (D 3 - 1) && inR b 0 (D 2 - 1)) = false) : Met l yX3_sees wsX3_sees ({ frames := 2, cells := 0, slots := 0, locals := 43 }) (va_Pc [.ref x, .int a, .int b] (roP G (lzX x q S ++ lzDoor G (q 6) qh D F))) (vp_Si (fun r => r = -1000001)) 0 0 (fun _ => False) := by
  refine ro_start (cc := cX3_sees) (maxL := 3) (ret := (some .int)) (by decide) rfl (Nat.le_of_ble_eq_true rfl) ?_
  intro pp ee ss mm bl me cd hx hb hr hlk hml hts hown hP hK ls hl
  have hown : ss.vm.findClass RX3 = some mm.cls := hown
  have hw1 := hts (.fieldLink RX3 38 "LampSquares" "here" "LLampSquares$Door;") (List.mem_of_getElem? (i := 1) rfl)
  have hw2 := hts (.constant RX3 81 (-1000001)) (List.mem_of_getElem? (i := 2) rfl)
  have hu_wsX30 : ∀ w ∈ wsX30, w.before ([.ref x, .int a, .int b] : List Value).toArray ss = true := fun w h9 => hts w (List.mem_cons_of_mem _ (List.mem_append_left _ (List.mem_append_right _ h9)))
  have hl : lv_has ls 3 [(0, .ref x), (1, .int a), (2, .int b)] := hl
  refine lv_aload_n hx hb dX3_sees_0 rfl (lv_at hl 0 rfl) ?_
  refine lz_get (G := G) (ci := 3) (v := .ref (q 6)) (C := RX3) (T := TX3) (N := 13) hx hb hu_wsX30 (fun _ h9 => h9) hown hK hP 0 rfl rfl 6 (by decide) hw1 rfl rfl dX3_sees_1 ?_
  refine lv_iload_n hx hb dX3_sees_4 rfl (lv_at hl 1 rfl) ?_
  have hPc := hP.sub (ws' := lzDoor G (q 6) qh D F) [1, 2, 3, 4, 5, 6, 7, 8, 9, 10, 11] rfl
  refine ro_calli (va_runV (As := [.int a]) (rest := []) ⟨hx, hb, hml, hown, hts⟩ (c_X1_isVisitor l G (q 6) qh D F a ) (cwV 1 hts gX3_sees_X1_isVisitor rfl rfl rfl (by decide +kernel) ⟨Nat.le_of_ble_eq_true rfl, Nat.le_of_ble_eq_true rfl⟩) (ro_preV hK hPc hP (ci := 1) (q0 := 1) rfl rfl) rfl rfl hl.1 rfl (lv_room (Nat.le_of_ble_eq_true rfl)) dX3_sees_5 ⟨Nat.zero_le _, Nat.zero_le _⟩) (fun r_1 hr_1 => ?_)
  refine lv_if_eq (tgt := 22) hx hb dX3_sees_8 (by decide) (fun c_8 => ?_) (fun c_8 => ?_)
  · skip
    have c_8 := b2_z hr_1 c_8
    refine lv_ldc hx hb hown hw2 dX3_sees_22 ?_
    exact ro_iret hx hb hr hlk dX3_sees_24 (rfl)
  · skip
    have c_8 := b2_n hr_1 c_8
    refine lv_aload_n hx hb dX3_sees_11 rfl (lv_at hl 0 rfl) ?_
    refine lz_get (G := G) (ci := 3) (v := .ref (q 6)) (C := RX3) (T := TX3) (N := 13) hx hb hu_wsX30 (fun _ h9 => h9) hown hK hP 0 rfl rfl 6 (by decide) hw1 rfl rfl dX3_sees_12 ?_
    refine lv_iload_n hx hb dX3_sees_15 rfl (lv_at hl 2 rfl) ?_
    have hPc := hP.sub (ws' := lzDoor G (q 6) qh D F) [1, 2, 3, 4, 5, 6, 7, 8, 9, 10, 11] rfl
    refine ro_calli (va_runV (As := [.int b]) (rest := []) ⟨hx, hb, hml, hown, hts⟩ (c_X1_isSquare l G (q 6) qh D F b ) (cwV 1 hts gX3_sees_X1_isSquare rfl rfl rfl (by decide +kernel) ⟨Nat.le_of_ble_eq_true rfl, Nat.le_of_ble_eq_true rfl⟩) (ro_preV hK hPc hP (ci := 1) (q0 := 1) rfl rfl) rfl rfl hl.1 rfl (lv_room (Nat.le_of_ble_eq_true rfl)) dX3_sees_16 ⟨Nat.zero_le _, Nat.zero_le _⟩) (fun r_2 hr_2 => ?_)
    refine lv_if_ne (tgt := 25) hx hb dX3_sees_19 (by decide) (fun c_19 => ?_) (fun c_19 => ?_)
    · skip
      have c_19 := b2_n hr_2 c_19
      exact Bool.noConfusion (hbad.symm.trans (by rw [c_8, c_19] <;> rfl))
    · skip
      have c_19 := b2_z hr_2 c_19
      refine lv_ldc hx hb hown hw2 dX3_sees_22 ?_
      exact ro_iret hx hb hr hlk dX3_sees_24 (rfl)
set_option maxHeartbeats 4000000 in
set_option maxRecDepth 100000 in
theorem c_X3_sees_ok (l : Launch) (G : lzG) (x : Nat) (q : Nat → Nat) (S : Nat → Int32) (qh : Nat → Nat) (D : Nat → Int32) (F : Nat → Nat → Int32) (v s N M : Nat) (hN : D 2 = nI N) (hN8 : N ≤ 8) (hM : D 3 = nI M) (hM5 : M ≤ 5) (hv : v < M) (hs : s < N) : Met l yX3_sees wsX3_sees ({ frames := 2, cells := 0, slots := 0, locals := 43 }) (va_Pc [.ref x, .int (nI v), .int (nI s)] (roP G (lzX x q S ++ lzDoor G (q 6) qh D F))) (vp_Si (fun r => r = seenI (F 4 s) (F 5 s) (F 9 v) (F 10 v))) 0 0 (fun _ => False) := by
  have hA : inR (nI v) 0 (D 3 - 1) = true := inR_ok hM hv (by omega)
  have hB : inR (nI s) 0 (D 2 - 1) = true := inR_ok hN hs (by omega)
  refine ro_start (cc := cX3_sees) (maxL := 3) (ret := (some .int)) (by decide) rfl (Nat.le_of_ble_eq_true rfl) ?_
  intro pp ee ss mm bl me cd hx hb hr hlk hml hts hown hP hK ls hl
  have hown : ss.vm.findClass RX3 = some mm.cls := hown
  have hw1 := hts (.fieldLink RX3 38 "LampSquares" "here" "LLampSquares$Door;") (List.mem_of_getElem? (i := 1) rfl)
  have hw3 := hts (.fieldLink RX3 185 "LampSquares$Door" "careOf" "[I") (List.mem_of_getElem? (i := 3) rfl)
  have hw4 := hts (.fieldLink RX3 188 "LampSquares$Door" "earOf" "[I") (List.mem_of_getElem? (i := 4) rfl)
  have hw5 := hts (.fieldLink RX3 197 "LampSquares$Door" "kindOf" "[I") (List.mem_of_getElem? (i := 5) rfl)
  have hw6 := hts (.fieldLink RX3 164 "LampSquares$Door" "shareOf" "[I") (List.mem_of_getElem? (i := 6) rfl)
  have hu_wsX10 : ∀ w ∈ wsX10, w.before ([.ref x, .int (nI v), .int (nI s)] : List Value).toArray ss = true := fun w h9 => hts w (List.mem_cons_of_mem _ (List.mem_append_right _ h9))
  have hu_wsX30 : ∀ w ∈ wsX30, w.before ([.ref x, .int (nI v), .int (nI s)] : List Value).toArray ss = true := fun w h9 => hts w (List.mem_cons_of_mem _ (List.mem_append_left _ (List.mem_append_right _ h9)))
  have hl : lv_has ls 3 [(0, .ref x), (1, .int (nI v)), (2, .int (nI s))] := hl
  refine lv_aload_n hx hb dX3_sees_0 rfl (lv_at hl 0 rfl) ?_
  refine lz_get (G := G) (ci := 3) (v := .ref (q 6)) (C := RX3) (T := TX3) (N := 13) hx hb hu_wsX30 (fun _ h9 => h9) hown hK hP 0 rfl rfl 6 (by decide) hw1 rfl rfl dX3_sees_1 ?_
  refine lv_iload_n hx hb dX3_sees_4 rfl (lv_at hl 1 rfl) ?_
  have hPc := hP.sub (ws' := lzDoor G (q 6) qh D F) [1, 2, 3, 4, 5, 6, 7, 8, 9, 10, 11] rfl
  refine ro_calli (va_runV (As := [.int (nI v)]) (rest := []) ⟨hx, hb, hml, hown, hts⟩ (c_X1_isVisitor l G (q 6) qh D F (nI v) ) (cwV 1 hts gX3_sees_X1_isVisitor rfl rfl rfl (by decide +kernel) ⟨Nat.le_of_ble_eq_true rfl, Nat.le_of_ble_eq_true rfl⟩) (ro_preV hK hPc hP (ci := 1) (q0 := 1) rfl rfl) rfl rfl hl.1 rfl (lv_room (Nat.le_of_ble_eq_true rfl)) dX3_sees_5 ⟨Nat.zero_le _, Nat.zero_le _⟩) (fun r_1 hr_1 => ?_)
  refine lv_if_eq (tgt := 22) hx hb dX3_sees_8 (by decide) (fun c_8 => ?_) (fun c_8 => ?_)
  · skip
    have c_8 := b2_z hr_1 c_8
    exact Bool.noConfusion (hA.symm.trans c_8)
  · skip
    have c_8 := b2_n hr_1 c_8
    refine lv_aload_n hx hb dX3_sees_11 rfl (lv_at hl 0 rfl) ?_
    refine lz_get (G := G) (ci := 3) (v := .ref (q 6)) (C := RX3) (T := TX3) (N := 13) hx hb hu_wsX30 (fun _ h9 => h9) hown hK hP 0 rfl rfl 6 (by decide) hw1 rfl rfl dX3_sees_12 ?_
    refine lv_iload_n hx hb dX3_sees_15 rfl (lv_at hl 2 rfl) ?_
    have hPc := hP.sub (ws' := lzDoor G (q 6) qh D F) [1, 2, 3, 4, 5, 6, 7, 8, 9, 10, 11] rfl
    refine ro_calli (va_runV (As := [.int (nI s)]) (rest := []) ⟨hx, hb, hml, hown, hts⟩ (c_X1_isSquare l G (q 6) qh D F (nI s) ) (cwV 1 hts gX3_sees_X1_isSquare rfl rfl rfl (by decide +kernel) ⟨Nat.le_of_ble_eq_true rfl, Nat.le_of_ble_eq_true rfl⟩) (ro_preV hK hPc hP (ci := 1) (q0 := 1) rfl rfl) rfl rfl hl.1 rfl (lv_room (Nat.le_of_ble_eq_true rfl)) dX3_sees_16 ⟨Nat.zero_le _, Nat.zero_le _⟩) (fun r_2 hr_2 => ?_)
    refine lv_if_ne (tgt := 25) hx hb dX3_sees_19 (by decide) (fun c_19 => ?_) (fun c_19 => ?_)
    · skip
      have c_19 := b2_n hr_2 c_19
      refine lv_aload_n hx hb dX3_sees_25 rfl (lv_at hl 0 rfl) ?_
      refine lz_get (G := G) (ci := 3) (v := .ref (q 6)) (C := RX3) (T := TX3) (N := 13) hx hb hu_wsX30 (fun _ h9 => h9) hown hK hP 0 rfl rfl 6 (by decide) hw1 rfl rfl dX3_sees_26 ?_
      refine lz_get (G := G) (ci := 1) (v := .ref (qh 9)) (C := RX1) (T := TX1) (N := 14) hx hb hu_wsX10 (fun _ h9 => h9) hown hK hP 1 rfl rfl 9 (by decide) hw3 rfl rfl dX3_sees_29 ?_
      refine lv_iload_n hx hb dX3_sees_32 rfl (lv_at hl 1 rfl) ?_
      refine lz_iald (f := F 9) hx hb hK hP 7 rfl v (by omega) (Nat.le_of_ble_eq_true rfl) dX3_sees_33 ?_
      refine lv_aload_n hx hb dX3_sees_34 rfl (lv_at hl 0 rfl) ?_
      refine lz_get (G := G) (ci := 3) (v := .ref (q 6)) (C := RX3) (T := TX3) (N := 13) hx hb hu_wsX30 (fun _ h9 => h9) hown hK hP 0 rfl rfl 6 (by decide) hw1 rfl rfl dX3_sees_35 ?_
      refine lz_get (G := G) (ci := 1) (v := .ref (qh 10)) (C := RX1) (T := TX1) (N := 14) hx hb hu_wsX10 (fun _ h9 => h9) hown hK hP 1 rfl rfl 10 (by decide) hw4 rfl rfl dX3_sees_38 ?_
      refine lv_iload_n hx hb dX3_sees_41 rfl (lv_at hl 1 rfl) ?_
      refine lz_iald (f := F 10) hx hb hK hP 8 rfl v (by omega) (Nat.le_of_ble_eq_true rfl) dX3_sees_42 ?_
      refine lv_aload_n hx hb dX3_sees_43 rfl (lv_at hl 0 rfl) ?_
      refine lz_get (G := G) (ci := 3) (v := .ref (q 6)) (C := RX3) (T := TX3) (N := 13) hx hb hu_wsX30 (fun _ h9 => h9) hown hK hP 0 rfl rfl 6 (by decide) hw1 rfl rfl dX3_sees_44 ?_
      refine lz_get (G := G) (ci := 1) (v := .ref (qh 4)) (C := RX1) (T := TX1) (N := 14) hx hb hu_wsX10 (fun _ h9 => h9) hown hK hP 1 rfl rfl 4 (by decide) hw5 rfl rfl dX3_sees_47 ?_
      refine lv_iload_n hx hb dX3_sees_50 rfl (lv_at hl 2 rfl) ?_
      refine lz_iald (f := F 4) hx hb hK hP 2 rfl s (by omega) (Nat.le_of_ble_eq_true rfl) dX3_sees_51 ?_
      refine lv_aload_n hx hb dX3_sees_52 rfl (lv_at hl 0 rfl) ?_
      refine lz_get (G := G) (ci := 3) (v := .ref (q 6)) (C := RX3) (T := TX3) (N := 13) hx hb hu_wsX30 (fun _ h9 => h9) hown hK hP 0 rfl rfl 6 (by decide) hw1 rfl rfl dX3_sees_53 ?_
      refine lz_get (G := G) (ci := 1) (v := .ref (qh 5)) (C := RX1) (T := TX1) (N := 14) hx hb hu_wsX10 (fun _ h9 => h9) hown hK hP 1 rfl rfl 5 (by decide) hw6 rfl rfl dX3_sees_56 ?_
      refine lv_iload_n hx hb dX3_sees_59 rfl (lv_at hl 2 rfl) ?_
      refine lz_iald (f := F 5) hx hb hK hP 3 rfl s (by omega) (Nat.le_of_ble_eq_true rfl) dX3_sees_60 ?_
      refine ro_calli (va_runS (As := [.int ((F 9) v), .int ((F 10) v), .int ((F 4) s), .int ((F 5) s)]) (rest := []) ⟨hx, hb, hml, hown, hts⟩ (c_X3_seenBy l G ((F 9) v) ((F 10) v) ((F 4) s) ((F 5) s) ) (cwS 4 hts gX3_sees_X3_seenBy rfl rfl rfl (by decide +kernel) ⟨Nat.le_of_ble_eq_true rfl, Nat.le_of_ble_eq_true rfl⟩) (ro_pre hK (fun k q h => by simp at h)) rfl rfl hl.1 rfl (lv_room (Nat.le_of_ble_eq_true rfl)) dX3_sees_61 ⟨Nat.zero_le _, Nat.zero_le _⟩) (fun r_3 hr_3 => ?_)
      refine lz_top (y := seenI ((F 4) s) ((F 5) s) ((F 9) v) ((F 10) v)) hr_3 ?_
      exact ro_iret hx hb hr hlk dX3_sees_64 (rfl)
    · skip
      have c_19 := b2_z hr_2 c_19
      exact Bool.noConfusion (hB.symm.trans c_19)
set_option maxHeartbeats 4000000 in
set_option maxRecDepth 100000 in
theorem c_X3_clicks_bad (l : Launch) (G : lzG) (x : Nat) (q : Nat → Nat) (S : Nat → Int32) (qh : Nat → Nat) (D : Nat → Int32) (F : Nat → Nat → Int32) (a : Int32) (hbad : inR a 0 (D 3 - 1) = false) : Met l yX3_clicks wsX3_clicks ({ frames := 2, cells := 0, slots := 0, locals := 43 }) (va_Pc [.ref x, .int a] (roP G (lzX x q S ++ lzDoor G (q 6) qh D F))) (vp_Si (fun r => r = -1000001)) 0 0 (fun _ => False) := by
  refine ro_start (cc := cX3_clicks) (maxL := 2) (ret := (some .int)) (by decide) rfl (Nat.le_of_ble_eq_true rfl) ?_
  intro pp ee ss mm bl me cd hx hb hr hlk hml hts hown hP hK ls hl
  have hown : ss.vm.findClass RX3 = some mm.cls := hown
  have hw1 := hts (.fieldLink RX3 38 "LampSquares" "here" "LLampSquares$Door;") (List.mem_of_getElem? (i := 1) rfl)
  have hw2 := hts (.constant RX3 81 (-1000001)) (List.mem_of_getElem? (i := 2) rfl)
  have hu_wsX30 : ∀ w ∈ wsX30, w.before ([.ref x, .int a] : List Value).toArray ss = true := fun w h9 => hts w (List.mem_cons_of_mem _ (List.mem_append_left _ (List.mem_append_right _ h9)))
  have hl : lv_has ls 2 [(0, .ref x), (1, .int a)] := hl
  refine lv_aload_n hx hb dX3_clicks_0 rfl (lv_at hl 0 rfl) ?_
  refine lz_get (G := G) (ci := 3) (v := .ref (q 6)) (C := RX3) (T := TX3) (N := 13) hx hb hu_wsX30 (fun _ h9 => h9) hown hK hP 0 rfl rfl 6 (by decide) hw1 rfl rfl dX3_clicks_1 ?_
  refine lv_iload_n hx hb dX3_clicks_4 rfl (lv_at hl 1 rfl) ?_
  have hPc := hP.sub (ws' := lzDoor G (q 6) qh D F) [1, 2, 3, 4, 5, 6, 7, 8, 9, 10, 11] rfl
  refine ro_calli (va_runV (As := [.int a]) (rest := []) ⟨hx, hb, hml, hown, hts⟩ (c_X1_isVisitor l G (q 6) qh D F a ) (cwV 1 hts gX3_clicks_X1_isVisitor rfl rfl rfl (by decide +kernel) ⟨Nat.le_of_ble_eq_true rfl, Nat.le_of_ble_eq_true rfl⟩) (ro_preV hK hPc hP (ci := 1) (q0 := 1) rfl rfl) rfl rfl hl.1 rfl (lv_room (Nat.le_of_ble_eq_true rfl)) dX3_clicks_5 ⟨Nat.zero_le _, Nat.zero_le _⟩) (fun r_1 hr_1 => ?_)
  refine lv_if_eq (tgt := 22) hx hb dX3_clicks_8 (by decide) (fun c_8 => ?_) (fun c_8 => ?_)
  · skip
    have c_8 := b2_z hr_1 c_8
    refine lv_ldc hx hb hown hw2 dX3_clicks_22 ?_
    exact ro_iret hx hb hr hlk dX3_clicks_24 (rfl)
  · skip
    have c_8 := b2_n hr_1 c_8
    exact Bool.noConfusion (hbad.symm.trans c_8)
set_option maxHeartbeats 4000000 in
set_option maxRecDepth 100000 in
theorem c_X3_clicks_ok (l : Launch) (G : lzG) (x : Nat) (q : Nat → Nat) (S : Nat → Int32) (qh : Nat → Nat) (D : Nat → Int32) (F : Nat → Nat → Int32) (v N M : Nat) (hN : D 2 = nI N) (hN8 : N ≤ 8) (hM : D 3 = nI M) (hM5 : M ≤ 5) (hv : v < M) : Met l yX3_clicks wsX3_clicks ({ frames := 3, cells := 0, slots := 0, locals := 69 }) (va_Pc [.ref x, .int (nI v)] (roP G (lzX x q S ++ lzDoor G (q 6) qh D F))) (vp_Si (fun r => r = bitsI (clkD F v) N)) 0 0 (fun _ => False) := by
  have hA : inR (nI v) 0 (D 3 - 1) = true := inR_ok hM hv (by omega)
  refine ro_start (cc := cX3_clicks) (maxL := 2) (ret := (some .int)) (by decide) rfl (Nat.le_of_ble_eq_true rfl) ?_
  intro pp ee ss mm bl me cd hx hb hr hlk hml hts hown hP hK ls hl
  have hown : ss.vm.findClass RX3 = some mm.cls := hown
  have hw1 := hts (.fieldLink RX3 38 "LampSquares" "here" "LLampSquares$Door;") (List.mem_of_getElem? (i := 1) rfl)
  have hu_wsX30 : ∀ w ∈ wsX30, w.before ([.ref x, .int (nI v)] : List Value).toArray ss = true := fun w h9 => hts w (List.mem_cons_of_mem _ (List.mem_append_left _ (List.mem_append_right _ h9)))
  have hl : lv_has ls 2 [(0, .ref x), (1, .int (nI v))] := hl
  refine lv_aload_n hx hb dX3_clicks_0 rfl (lv_at hl 0 rfl) ?_
  refine lz_get (G := G) (ci := 3) (v := .ref (q 6)) (C := RX3) (T := TX3) (N := 13) hx hb hu_wsX30 (fun _ h9 => h9) hown hK hP 0 rfl rfl 6 (by decide) hw1 rfl rfl dX3_clicks_1 ?_
  refine lv_iload_n hx hb dX3_clicks_4 rfl (lv_at hl 1 rfl) ?_
  have hPc := hP.sub (ws' := lzDoor G (q 6) qh D F) [1, 2, 3, 4, 5, 6, 7, 8, 9, 10, 11] rfl
  refine ro_calli (va_runV (As := [.int (nI v)]) (rest := []) ⟨hx, hb, hml, hown, hts⟩ (c_X1_isVisitor l G (q 6) qh D F (nI v) ) (cwV 1 hts gX3_clicks_X1_isVisitor rfl rfl rfl (by decide +kernel) ⟨Nat.le_of_ble_eq_true rfl, Nat.le_of_ble_eq_true rfl⟩) (ro_preV hK hPc hP (ci := 1) (q0 := 1) rfl rfl) rfl rfl hl.1 rfl (lv_room (Nat.le_of_ble_eq_true rfl)) dX3_clicks_5 ⟨Nat.zero_le _, Nat.zero_le _⟩) (fun r_1 hr_1 => ?_)
  refine lv_if_eq (tgt := 22) hx hb dX3_clicks_8 (by decide) (fun c_8 => ?_) (fun c_8 => ?_)
  · skip
    have c_8 := b2_z hr_1 c_8
    exact Bool.noConfusion (hA.symm.trans c_8)
  · skip
    have c_8 := b2_n hr_1 c_8
    refine lv_aload_n hx hb dX3_clicks_11 rfl (lv_at hl 0 rfl) ?_
    refine lz_get (G := G) (ci := 3) (v := .ref (q 6)) (C := RX3) (T := TX3) (N := 13) hx hb hu_wsX30 (fun _ h9 => h9) hown hK hP 0 rfl rfl 6 (by decide) hw1 rfl rfl dX3_clicks_12 ?_
    refine lv_iload_n hx hb dX3_clicks_15 rfl (lv_at hl 1 rfl) ?_
    have hPc := hP.sub (ws' := lzDoor G (q 6) qh D F) [1, 2, 3, 4, 5, 6, 7, 8, 9, 10, 11] rfl
    refine ro_calli (va_runV (As := [.int (nI v)]) (rest := []) ⟨hx, hb, hml, hown, hts⟩ (c_X1_clickBits l G (q 6) qh D F v N (by omega) (hN) (hN8)) (cwV 1 hts gX3_clicks_X1_clickBits rfl rfl rfl (by decide +kernel) ⟨Nat.le_of_ble_eq_true rfl, Nat.le_of_ble_eq_true rfl⟩) (ro_preV hK hPc hP (ci := 1) (q0 := 1) rfl rfl) rfl rfl hl.1 rfl (lv_room (Nat.le_of_ble_eq_true rfl)) dX3_clicks_16 ⟨Nat.zero_le _, Nat.zero_le _⟩) (fun r_2 hr_2 => ?_)
    refine lz_top (y := bitsI (clkD F v) N) hr_2 ?_
    refine lv_goto (tgt := 24) hx hb dX3_clicks_19 (by decide) ?_
    exact ro_iret hx hb hr hlk dX3_clicks_24 (rfl)
set_option maxHeartbeats 4000000 in
set_option maxRecDepth 100000 in
theorem c_X3_wrong_bad (l : Launch) (G : lzG) (x : Nat) (q : Nat → Nat) (S : Nat → Int32) (qh : Nat → Nat) (D : Nat → Int32) (F : Nat → Nat → Int32) (a set : Int32) (hbad : (inR a 0 (D 3 - 1) && inR set 0 ((1 <<< (D 2 &&& 31)) - 1)) = false) : Met l yX3_wrong wsX3_wrong ({ frames := 2, cells := 0, slots := 0, locals := 43 }) (va_Pc [.ref x, .int a, .int set] (roP G (lzX x q S ++ lzDoor G (q 6) qh D F))) (vp_Si (fun r => r = -1000001)) 0 0 (fun _ => False) := by
  refine ro_start (cc := cX3_wrong) (maxL := 3) (ret := (some .int)) (by decide) rfl (Nat.le_of_ble_eq_true rfl) ?_
  intro pp ee ss mm bl me cd hx hb hr hlk hml hts hown hP hK ls hl
  have hown : ss.vm.findClass RX3 = some mm.cls := hown
  have hw1 := hts (.fieldLink RX3 38 "LampSquares" "here" "LLampSquares$Door;") (List.mem_of_getElem? (i := 1) rfl)
  have hw2 := hts (.constant RX3 81 (-1000001)) (List.mem_of_getElem? (i := 2) rfl)
  have hu_wsX30 : ∀ w ∈ wsX30, w.before ([.ref x, .int a, .int set] : List Value).toArray ss = true := fun w h9 => hts w (List.mem_cons_of_mem _ (List.mem_append_left _ (List.mem_append_right _ h9)))
  have hl : lv_has ls 3 [(0, .ref x), (1, .int a), (2, .int set)] := hl
  refine lv_aload_n hx hb dX3_wrong_0 rfl (lv_at hl 0 rfl) ?_
  refine lz_get (G := G) (ci := 3) (v := .ref (q 6)) (C := RX3) (T := TX3) (N := 13) hx hb hu_wsX30 (fun _ h9 => h9) hown hK hP 0 rfl rfl 6 (by decide) hw1 rfl rfl dX3_wrong_1 ?_
  refine lv_iload_n hx hb dX3_wrong_4 rfl (lv_at hl 1 rfl) ?_
  have hPc := hP.sub (ws' := lzDoor G (q 6) qh D F) [1, 2, 3, 4, 5, 6, 7, 8, 9, 10, 11] rfl
  refine ro_calli (va_runV (As := [.int a]) (rest := []) ⟨hx, hb, hml, hown, hts⟩ (c_X1_isVisitor l G (q 6) qh D F a ) (cwV 1 hts gX3_wrong_X1_isVisitor rfl rfl rfl (by decide +kernel) ⟨Nat.le_of_ble_eq_true rfl, Nat.le_of_ble_eq_true rfl⟩) (ro_preV hK hPc hP (ci := 1) (q0 := 1) rfl rfl) rfl rfl hl.1 rfl (lv_room (Nat.le_of_ble_eq_true rfl)) dX3_wrong_5 ⟨Nat.zero_le _, Nat.zero_le _⟩) (fun r_1 hr_1 => ?_)
  refine lv_if_eq (tgt := 22) hx hb dX3_wrong_8 (by decide) (fun c_8 => ?_) (fun c_8 => ?_)
  · skip
    have c_8 := b2_z hr_1 c_8
    refine lv_ldc hx hb hown hw2 dX3_wrong_22 ?_
    exact ro_iret hx hb hr hlk dX3_wrong_24 (rfl)
  · skip
    have c_8 := b2_n hr_1 c_8
    refine lv_aload_n hx hb dX3_wrong_11 rfl (lv_at hl 0 rfl) ?_
    refine lz_get (G := G) (ci := 3) (v := .ref (q 6)) (C := RX3) (T := TX3) (N := 13) hx hb hu_wsX30 (fun _ h9 => h9) hown hK hP 0 rfl rfl 6 (by decide) hw1 rfl rfl dX3_wrong_12 ?_
    refine lv_iload_n hx hb dX3_wrong_15 rfl (lv_at hl 2 rfl) ?_
    have hPc := hP.sub (ws' := lzDoor G (q 6) qh D F) [1, 2, 3, 4, 5, 6, 7, 8, 9, 10, 11] rfl
    refine ro_calli (va_runV (As := [.int set]) (rest := []) ⟨hx, hb, hml, hown, hts⟩ (c_X1_areSquares l G (q 6) qh D F set ) (cwV 1 hts gX3_wrong_X1_areSquares rfl rfl rfl (by decide +kernel) ⟨Nat.le_of_ble_eq_true rfl, Nat.le_of_ble_eq_true rfl⟩) (ro_preV hK hPc hP (ci := 1) (q0 := 1) rfl rfl) rfl rfl hl.1 rfl (lv_room (Nat.le_of_ble_eq_true rfl)) dX3_wrong_16 ⟨Nat.zero_le _, Nat.zero_le _⟩) (fun r_2 hr_2 => ?_)
    refine lv_if_ne (tgt := 25) hx hb dX3_wrong_19 (by decide) (fun c_19 => ?_) (fun c_19 => ?_)
    · skip
      have c_19 := b2_n hr_2 c_19
      exact Bool.noConfusion (hbad.symm.trans (by rw [c_8, c_19] <;> rfl))
    · skip
      have c_19 := b2_z hr_2 c_19
      refine lv_ldc hx hb hown hw2 dX3_wrong_22 ?_
      exact ro_iret hx hb hr hlk dX3_wrong_24 (rfl)
set_option maxHeartbeats 4000000 in
set_option maxRecDepth 100000 in
theorem c_X3_wrong_ok (l : Launch) (G : lzG) (x : Nat) (q : Nat → Nat) (S : Nat → Int32) (qh : Nat → Nat) (D : Nat → Int32) (F : Nat → Nat → Int32) (v : Nat) (set : Int32) (N M : Nat) (hN : D 2 = nI N) (hN8 : N ≤ 8) (hM : D 3 = nI M) (hM5 : M ≤ 5) (hv : v < M) (hset : inR set 0 ((1 <<< (D 2 &&& 31)) - 1) = true) : Met l yX3_wrong wsX3_wrong ({ frames := 5, cells := 0, slots := 0, locals := 112 }) (va_Pc [.ref x, .int (nI v), .int set] (roP G (lzX x q S ++ lzDoor G (q 6) qh D F))) (vp_Si (fun r => r = bcI (wrbD D F v N &&& set))) 0 0 (fun _ => False) := by
  have hA : inR (nI v) 0 (D 3 - 1) = true := inR_ok hM hv (by omega)
  refine ro_start (cc := cX3_wrong) (maxL := 3) (ret := (some .int)) (by decide) rfl (Nat.le_of_ble_eq_true rfl) ?_
  intro pp ee ss mm bl me cd hx hb hr hlk hml hts hown hP hK ls hl
  have hown : ss.vm.findClass RX3 = some mm.cls := hown
  have hw1 := hts (.fieldLink RX3 38 "LampSquares" "here" "LLampSquares$Door;") (List.mem_of_getElem? (i := 1) rfl)
  have hu_wsX30 : ∀ w ∈ wsX30, w.before ([.ref x, .int (nI v), .int set] : List Value).toArray ss = true := fun w h9 => hts w (List.mem_cons_of_mem _ (List.mem_append_left _ (List.mem_append_right _ h9)))
  have hl : lv_has ls 3 [(0, .ref x), (1, .int (nI v)), (2, .int set)] := hl
  refine lv_aload_n hx hb dX3_wrong_0 rfl (lv_at hl 0 rfl) ?_
  refine lz_get (G := G) (ci := 3) (v := .ref (q 6)) (C := RX3) (T := TX3) (N := 13) hx hb hu_wsX30 (fun _ h9 => h9) hown hK hP 0 rfl rfl 6 (by decide) hw1 rfl rfl dX3_wrong_1 ?_
  refine lv_iload_n hx hb dX3_wrong_4 rfl (lv_at hl 1 rfl) ?_
  have hPc := hP.sub (ws' := lzDoor G (q 6) qh D F) [1, 2, 3, 4, 5, 6, 7, 8, 9, 10, 11] rfl
  refine ro_calli (va_runV (As := [.int (nI v)]) (rest := []) ⟨hx, hb, hml, hown, hts⟩ (c_X1_isVisitor l G (q 6) qh D F (nI v) ) (cwV 1 hts gX3_wrong_X1_isVisitor rfl rfl rfl (by decide +kernel) ⟨Nat.le_of_ble_eq_true rfl, Nat.le_of_ble_eq_true rfl⟩) (ro_preV hK hPc hP (ci := 1) (q0 := 1) rfl rfl) rfl rfl hl.1 rfl (lv_room (Nat.le_of_ble_eq_true rfl)) dX3_wrong_5 ⟨Nat.zero_le _, Nat.zero_le _⟩) (fun r_1 hr_1 => ?_)
  refine lv_if_eq (tgt := 22) hx hb dX3_wrong_8 (by decide) (fun c_8 => ?_) (fun c_8 => ?_)
  · skip
    have c_8 := b2_z hr_1 c_8
    exact Bool.noConfusion (hA.symm.trans c_8)
  · skip
    have c_8 := b2_n hr_1 c_8
    refine lv_aload_n hx hb dX3_wrong_11 rfl (lv_at hl 0 rfl) ?_
    refine lz_get (G := G) (ci := 3) (v := .ref (q 6)) (C := RX3) (T := TX3) (N := 13) hx hb hu_wsX30 (fun _ h9 => h9) hown hK hP 0 rfl rfl 6 (by decide) hw1 rfl rfl dX3_wrong_12 ?_
    refine lv_iload_n hx hb dX3_wrong_15 rfl (lv_at hl 2 rfl) ?_
    have hPc := hP.sub (ws' := lzDoor G (q 6) qh D F) [1, 2, 3, 4, 5, 6, 7, 8, 9, 10, 11] rfl
    refine ro_calli (va_runV (As := [.int set]) (rest := []) ⟨hx, hb, hml, hown, hts⟩ (c_X1_areSquares l G (q 6) qh D F set ) (cwV 1 hts gX3_wrong_X1_areSquares rfl rfl rfl (by decide +kernel) ⟨Nat.le_of_ble_eq_true rfl, Nat.le_of_ble_eq_true rfl⟩) (ro_preV hK hPc hP (ci := 1) (q0 := 1) rfl rfl) rfl rfl hl.1 rfl (lv_room (Nat.le_of_ble_eq_true rfl)) dX3_wrong_16 ⟨Nat.zero_le _, Nat.zero_le _⟩) (fun r_2 hr_2 => ?_)
    refine lv_if_ne (tgt := 25) hx hb dX3_wrong_19 (by decide) (fun c_19 => ?_) (fun c_19 => ?_)
    · skip
      have c_19 := b2_n hr_2 c_19
      refine lv_aload_n hx hb dX3_wrong_25 rfl (lv_at hl 0 rfl) ?_
      refine lz_get (G := G) (ci := 3) (v := .ref (q 6)) (C := RX3) (T := TX3) (N := 13) hx hb hu_wsX30 (fun _ h9 => h9) hown hK hP 0 rfl rfl 6 (by decide) hw1 rfl rfl dX3_wrong_26 ?_
      refine lv_iload_n hx hb dX3_wrong_29 rfl (lv_at hl 1 rfl) ?_
      refine lv_iload_n hx hb dX3_wrong_30 rfl (lv_at hl 2 rfl) ?_
      have hPc := hP.sub (ws' := lzDoor G (q 6) qh D F) [1, 2, 3, 4, 5, 6, 7, 8, 9, 10, 11] rfl
      refine ro_calli (va_runV (As := [.int (nI v), .int set]) (rest := []) ⟨hx, hb, hml, hown, hts⟩ (c_X1_timesWrong l G (q 6) qh D F v set N (by omega) (hN) (hN8)) (cwV 2 hts gX3_wrong_X1_timesWrong rfl rfl rfl (by decide +kernel) ⟨Nat.le_of_ble_eq_true rfl, Nat.le_of_ble_eq_true rfl⟩) (ro_preV hK hPc hP (ci := 1) (q0 := 1) rfl rfl) rfl rfl hl.1 rfl (lv_room (Nat.le_of_ble_eq_true rfl)) dX3_wrong_31 ⟨Nat.zero_le _, Nat.zero_le _⟩) (fun r_3 hr_3 => ?_)
      refine lz_top (y := bcI (wrbD D F v N &&& set)) hr_3 ?_
      exact ro_iret hx hb hr hlk dX3_wrong_34 (rfl)
    · skip
      have c_19 := b2_z hr_2 c_19
      exact Bool.noConfusion (hset.symm.trans c_19)
set_option maxHeartbeats 4000000 in
set_option maxRecDepth 100000 in
theorem c_J6_compare_7cf53 (l : Launch) (G : lzG) (a b : Int32)  : Met l yJ6_compare_7cf53 wsJ6_compare_7cf53 ({ frames := 0, cells := 0, slots := 0, locals := 0 }) (va_Pc [.int a, .int b] (roP G ([] : va_W))) (vp_Si (fun r => r = cmpI a b)) 0 0 (fun _ => False) := by
  refine ro_start (cc := cJ6_compare_7cf53) (maxL := 2) (ret := (some .int)) (by decide) rfl (Nat.le_of_ble_eq_true rfl) ?_
  intro pp ee ss mm bl me cd hx hb hr hlk hml hts hown hP hK ls hl
  have hown : ss.vm.findClass RJ6 = some mm.cls := hown
  have hl : lv_has ls 2 [(0, .int a), (1, .int b)] := hl
  refine lv_iload_n hx hb dJ6_compare_7cf53_0 rfl (lv_at hl 0 rfl) ?_
  refine lv_iload_n hx hb dJ6_compare_7cf53_1 rfl (lv_at hl 1 rfl) ?_
  refine lv_icmp_ge (tgt := 9) hx hb dJ6_compare_7cf53_2 (by decide) (fun c_2 => ?_) (fun c_2 => ?_)
  · skip
    have c_2' := Int32.not_lt.mpr c_2
    refine lv_iload_n hx hb dJ6_compare_7cf53_9 rfl (lv_at hl 0 rfl) ?_
    refine lv_iload_n hx hb dJ6_compare_7cf53_10 rfl (lv_at hl 1 rfl) ?_
    refine lv_icmp_ne (tgt := 18) hx hb dJ6_compare_7cf53_11 (by decide) (fun c_11 => ?_) (fun c_11 => ?_)
    · skip
      refine lv_iconst (v := 1) hx hb dJ6_compare_7cf53_18 (by decide) ?_
      exact ro_iret hx hb hr hlk dJ6_compare_7cf53_19 (by simp [cmpI, c_2, c_2', c_11])
    · skip
      refine lv_iconst (v := 0) hx hb dJ6_compare_7cf53_14 (by decide) ?_
      refine lv_goto (tgt := 19) hx hb dJ6_compare_7cf53_15 (by decide) ?_
      exact ro_iret hx hb hr hlk dJ6_compare_7cf53_19 (by simp [cmpI, c_2, c_2', c_11])
  · skip
    have c_2' := Int32.not_le.mp c_2
    refine lv_iconst (v := (-1)) hx hb dJ6_compare_7cf53_5 (by decide) ?_
    refine lv_goto (tgt := 19) hx hb dJ6_compare_7cf53_6 (by decide) ?_
    exact ro_iret hx hb hr hlk dJ6_compare_7cf53_19 (by simp [cmpI, c_2, c_2'])
set_option maxHeartbeats 4000000 in
set_option maxRecDepth 100000 in
theorem c_X3_learned_bad (l : Launch) (G : lzG) (x : Nat) (q : Nat → Nat) (S : Nat → Int32) (qh : Nat → Nat) (D : Nat → Int32) (F : Nat → Nat → Int32) (a : Int32) (hbad : inR a 0 (D 2 - 1) = false) : Met l yX3_learned wsX3_learned ({ frames := 2, cells := 0, slots := 0, locals := 43 }) (va_Pc [.ref x, .int a] (roP G (lzX x q S ++ lzDoor G (q 6) qh D F))) (vp_Si (fun r => r = -1000001)) 0 0 (fun _ => False) := by
  refine ro_start (cc := cX3_learned) (maxL := 2) (ret := (some .int)) (by decide) rfl (Nat.le_of_ble_eq_true rfl) ?_
  intro pp ee ss mm bl me cd hx hb hr hlk hml hts hown hP hK ls hl
  have hown : ss.vm.findClass RX3 = some mm.cls := hown
  have hw1 := hts (.fieldLink RX3 38 "LampSquares" "here" "LLampSquares$Door;") (List.mem_of_getElem? (i := 1) rfl)
  have hw2 := hts (.constant RX3 81 (-1000001)) (List.mem_of_getElem? (i := 2) rfl)
  have hu_wsX30 : ∀ w ∈ wsX30, w.before ([.ref x, .int a] : List Value).toArray ss = true := fun w h9 => hts w (List.mem_cons_of_mem _ (List.mem_append_left _ (List.mem_append_right _ h9)))
  have hl : lv_has ls 2 [(0, .ref x), (1, .int a)] := hl
  refine lv_aload_n hx hb dX3_learned_0 rfl (lv_at hl 0 rfl) ?_
  refine lz_get (G := G) (ci := 3) (v := .ref (q 6)) (C := RX3) (T := TX3) (N := 13) hx hb hu_wsX30 (fun _ h9 => h9) hown hK hP 0 rfl rfl 6 (by decide) hw1 rfl rfl dX3_learned_1 ?_
  refine lv_iload_n hx hb dX3_learned_4 rfl (lv_at hl 1 rfl) ?_
  have hPc := hP.sub (ws' := lzDoor G (q 6) qh D F) [1, 2, 3, 4, 5, 6, 7, 8, 9, 10, 11] rfl
  refine ro_calli (va_runV (As := [.int a]) (rest := []) ⟨hx, hb, hml, hown, hts⟩ (c_X1_isSquare l G (q 6) qh D F a ) (cwV 1 hts gX3_learned_X1_isSquare rfl rfl rfl (by decide +kernel) ⟨Nat.le_of_ble_eq_true rfl, Nat.le_of_ble_eq_true rfl⟩) (ro_preV hK hPc hP (ci := 1) (q0 := 1) rfl rfl) rfl rfl hl.1 rfl (lv_room (Nat.le_of_ble_eq_true rfl)) dX3_learned_5 ⟨Nat.zero_le _, Nat.zero_le _⟩) (fun r_1 hr_1 => ?_)
  refine lv_if_ne (tgt := 14) hx hb dX3_learned_8 (by decide) (fun c_8 => ?_) (fun c_8 => ?_)
  · skip
    have c_8 := b2_n hr_1 c_8
    exact Bool.noConfusion (hbad.symm.trans c_8)
  · skip
    have c_8 := b2_z hr_1 c_8
    refine lv_ldc hx hb hown hw2 dX3_learned_11 ?_
    exact ro_iret hx hb hr hlk dX3_learned_13 (rfl)
set_option maxHeartbeats 4000000 in
set_option maxRecDepth 100000 in
theorem c_X3_learned_ok (l : Launch) (G : lzG) (x : Nat) (q : Nat → Nat) (S : Nat → Int32) (qh : Nat → Nat) (D : Nat → Int32) (F : Nat → Nat → Int32) (s N : Nat) (hN : D 2 = nI N) (hN8 : N ≤ 8) (hs : s < N) : Met l yX3_learned wsX3_learned ({ frames := 2, cells := 0, slots := 0, locals := 43 }) (va_Pc [.ref x, .int (nI s)] (roP G (lzX x q S ++ lzDoor G (q 6) qh D F))) (vp_Si (fun r => r = 1 + cmpI (F 6 s) (F 7 s))) 0 0 (fun _ => False) := by
  have hB : inR (nI s) 0 (D 2 - 1) = true := inR_ok hN hs (by omega)
  refine ro_start (cc := cX3_learned) (maxL := 2) (ret := (some .int)) (by decide) rfl (Nat.le_of_ble_eq_true rfl) ?_
  intro pp ee ss mm bl me cd hx hb hr hlk hml hts hown hP hK ls hl
  have hown : ss.vm.findClass RX3 = some mm.cls := hown
  have hw1 := hts (.fieldLink RX3 38 "LampSquares" "here" "LLampSquares$Door;") (List.mem_of_getElem? (i := 1) rfl)
  have hw3 := hts (.fieldLink RX3 179 "LampSquares$Door" "votesFor" "[I") (List.mem_of_getElem? (i := 3) rfl)
  have hw4 := hts (.fieldLink RX3 182 "LampSquares$Door" "votesAgainst" "[I") (List.mem_of_getElem? (i := 4) rfl)
  have hu_wsX10 : ∀ w ∈ wsX10, w.before ([.ref x, .int (nI s)] : List Value).toArray ss = true := fun w h9 => hts w (List.mem_cons_of_mem _ (List.mem_append_right _ h9))
  have hu_wsX30 : ∀ w ∈ wsX30, w.before ([.ref x, .int (nI s)] : List Value).toArray ss = true := fun w h9 => hts w (List.mem_cons_of_mem _ (List.mem_append_left _ (List.mem_append_right _ h9)))
  have hl : lv_has ls 2 [(0, .ref x), (1, .int (nI s))] := hl
  refine lv_aload_n hx hb dX3_learned_0 rfl (lv_at hl 0 rfl) ?_
  refine lz_get (G := G) (ci := 3) (v := .ref (q 6)) (C := RX3) (T := TX3) (N := 13) hx hb hu_wsX30 (fun _ h9 => h9) hown hK hP 0 rfl rfl 6 (by decide) hw1 rfl rfl dX3_learned_1 ?_
  refine lv_iload_n hx hb dX3_learned_4 rfl (lv_at hl 1 rfl) ?_
  have hPc := hP.sub (ws' := lzDoor G (q 6) qh D F) [1, 2, 3, 4, 5, 6, 7, 8, 9, 10, 11] rfl
  refine ro_calli (va_runV (As := [.int (nI s)]) (rest := []) ⟨hx, hb, hml, hown, hts⟩ (c_X1_isSquare l G (q 6) qh D F (nI s) ) (cwV 1 hts gX3_learned_X1_isSquare rfl rfl rfl (by decide +kernel) ⟨Nat.le_of_ble_eq_true rfl, Nat.le_of_ble_eq_true rfl⟩) (ro_preV hK hPc hP (ci := 1) (q0 := 1) rfl rfl) rfl rfl hl.1 rfl (lv_room (Nat.le_of_ble_eq_true rfl)) dX3_learned_5 ⟨Nat.zero_le _, Nat.zero_le _⟩) (fun r_1 hr_1 => ?_)
  refine lv_if_ne (tgt := 14) hx hb dX3_learned_8 (by decide) (fun c_8 => ?_) (fun c_8 => ?_)
  · skip
    have c_8 := b2_n hr_1 c_8
    refine lv_iconst (v := 1) hx hb dX3_learned_14 (by decide) ?_
    refine lv_aload_n hx hb dX3_learned_15 rfl (lv_at hl 0 rfl) ?_
    refine lz_get (G := G) (ci := 3) (v := .ref (q 6)) (C := RX3) (T := TX3) (N := 13) hx hb hu_wsX30 (fun _ h9 => h9) hown hK hP 0 rfl rfl 6 (by decide) hw1 rfl rfl dX3_learned_16 ?_
    refine lz_get (G := G) (ci := 1) (v := .ref (qh 6)) (C := RX1) (T := TX1) (N := 14) hx hb hu_wsX10 (fun _ h9 => h9) hown hK hP 1 rfl rfl 6 (by decide) hw3 rfl rfl dX3_learned_19 ?_
    refine lv_iload_n hx hb dX3_learned_22 rfl (lv_at hl 1 rfl) ?_
    refine lz_iald (f := F 6) hx hb hK hP 4 rfl s (by omega) (Nat.le_of_ble_eq_true rfl) dX3_learned_23 ?_
    refine lv_aload_n hx hb dX3_learned_24 rfl (lv_at hl 0 rfl) ?_
    refine lz_get (G := G) (ci := 3) (v := .ref (q 6)) (C := RX3) (T := TX3) (N := 13) hx hb hu_wsX30 (fun _ h9 => h9) hown hK hP 0 rfl rfl 6 (by decide) hw1 rfl rfl dX3_learned_25 ?_
    refine lz_get (G := G) (ci := 1) (v := .ref (qh 7)) (C := RX1) (T := TX1) (N := 14) hx hb hu_wsX10 (fun _ h9 => h9) hown hK hP 1 rfl rfl 7 (by decide) hw4 rfl rfl dX3_learned_28 ?_
    refine lv_iload_n hx hb dX3_learned_31 rfl (lv_at hl 1 rfl) ?_
    refine lz_iald (f := F 7) hx hb hK hP 5 rfl s (by omega) (Nat.le_of_ble_eq_true rfl) dX3_learned_32 ?_
    refine ro_calli (va_runS (As := [.int ((F 6) s), .int ((F 7) s)]) (rest := [.int 1]) ⟨hx, hb, hml, hown, hts⟩ (c_J6_compare_7cf53 l G ((F 6) s) ((F 7) s) ) (va_cwS 2 hts gX3_learned_J6_compare_7cf53 rfl rfl rfl (by decide +kernel) ⟨Nat.le_of_ble_eq_true rfl, Nat.le_of_ble_eq_true rfl⟩) (ro_pre hK (fun k q h => by simp at h)) rfl rfl hl.1 rfl (lv_room (Nat.le_of_ble_eq_true rfl)) dX3_learned_33 ⟨Nat.zero_le _, Nat.zero_le _⟩) (fun r_2 hr_2 => ?_)
    refine lz_top (y := cmpI ((F 6) s) ((F 7) s)) hr_2 ?_
    refine lv_iadd hx hb dX3_learned_36 ?_
    exact ro_iret hx hb hr hlk dX3_learned_37 (rfl)
  · skip
    have c_8 := b2_z hr_1 c_8
    exact Bool.noConfusion (hB.symm.trans c_8)
set_option maxHeartbeats 4000000 in
set_option maxRecDepth 100000 in
theorem c_X3_needs_bad (l : Launch) (G : lzG) (x : Nat) (q : Nat → Nat) (S : Nat → Int32) (qh : Nat → Nat) (D : Nat → Int32) (F : Nat → Nat → Int32) (a : Int32) (hbad : inR a 0 (D 2 - 1) = false) : Met l yX3_needs wsX3_needs ({ frames := 2, cells := 0, slots := 0, locals := 43 }) (va_Pc [.ref x, .int a] (roP G (lzX x q S ++ lzDoor G (q 6) qh D F))) (vp_Si (fun r => r = -1000001)) 0 0 (fun _ => False) := by
  refine ro_start (cc := cX3_needs) (maxL := 3) (ret := (some .int)) (by decide) rfl (Nat.le_of_ble_eq_true rfl) ?_
  intro pp ee ss mm bl me cd hx hb hr hlk hml hts hown hP hK ls hl
  have hown : ss.vm.findClass RX3 = some mm.cls := hown
  have hw1 := hts (.fieldLink RX3 38 "LampSquares" "here" "LLampSquares$Door;") (List.mem_of_getElem? (i := 1) rfl)
  have hw2 := hts (.constant RX3 81 (-1000001)) (List.mem_of_getElem? (i := 2) rfl)
  have hu_wsX30 : ∀ w ∈ wsX30, w.before ([.ref x, .int a] : List Value).toArray ss = true := fun w h9 => hts w (List.mem_cons_of_mem _ (List.mem_append_left _ (List.mem_append_right _ h9)))
  have hl : lv_has ls 3 [(0, .ref x), (1, .int a)] := hl
  refine lv_aload_n hx hb dX3_needs_0 rfl (lv_at hl 0 rfl) ?_
  refine lz_get (G := G) (ci := 3) (v := .ref (q 6)) (C := RX3) (T := TX3) (N := 13) hx hb hu_wsX30 (fun _ h9 => h9) hown hK hP 0 rfl rfl 6 (by decide) hw1 rfl rfl dX3_needs_1 ?_
  refine lv_iload_n hx hb dX3_needs_4 rfl (lv_at hl 1 rfl) ?_
  have hPc := hP.sub (ws' := lzDoor G (q 6) qh D F) [1, 2, 3, 4, 5, 6, 7, 8, 9, 10, 11] rfl
  refine ro_calli (va_runV (As := [.int a]) (rest := []) ⟨hx, hb, hml, hown, hts⟩ (c_X1_isSquare l G (q 6) qh D F a ) (cwV 1 hts gX3_needs_X1_isSquare rfl rfl rfl (by decide +kernel) ⟨Nat.le_of_ble_eq_true rfl, Nat.le_of_ble_eq_true rfl⟩) (ro_preV hK hPc hP (ci := 1) (q0 := 1) rfl rfl) rfl rfl hl.1 rfl (lv_room (Nat.le_of_ble_eq_true rfl)) dX3_needs_5 ⟨Nat.zero_le _, Nat.zero_le _⟩) (fun r_1 hr_1 => ?_)
  refine lv_if_ne (tgt := 14) hx hb dX3_needs_8 (by decide) (fun c_8 => ?_) (fun c_8 => ?_)
  · skip
    have c_8 := b2_n hr_1 c_8
    exact Bool.noConfusion (hbad.symm.trans c_8)
  · skip
    have c_8 := b2_z hr_1 c_8
    refine lv_ldc hx hb hown hw2 dX3_needs_11 ?_
    exact ro_iret hx hb hr hlk dX3_needs_13 (rfl)
set_option maxHeartbeats 4000000 in
set_option maxRecDepth 100000 in
theorem c_X3_needs_state (l : Launch) (G : lzG) (x : Nat) (q : Nat → Nat) (S : Nat → Int32) (qh : Nat → Nat) (D : Nat → Int32) (F : Nat → Nat → Int32) (s N : Nat) (hN : D 2 = nI N) (hN8 : N ≤ 8) (hs : s < N) (hC : cntD F s = true) : Met l yX3_needs wsX3_needs ({ frames := 2, cells := 0, slots := 0, locals := 43 }) (va_Pc [.ref x, .int (nI s)] (roP G (lzX x q S ++ lzDoor G (q 6) qh D F))) (vp_Si (fun r => r = -1000002)) 0 0 (fun _ => False) := by
  have hB : inR (nI s) 0 (D 2 - 1) = true := inR_ok hN hs (by omega)
  refine ro_start (cc := cX3_needs) (maxL := 3) (ret := (some .int)) (by decide) rfl (Nat.le_of_ble_eq_true rfl) ?_
  intro pp ee ss mm bl me cd hx hb hr hlk hml hts hown hP hK ls hl
  have hown : ss.vm.findClass RX3 = some mm.cls := hown
  have hw1 := hts (.fieldLink RX3 38 "LampSquares" "here" "LLampSquares$Door;") (List.mem_of_getElem? (i := 1) rfl)
  have hw3 := hts (.constant RX3 137 (-1000002)) (List.mem_of_getElem? (i := 3) rfl)
  have hu_wsX30 : ∀ w ∈ wsX30, w.before ([.ref x, .int (nI s)] : List Value).toArray ss = true := fun w h9 => hts w (List.mem_cons_of_mem _ (List.mem_append_left _ (List.mem_append_right _ h9)))
  have hl : lv_has ls 3 [(0, .ref x), (1, .int (nI s))] := hl
  refine lv_aload_n hx hb dX3_needs_0 rfl (lv_at hl 0 rfl) ?_
  refine lz_get (G := G) (ci := 3) (v := .ref (q 6)) (C := RX3) (T := TX3) (N := 13) hx hb hu_wsX30 (fun _ h9 => h9) hown hK hP 0 rfl rfl 6 (by decide) hw1 rfl rfl dX3_needs_1 ?_
  refine lv_iload_n hx hb dX3_needs_4 rfl (lv_at hl 1 rfl) ?_
  have hPc := hP.sub (ws' := lzDoor G (q 6) qh D F) [1, 2, 3, 4, 5, 6, 7, 8, 9, 10, 11] rfl
  refine ro_calli (va_runV (As := [.int (nI s)]) (rest := []) ⟨hx, hb, hml, hown, hts⟩ (c_X1_isSquare l G (q 6) qh D F (nI s) ) (cwV 1 hts gX3_needs_X1_isSquare rfl rfl rfl (by decide +kernel) ⟨Nat.le_of_ble_eq_true rfl, Nat.le_of_ble_eq_true rfl⟩) (ro_preV hK hPc hP (ci := 1) (q0 := 1) rfl rfl) rfl rfl hl.1 rfl (lv_room (Nat.le_of_ble_eq_true rfl)) dX3_needs_5 ⟨Nat.zero_le _, Nat.zero_le _⟩) (fun r_1 hr_1 => ?_)
  refine lv_if_ne (tgt := 14) hx hb dX3_needs_8 (by decide) (fun c_8 => ?_) (fun c_8 => ?_)
  · skip
    have c_8 := b2_n hr_1 c_8
    refine lv_aload_n hx hb dX3_needs_14 rfl (lv_at hl 0 rfl) ?_
    refine lz_get (G := G) (ci := 3) (v := .ref (q 6)) (C := RX3) (T := TX3) (N := 13) hx hb hu_wsX30 (fun _ h9 => h9) hown hK hP 0 rfl rfl 6 (by decide) hw1 rfl rfl dX3_needs_15 ?_
    refine lv_iload_n hx hb dX3_needs_18 rfl (lv_at hl 1 rfl) ?_
    have hPc := hP.sub (ws' := lzDoor G (q 6) qh D F) [1, 2, 3, 4, 5, 6, 7, 8, 9, 10, 11] rfl
    refine ro_calli (va_runV (As := [.int (nI s)]) (rest := []) ⟨hx, hb, hml, hown, hts⟩ (c_X1_isCounted l G (q 6) qh D F s (by omega)) (cwV 1 hts gX3_needs_X1_isCounted rfl rfl rfl (by decide +kernel) ⟨Nat.le_of_ble_eq_true rfl, Nat.le_of_ble_eq_true rfl⟩) (ro_preV hK hPc hP (ci := 1) (q0 := 1) rfl rfl) rfl rfl hl.1 rfl (lv_room (Nat.le_of_ble_eq_true rfl)) dX3_needs_19 ⟨Nat.zero_le _, Nat.zero_le _⟩) (fun r_2 hr_2 => ?_)
    refine lv_if_eq (tgt := 28) hx hb dX3_needs_22 (by decide) (fun c_22 => ?_) (fun c_22 => ?_)
    · skip
      have c_22 := b2_z hr_2 c_22
      exact Bool.noConfusion (hC.symm.trans c_22)
    · skip
      have c_22 := b2_n hr_2 c_22
      refine lv_ldc hx hb hown hw3 dX3_needs_25 ?_
      exact ro_iret hx hb hr hlk dX3_needs_27 (rfl)
  · skip
    have c_8 := b2_z hr_1 c_8
    exact Bool.noConfusion (hB.symm.trans c_8)
set_option maxHeartbeats 4000000 in
set_option maxRecDepth 100000 in
theorem c_X3_needs_ok (l : Launch) (G : lzG) (x : Nat) (q : Nat → Nat) (S : Nat → Int32) (qh : Nat → Nat) (D : Nat → Int32) (F : Nat → Nat → Int32) (s N : Nat) (hN : D 2 = nI N) (hN8 : N ≤ 8) (hs : s < N) (hC : cntD F s = false) : Met l yX3_needs wsX3_needs ({ frames := 2, cells := 0, slots := 0, locals := 43 }) (va_Pc [.ref x, .int (nI s)] (roP G (lzX x q S ++ lzDoor G (q 6) qh D F))) (vp_Si (fun r => r = if F 7 s < F 6 s then F 6 s - F 7 s else 1 - (F 6 s - F 7 s))) 0 0 (fun _ => False) := by
  have hB : inR (nI s) 0 (D 2 - 1) = true := inR_ok hN hs (by omega)
  refine ro_start (cc := cX3_needs) (maxL := 3) (ret := (some .int)) (by decide) rfl (Nat.le_of_ble_eq_true rfl) ?_
  intro pp ee ss mm bl me cd hx hb hr hlk hml hts hown hP hK ls hl
  have hown : ss.vm.findClass RX3 = some mm.cls := hown
  have hw1 := hts (.fieldLink RX3 38 "LampSquares" "here" "LLampSquares$Door;") (List.mem_of_getElem? (i := 1) rfl)
  have hw4 := hts (.fieldLink RX3 179 "LampSquares$Door" "votesFor" "[I") (List.mem_of_getElem? (i := 4) rfl)
  have hw5 := hts (.fieldLink RX3 182 "LampSquares$Door" "votesAgainst" "[I") (List.mem_of_getElem? (i := 5) rfl)
  have hu_wsX10 : ∀ w ∈ wsX10, w.before ([.ref x, .int (nI s)] : List Value).toArray ss = true := fun w h9 => hts w (List.mem_cons_of_mem _ (List.mem_append_right _ h9))
  have hu_wsX30 : ∀ w ∈ wsX30, w.before ([.ref x, .int (nI s)] : List Value).toArray ss = true := fun w h9 => hts w (List.mem_cons_of_mem _ (List.mem_append_left _ (List.mem_append_right _ h9)))
  have hl : lv_has ls 3 [(0, .ref x), (1, .int (nI s))] := hl
  refine lv_aload_n hx hb dX3_needs_0 rfl (lv_at hl 0 rfl) ?_
  refine lz_get (G := G) (ci := 3) (v := .ref (q 6)) (C := RX3) (T := TX3) (N := 13) hx hb hu_wsX30 (fun _ h9 => h9) hown hK hP 0 rfl rfl 6 (by decide) hw1 rfl rfl dX3_needs_1 ?_
  refine lv_iload_n hx hb dX3_needs_4 rfl (lv_at hl 1 rfl) ?_
  have hPc := hP.sub (ws' := lzDoor G (q 6) qh D F) [1, 2, 3, 4, 5, 6, 7, 8, 9, 10, 11] rfl
  refine ro_calli (va_runV (As := [.int (nI s)]) (rest := []) ⟨hx, hb, hml, hown, hts⟩ (c_X1_isSquare l G (q 6) qh D F (nI s) ) (cwV 1 hts gX3_needs_X1_isSquare rfl rfl rfl (by decide +kernel) ⟨Nat.le_of_ble_eq_true rfl, Nat.le_of_ble_eq_true rfl⟩) (ro_preV hK hPc hP (ci := 1) (q0 := 1) rfl rfl) rfl rfl hl.1 rfl (lv_room (Nat.le_of_ble_eq_true rfl)) dX3_needs_5 ⟨Nat.zero_le _, Nat.zero_le _⟩) (fun r_1 hr_1 => ?_)
  refine lv_if_ne (tgt := 14) hx hb dX3_needs_8 (by decide) (fun c_8 => ?_) (fun c_8 => ?_)
  · skip
    have c_8 := b2_n hr_1 c_8
    refine lv_aload_n hx hb dX3_needs_14 rfl (lv_at hl 0 rfl) ?_
    refine lz_get (G := G) (ci := 3) (v := .ref (q 6)) (C := RX3) (T := TX3) (N := 13) hx hb hu_wsX30 (fun _ h9 => h9) hown hK hP 0 rfl rfl 6 (by decide) hw1 rfl rfl dX3_needs_15 ?_
    refine lv_iload_n hx hb dX3_needs_18 rfl (lv_at hl 1 rfl) ?_
    have hPc := hP.sub (ws' := lzDoor G (q 6) qh D F) [1, 2, 3, 4, 5, 6, 7, 8, 9, 10, 11] rfl
    refine ro_calli (va_runV (As := [.int (nI s)]) (rest := []) ⟨hx, hb, hml, hown, hts⟩ (c_X1_isCounted l G (q 6) qh D F s (by omega)) (cwV 1 hts gX3_needs_X1_isCounted rfl rfl rfl (by decide +kernel) ⟨Nat.le_of_ble_eq_true rfl, Nat.le_of_ble_eq_true rfl⟩) (ro_preV hK hPc hP (ci := 1) (q0 := 1) rfl rfl) rfl rfl hl.1 rfl (lv_room (Nat.le_of_ble_eq_true rfl)) dX3_needs_19 ⟨Nat.zero_le _, Nat.zero_le _⟩) (fun r_2 hr_2 => ?_)
    refine lv_if_eq (tgt := 28) hx hb dX3_needs_22 (by decide) (fun c_22 => ?_) (fun c_22 => ?_)
    · skip
      have c_22 := b2_z hr_2 c_22
      refine lv_aload_n hx hb dX3_needs_28 rfl (lv_at hl 0 rfl) ?_
      refine lz_get (G := G) (ci := 3) (v := .ref (q 6)) (C := RX3) (T := TX3) (N := 13) hx hb hu_wsX30 (fun _ h9 => h9) hown hK hP 0 rfl rfl 6 (by decide) hw1 rfl rfl dX3_needs_29 ?_
      refine lz_get (G := G) (ci := 1) (v := .ref (qh 6)) (C := RX1) (T := TX1) (N := 14) hx hb hu_wsX10 (fun _ h9 => h9) hown hK hP 1 rfl rfl 6 (by decide) hw4 rfl rfl dX3_needs_32 ?_
      refine lv_iload_n hx hb dX3_needs_35 rfl (lv_at hl 1 rfl) ?_
      refine lz_iald (f := F 6) hx hb hK hP 4 rfl s (by omega) (Nat.le_of_ble_eq_true rfl) dX3_needs_36 ?_
      refine lv_aload_n hx hb dX3_needs_37 rfl (lv_at hl 0 rfl) ?_
      refine lz_get (G := G) (ci := 3) (v := .ref (q 6)) (C := RX3) (T := TX3) (N := 13) hx hb hu_wsX30 (fun _ h9 => h9) hown hK hP 0 rfl rfl 6 (by decide) hw1 rfl rfl dX3_needs_38 ?_
      refine lz_get (G := G) (ci := 1) (v := .ref (qh 7)) (C := RX1) (T := TX1) (N := 14) hx hb hu_wsX10 (fun _ h9 => h9) hown hK hP 1 rfl rfl 7 (by decide) hw5 rfl rfl dX3_needs_41 ?_
      refine lv_iload_n hx hb dX3_needs_44 rfl (lv_at hl 1 rfl) ?_
      refine lz_iald (f := F 7) hx hb hK hP 5 rfl s (by omega) (Nat.le_of_ble_eq_true rfl) dX3_needs_45 ?_
      refine lv_isub hx hb dX3_needs_46 ?_
      refine lv_istore_n (lv' := [(2, .int (((F 6) s) - ((F 7) s))), (0, .ref x), (1, .int (nI s))]) hx hb dX3_needs_47 rfl hl (by decide) rfl (fun ls hl => ?_)
      refine lv_aload_n hx hb dX3_needs_48 rfl (lv_at hl 1 rfl) ?_
      refine lz_get (G := G) (ci := 3) (v := .ref (q 6)) (C := RX3) (T := TX3) (N := 13) hx hb hu_wsX30 (fun _ h9 => h9) hown hK hP 0 rfl rfl 6 (by decide) hw1 rfl rfl dX3_needs_49 ?_
      refine lv_iload_n hx hb dX3_needs_52 rfl (lv_at hl 2 rfl) ?_
      have hPc := hP.sub (ws' := lzDoor G (q 6) qh D F) [1, 2, 3, 4, 5, 6, 7, 8, 9, 10, 11] rfl
      refine ro_calli (va_runV (As := [.int (nI s)]) (rest := []) ⟨hx, hb, hml, hown, hts⟩ (c_X1_votesSayLamp l G (q 6) qh D F s (by omega)) (cwV 1 hts gX3_needs_X1_votesSayLamp rfl rfl rfl (by decide +kernel) ⟨Nat.le_of_ble_eq_true rfl, Nat.le_of_ble_eq_true rfl⟩) (ro_preV hK hPc hP (ci := 1) (q0 := 1) rfl rfl) rfl rfl hl.1 rfl (lv_room (Nat.le_of_ble_eq_true rfl)) dX3_needs_53 ⟨Nat.zero_le _, Nat.zero_le _⟩) (fun r_3 hr_3 => ?_)
      refine lv_if_eq (tgt := 63) hx hb dX3_needs_56 (by decide) (fun c_56 => ?_) (fun c_56 => ?_)
      · skip
        have c_56 := b2_z hr_3 c_56
        refine lv_iconst (v := 1) hx hb dX3_needs_63 (by decide) ?_
        refine lv_iload_n hx hb dX3_needs_64 rfl (lv_at hl 0 rfl) ?_
        refine lv_isub hx hb dX3_needs_65 ?_
        exact ro_iret hx hb hr hlk dX3_needs_66 (by first | rw [if_pos (of_decide_eq_true c_56)] | rw [if_neg (of_decide_eq_false c_56)])
      · skip
        have c_56 := b2_n hr_3 c_56
        refine lv_iload_n hx hb dX3_needs_59 rfl (lv_at hl 0 rfl) ?_
        refine lv_goto (tgt := 66) hx hb dX3_needs_60 (by decide) ?_
        exact ro_iret hx hb hr hlk dX3_needs_66 (by first | rw [if_pos (of_decide_eq_true c_56)] | rw [if_neg (of_decide_eq_false c_56)])
    · skip
      have c_22 := b2_n hr_2 c_22
      exact Bool.noConfusion (hC.symm.trans c_22)
  · skip
    have c_8 := b2_z hr_1 c_8
    exact Bool.noConfusion (hB.symm.trans c_8)
set_option maxHeartbeats 4000000 in
set_option maxRecDepth 100000 in
theorem c_X3_pose_bad (l : Launch) (G : lzG) (x : Nat) (q : Nat → Nat) (S : Nat → Int32) (qh : Nat → Nat) (D : Nat → Int32) (F : Nat → Nat → Int32) (a set : Int32) (hbad : (inR a 0 (D 3 - 1) && inR set 0 ((1 <<< (D 2 &&& 31)) - 1)) = false) : Met l yX3_pose wsX3_pose ({ frames := 2, cells := 0, slots := 0, locals := 43 }) (va_Pc [.ref x, .int a, .int set] (roP G (lzX x q S ++ lzDoor G (q 6) qh D F))) (vp_Si (fun r => r = -1000001)) 0 0 (fun _ => False) := by
  refine ro_start (cc := cX3_pose) (maxL := 3) (ret := (some .int)) (by decide) rfl (Nat.le_of_ble_eq_true rfl) ?_
  intro pp ee ss mm bl me cd hx hb hr hlk hml hts hown hP hK ls hl
  have hown : ss.vm.findClass RX3 = some mm.cls := hown
  have hw1 := hts (.fieldLink RX3 38 "LampSquares" "here" "LLampSquares$Door;") (List.mem_of_getElem? (i := 1) rfl)
  have hw2 := hts (.constant RX3 81 (-1000001)) (List.mem_of_getElem? (i := 2) rfl)
  have hu_wsX30 : ∀ w ∈ wsX30, w.before ([.ref x, .int a, .int set] : List Value).toArray ss = true := fun w h9 => hts w (List.mem_cons_of_mem _ (List.mem_append_left _ (List.mem_append_left _ (List.mem_append_right _ h9))))
  have hl : lv_has ls 3 [(0, .ref x), (1, .int a), (2, .int set)] := hl
  refine lv_aload_n hx hb dX3_pose_0 rfl (lv_at hl 0 rfl) ?_
  refine lz_get (G := G) (ci := 3) (v := .ref (q 6)) (C := RX3) (T := TX3) (N := 13) hx hb hu_wsX30 (fun _ h9 => h9) hown hK hP 0 rfl rfl 6 (by decide) hw1 rfl rfl dX3_pose_1 ?_
  refine lv_iload_n hx hb dX3_pose_4 rfl (lv_at hl 1 rfl) ?_
  have hPc := hP.sub (ws' := lzDoor G (q 6) qh D F) [1, 2, 3, 4, 5, 6, 7, 8, 9, 10, 11] rfl
  refine ro_calli (va_runV (As := [.int a]) (rest := []) ⟨hx, hb, hml, hown, hts⟩ (c_X1_isVisitor l G (q 6) qh D F a ) (cwV 1 hts gX3_pose_X1_isVisitor rfl rfl rfl (by decide +kernel) ⟨Nat.le_of_ble_eq_true rfl, Nat.le_of_ble_eq_true rfl⟩) (ro_preV hK hPc hP (ci := 1) (q0 := 1) rfl rfl) rfl rfl hl.1 rfl (lv_room (Nat.le_of_ble_eq_true rfl)) dX3_pose_5 ⟨Nat.zero_le _, Nat.zero_le _⟩) (fun r_1 hr_1 => ?_)
  refine lv_if_eq (tgt := 22) hx hb dX3_pose_8 (by decide) (fun c_8 => ?_) (fun c_8 => ?_)
  · skip
    have c_8 := b2_z hr_1 c_8
    refine lv_ldc hx hb hown hw2 dX3_pose_22 ?_
    exact ro_iret hx hb hr hlk dX3_pose_24 (rfl)
  · skip
    have c_8 := b2_n hr_1 c_8
    refine lv_aload_n hx hb dX3_pose_11 rfl (lv_at hl 0 rfl) ?_
    refine lz_get (G := G) (ci := 3) (v := .ref (q 6)) (C := RX3) (T := TX3) (N := 13) hx hb hu_wsX30 (fun _ h9 => h9) hown hK hP 0 rfl rfl 6 (by decide) hw1 rfl rfl dX3_pose_12 ?_
    refine lv_iload_n hx hb dX3_pose_15 rfl (lv_at hl 2 rfl) ?_
    have hPc := hP.sub (ws' := lzDoor G (q 6) qh D F) [1, 2, 3, 4, 5, 6, 7, 8, 9, 10, 11] rfl
    refine ro_calli (va_runV (As := [.int set]) (rest := []) ⟨hx, hb, hml, hown, hts⟩ (c_X1_areSquares l G (q 6) qh D F set ) (cwV 1 hts gX3_pose_X1_areSquares rfl rfl rfl (by decide +kernel) ⟨Nat.le_of_ble_eq_true rfl, Nat.le_of_ble_eq_true rfl⟩) (ro_preV hK hPc hP (ci := 1) (q0 := 1) rfl rfl) rfl rfl hl.1 rfl (lv_room (Nat.le_of_ble_eq_true rfl)) dX3_pose_16 ⟨Nat.zero_le _, Nat.zero_le _⟩) (fun r_2 hr_2 => ?_)
    refine lv_if_ne (tgt := 25) hx hb dX3_pose_19 (by decide) (fun c_19 => ?_) (fun c_19 => ?_)
    · skip
      have c_19 := b2_n hr_2 c_19
      exact Bool.noConfusion (hbad.symm.trans (by rw [c_8, c_19] <;> rfl))
    · skip
      have c_19 := b2_z hr_2 c_19
      refine lv_ldc hx hb hown hw2 dX3_pose_22 ?_
      exact ro_iret hx hb hr hlk dX3_pose_24 (rfl)
set_option maxHeartbeats 4000000 in
set_option maxRecDepth 100000 in
theorem c_X3_pose_ok (l : Launch) (G : lzG) (x : Nat) (q : Nat → Nat) (S : Nat → Int32) (qh : Nat → Nat) (D : Nat → Int32) (F : Nat → Nat → Int32) (qa : Nat → Nat) (U : Nat → Int32) (rh : Nat → Nat) (rq : Nat → Nat → Nat) (RS : Nat → Nat → Int32) (RF : Nat → Nat → Nat → Int32) (v : Nat) (set : Int32) (N M X K : Nat) (hN : D 2 = nI N) (hN8 : N ≤ 8) (hM : D 3 = nI M) (hM5 : M ≤ 5) (hv : v < M) (hset : inR set 0 ((1 <<< (D 2 &&& 31)) - 1) = true) (hX : U 1 = nI X) (hX24 : X < 24) (hK0 : U 2 = nI K) (hK24 : K ≤ 24) : Met l yX3_pose wsX3_pose ({ frames := 6, cells := 0, slots := 0, locals := 134 }) (va_Pc [.ref x, .int (nI v), .int set] (rwP G ((lzX x q S ++ (lzDoor G (q 6) qh D F ++ (lzAc (q 8) qa U ++ (lzQ G 3 (qa 0) 24 (fun i => some (rh i)))))) ++ ringW G rh rq RS RF))) (va_Qi (S := Unit) (fun (r : Int32) (_ : Unit) => r = b2 (putB D F v set N)) (rwB G (fun _ : Unit => ((lzX x q S ++ (lzDoor G (q 6) qh D (putF D F v set N) ++ (lzAc (q 8) qa (upd (upd U 1 (nI ((X + 1) % 24))) 2 (nI (min (K + 1) 24))) ++ (lzQ G 3 (qa 0) 24 (fun i => some (rh i)))))) ++ ringW G rh rq (lzF RS X (tfS D (RS X))) (lz3 RF X (tfF F (RF X)))))) (lzA ((lzX x q S ++ (lzDoor G (q 6) qh D F ++ (lzAc (q 8) qa U ++ (lzQ G 3 (qa 0) 24 (fun i => some (rh i)))))) ++ ringW G rh rq RS RF))) 0 0 (lzA ((lzX x q S ++ (lzDoor G (q 6) qh D F ++ (lzAc (q 8) qa U ++ (lzQ G 3 (qa 0) 24 (fun i => some (rh i)))))) ++ ringW G rh rq RS RF)) := by
  have hA : inR (nI v) 0 (D 3 - 1) = true := inR_ok hM hv (by omega)
  refine rw_start (S := Unit) (cc := cX3_pose) (maxL := 3) (ret := (some .int)) (by decide) rfl (Nat.le_of_ble_eq_true rfl) ?_
  intro pp ee ss mm bl me cd A hx hb hr hlk hml hts hown hP hK hD hAe hS ls hl
  have hA0 : ∀ zz : Nat, lzA ((lzX x q S ++ (lzDoor G (q 6) qh D F ++ (lzAc (q 8) qa U ++ (lzQ G 3 (qa 0) 24 (fun i => some (rh i)))))) ++ ringW G rh rq RS RF) zz → A zz := fun zz h9 => by rw [hAe]; exact h9
  rw [← hAe]
  clear hAe
  have hown : ss.vm.findClass RX3 = some mm.cls := hown
  have hw1 := hts (.fieldLink RX3 38 "LampSquares" "here" "LLampSquares$Door;") (List.mem_of_getElem? (i := 1) rfl)
  have hw3 := hts (.fieldLink RX3 48 "LampSquares" "acts" "LLampSquares$Acts;") (List.mem_of_getElem? (i := 3) rfl)
  have hu_wsX30 : ∀ w ∈ wsX30, w.before ([.ref x, .int (nI v), .int set] : List Value).toArray ss = true := fun w h9 => hts w (List.mem_cons_of_mem _ (List.mem_append_left _ (List.mem_append_left _ (List.mem_append_right _ h9))))
  have hl : lv_has ls 3 [(0, .ref x), (1, .int (nI v)), (2, .int set)] := hl
  refine lv_aload_n hx hb dX3_pose_0 rfl (lv_at hl 0 rfl) ?_
  refine lz_get (G := G) (ci := 3) (v := .ref (q 6)) (C := RX3) (T := TX3) (N := 13) hx hb hu_wsX30 (fun _ h9 => h9) hown hK hP 0 rfl rfl 6 (by decide) hw1 rfl rfl dX3_pose_1 ?_
  refine lv_iload_n hx hb dX3_pose_4 rfl (lv_at hl 1 rfl) ?_
  have hPc := hP.sub (ws' := lzDoor G (q 6) qh D F) [1, 2, 3, 4, 5, 6, 7, 8, 9, 10, 11] rfl
  refine ro_calli (va_runV (As := [.int (nI v)]) (rest := []) ⟨hx, hb, hml, hown, hts⟩ (c_X1_isVisitor l G (q 6) qh D F (nI v) ) (cwV 1 hts gX3_pose_X1_isVisitor rfl rfl rfl (by decide +kernel) ⟨Nat.le_of_ble_eq_true rfl, Nat.le_of_ble_eq_true rfl⟩) (ro_preV hK hPc hP (ci := 1) (q0 := 1) rfl rfl) rfl rfl hl.1 rfl (lv_room (Nat.le_of_ble_eq_true rfl)) dX3_pose_5 ⟨Nat.zero_le _, Nat.zero_le _⟩) (fun r_1 hr_1 => ?_)
  refine lv_if_eq (tgt := 22) hx hb dX3_pose_8 (by decide) (fun c_8 => ?_) (fun c_8 => ?_)
  · skip
    have c_8 := b2_z hr_1 c_8
    exact Bool.noConfusion (hA.symm.trans c_8)
  · skip
    have c_8 := b2_n hr_1 c_8
    refine lv_aload_n hx hb dX3_pose_11 rfl (lv_at hl 0 rfl) ?_
    refine lz_get (G := G) (ci := 3) (v := .ref (q 6)) (C := RX3) (T := TX3) (N := 13) hx hb hu_wsX30 (fun _ h9 => h9) hown hK hP 0 rfl rfl 6 (by decide) hw1 rfl rfl dX3_pose_12 ?_
    refine lv_iload_n hx hb dX3_pose_15 rfl (lv_at hl 2 rfl) ?_
    have hPc := hP.sub (ws' := lzDoor G (q 6) qh D F) [1, 2, 3, 4, 5, 6, 7, 8, 9, 10, 11] rfl
    refine ro_calli (va_runV (As := [.int set]) (rest := []) ⟨hx, hb, hml, hown, hts⟩ (c_X1_areSquares l G (q 6) qh D F set ) (cwV 1 hts gX3_pose_X1_areSquares rfl rfl rfl (by decide +kernel) ⟨Nat.le_of_ble_eq_true rfl, Nat.le_of_ble_eq_true rfl⟩) (ro_preV hK hPc hP (ci := 1) (q0 := 1) rfl rfl) rfl rfl hl.1 rfl (lv_room (Nat.le_of_ble_eq_true rfl)) dX3_pose_16 ⟨Nat.zero_le _, Nat.zero_le _⟩) (fun r_2 hr_2 => ?_)
    refine lv_if_ne (tgt := 25) hx hb dX3_pose_19 (by decide) (fun c_19 => ?_) (fun c_19 => ?_)
    · skip
      have c_19 := b2_n hr_2 c_19
      refine lv_aload_n hx hb dX3_pose_25 rfl (lv_at hl 0 rfl) ?_
      refine lz_get (G := G) (ci := 3) (v := .ref (q 8)) (C := RX3) (T := TX3) (N := 13) hx hb hu_wsX30 (fun _ h9 => h9) hown hK hP 0 rfl rfl 8 (by decide) hw3 rfl rfl dX3_pose_26 ?_
      refine lv_aload_n hx hb dX3_pose_29 rfl (lv_at hl 0 rfl) ?_
      refine lz_get (G := G) (ci := 3) (v := .ref (q 6)) (C := RX3) (T := TX3) (N := 13) hx hb hu_wsX30 (fun _ h9 => h9) hown hK hP 0 rfl rfl 6 (by decide) hw1 rfl rfl dX3_pose_30 ?_
      have hPc := P_subT (ws' := (lzAc (q 8) qa U ++ (lzQ G 3 (qa 0) 24 (fun i => some (rh i)) ++ (lzDoor G (q 6) qh D F)))) hP [12, 13, 1, 2, 3, 4, 5, 6, 7, 8, 9, 10, 11] rfl
      have hDc := D_subT (ws' := (lzAc (q 8) qa U ++ (lzQ G 3 (qa 0) 24 (fun i => some (rh i)) ++ (lzDoor G (q 6) qh D F)))) hD [12, 13, 1, 2, 3, 4, 5, 6, 7, 8, 9, 10, 11] (by decide) rfl
      have hFc : ∀ zz : Nat, lzA ((lzAc (q 8) qa U ++ (lzQ G 3 (qa 0) 24 (fun i => some (rh i)) ++ (lzDoor G (q 6) qh D F))) ++ ringW G rh rq RS RF) zz → A zz := lz_freeT hD [12, 13, 1, 2, 3, 4, 5, 6, 7, 8, 9, 10, 11] rfl
      refine va_callv (va_runV (As := [.ref (q 6)]) (rest := []) ⟨hx, hb, hml, hown, hts⟩ (c_X0_keep l G (q 8) qa U (q 6) qh D F rh rq RS RF X K (hX) (hX24) (hK0) (hK24)) (cwV 1 hts gX3_pose_X0_keep rfl rfl rfl (by decide +kernel) ⟨Nat.le_of_ble_eq_true rfl, Nat.le_of_ble_eq_true rfl⟩) (rw_preV hK hPc hDc hP (ci := 0) (q0 := 12) rfl rfl) rfl rfl hl.1 rfl (lv_room (Nat.le_of_ble_eq_true rfl)) dX3_pose_33 ⟨Nat.zero_le _, Nat.zero_le _⟩) hS (fun q _ h => hFc q h) hFc (fun u_4 t9 H1 locs ht hvm hr_3 hB hz1 hk1 hS => ?_)
      replace hB : va_P G.1 lzC _ t9.heap := hB
      rw [ht] at hB
      obtain ⟨hP, hD⟩ := lz_joinTT (wc := (lzAc (q 8) qa U ++ (lzQ G 3 (qa 0) 24 (fun i => some (rh i)) ++ (lzDoor G (q 6) qh D F)))) (wr := ([(x, .inr (3, [.ref (q 0), .ref (q 1), .ref (q 2), .int (S 3), .ref (q 4), .int (S 5), .ref (q 6), .ref (q 7), .ref (q 8), .ref (q 9), .ref (q 10), .int (S 11), .ref (q 12)]))] : va_W)) (w1 := (lzAc (q 8) qa (upd (upd U 1 (nI ((X + 1) % 24))) 2 (nI (min (K + 1) 24))) ++ (lzQ G 3 (qa 0) 24 (fun i => some (rh i)) ++ (lzDoor G (q 6) qh D F)))) hP hD [12, 13, 1, 2, 3, 4, 5, 6, 7, 8, 9, 10, 11] [0] rfl rfl (by decide) (by decide) rfl (ring_fst _ _ _) hk1 hB
      replace hP := P_subT (ws' := (lzX x q S ++ (lzDoor G (q 6) qh D F ++ (lzAc (q 8) qa (upd (upd U 1 (nI ((X + 1) % 24))) 2 (nI (min (K + 1) 24))) ++ (lzQ G 3 (qa 0) 24 (fun i => some (rh i))))))) hP [0, 3, 4, 5, 6, 7, 8, 9, 10, 11, 12, 13, 1, 2] rfl
      replace hD := D_subT (ws' := (lzX x q S ++ (lzDoor G (q 6) qh D F ++ (lzAc (q 8) qa (upd (upd U 1 (nI ((X + 1) % 24))) 2 (nI (min (K + 1) 24))) ++ (lzQ G 3 (qa 0) 24 (fun i => some (rh i))))))) hD [0, 3, 4, 5, 6, 7, 8, 9, 10, 11, 12, 13, 1, 2] (by decide) rfl
      clear ht hvm hB hz1 hk1
      generalize H1 = H at hP hS ⊢
      refine lv_aload_n hx hb dX3_pose_36 rfl (lv_at hl 0 rfl) ?_
      refine lz_get (G := G) (ci := 3) (v := .ref (q 6)) (C := RX3) (T := TX3) (N := 13) hx hb hu_wsX30 (fun _ h9 => h9) hown hK hP 0 rfl rfl 6 (by decide) hw1 rfl rfl dX3_pose_37 ?_
      refine lv_iload_n hx hb dX3_pose_40 rfl (lv_at hl 1 rfl) ?_
      refine lv_iload_n hx hb dX3_pose_41 rfl (lv_at hl 2 rfl) ?_
      have hPc := hP.sub (ws' := lzDoor G (q 6) qh D F) [1, 2, 3, 4, 5, 6, 7, 8, 9, 10, 11] rfl
      have hDc := hD.sub (ws' := lzDoor G (q 6) qh D F) [1, 2, 3, 4, 5, 6, 7, 8, 9, 10, 11] (by decide) rfl
      have hFc : ∀ zz : Nat, lzA (lzDoor G (q 6) qh D F) zz → A zz := lz_free hD [1, 2, 3, 4, 5, 6, 7, 8, 9, 10, 11] rfl
      refine va_calli (va_runV (As := [.int (nI v), .int set]) (rest := []) ⟨hx, hb, hml, hown, hts⟩ (c_X1_putTo l G (q 6) qh D F v set N (by omega) (hN) (hN8)) (cwV 2 hts gX3_pose_X1_putTo rfl rfl rfl (by decide +kernel) ⟨Nat.le_of_ble_eq_true rfl, Nat.le_of_ble_eq_true rfl⟩) (rw_preV hK hPc hDc hP (ci := 1) (q0 := 1) rfl rfl) rfl rfl hl.1 rfl (lv_room (Nat.le_of_ble_eq_true rfl)) dX3_pose_42 ⟨Nat.zero_le _, Nat.zero_le _⟩) hS (fun q _ h => hFc q h) hFc (fun r_5 u_6 t9 H1 locs ht hvm hr_5 hB hz1 hk1 hS => ?_)
      replace hB : va_P G.1 lzC _ t9.heap := hB
      rw [ht] at hB
      obtain ⟨hP, hD⟩ := lz_joinT (wc := lzDoor G (q 6) qh D F) (wr := ([(x, .inr (3, [.ref (q 0), .ref (q 1), .ref (q 2), .int (S 3), .ref (q 4), .int (S 5), .ref (q 6), .ref (q 7), .ref (q 8), .ref (q 9), .ref (q 10), .int (S 11), .ref (q 12)])), (q 8, .inr (0, [.ref (qa 0), .int (nI ((X + 1) % 24)), .int (nI (min (K + 1) 24))])), (qa 0, .inl (G.2 3, 24, .inr (.inr (.inr (.inr (fun i => some (rh i)))))))] : va_W)) (w1 := lzDoor G (q 6) qh D (putF D F v set N)) hP hD [1, 2, 3, 4, 5, 6, 7, 8, 9, 10, 11] [0, 12, 13] rfl rfl (by decide) (by decide) rfl hk1 hB
      replace hP := P_subT (ws' := (lzX x q S ++ (lzDoor G (q 6) qh D (putF D F v set N) ++ (lzAc (q 8) qa (upd (upd U 1 (nI ((X + 1) % 24))) 2 (nI (min (K + 1) 24))) ++ (lzQ G 3 (qa 0) 24 (fun i => some (rh i))))))) hP [0, 3, 4, 5, 6, 7, 8, 9, 10, 11, 12, 13, 1, 2] rfl
      replace hD := D_subT (ws' := (lzX x q S ++ (lzDoor G (q 6) qh D (putF D F v set N) ++ (lzAc (q 8) qa (upd (upd U 1 (nI ((X + 1) % 24))) 2 (nI (min (K + 1) 24))) ++ (lzQ G 3 (qa 0) 24 (fun i => some (rh i))))))) hD [0, 3, 4, 5, 6, 7, 8, 9, 10, 11, 12, 13, 1, 2] (by decide) rfl
      clear ht hvm hB hz1 hk1
      generalize H1 = H at hP hS ⊢
      refine lv_if_eq (tgt := 52) hx hb dX3_pose_45 (by decide) (fun c_45 => ?_) (fun c_45 => ?_)
      · skip
        have c_45 := b2_z hr_5 c_45
        refine lv_iconst (v := 0) hx hb dX3_pose_52 (by decide) ?_
        exact rw_iret (S := Unit) (G := G) (Wd := fun _ : Unit => ((lzX x q S ++ (lzDoor G (q 6) qh D (putF D F v set N) ++ (lzAc (q 8) qa (upd (upd U 1 (nI ((X + 1) % 24))) 2 (nI (min (K + 1) 24))) ++ (lzQ G 3 (qa 0) 24 (fun i => some (rh i)))))) ++ ringW G rh rq (lzF RS X (tfS D (RS X))) (lz3 RF X (tfF F (RF X))))) () hx hb hr hlk dX3_pose_53 hS (hP) (by rw [c_45]; rfl)
      · skip
        have c_45 := b2_n hr_5 c_45
        refine lv_iconst (v := 1) hx hb dX3_pose_48 (by decide) ?_
        refine lv_goto (tgt := 53) hx hb dX3_pose_49 (by decide) ?_
        exact rw_iret (S := Unit) (G := G) (Wd := fun _ : Unit => ((lzX x q S ++ (lzDoor G (q 6) qh D (putF D F v set N) ++ (lzAc (q 8) qa (upd (upd U 1 (nI ((X + 1) % 24))) 2 (nI (min (K + 1) 24))) ++ (lzQ G 3 (qa 0) 24 (fun i => some (rh i)))))) ++ ringW G rh rq (lzF RS X (tfS D (RS X))) (lz3 RF X (tfF F (RF X))))) () hx hb hr hlk dX3_pose_53 hS (hP) (by rw [c_45]; rfl)
    · skip
      have c_19 := b2_z hr_2 c_19
      exact Bool.noConfusion (hset.symm.trans c_19)
set_option maxHeartbeats 4000000 in
set_option maxRecDepth 100000 in
theorem c_X3_strict_state (l : Launch) (G : lzG) (x : Nat) (q : Nat → Nat) (S : Nat → Int32) (qh : Nat → Nat) (D : Nat → Int32) (F : Nat → Nat → Int32) (n : Int32) (hR : (decide (0 < D 2) && decide (0 < D 3)) = false) : Met l yX3_strict wsX3_strict ({ frames := 1, cells := 0, slots := 0, locals := 20 }) (va_Pc [.ref x, .int n] (roP G (lzX x q S ++ lzDoor G (q 6) qh D F))) (vp_Si (fun r => r = -1000002)) 0 0 (fun _ => False) := by
  refine ro_start (cc := cX3_strict) (maxL := 3) (ret := (some .int)) (by decide) rfl (Nat.le_of_ble_eq_true rfl) ?_
  intro pp ee ss mm bl me cd hx hb hr hlk hml hts hown hP hK ls hl
  have hown : ss.vm.findClass RX3 = some mm.cls := hown
  have hw1 := hts (.fieldLink RX3 38 "LampSquares" "here" "LLampSquares$Door;") (List.mem_of_getElem? (i := 1) rfl)
  have hw2 := hts (.constant RX3 137 (-1000002)) (List.mem_of_getElem? (i := 2) rfl)
  have hu_wsX30 : ∀ w ∈ wsX30, w.before ([.ref x, .int n] : List Value).toArray ss = true := fun w h9 => hts w (List.mem_cons_of_mem _ (List.mem_append_left _ (List.mem_append_left _ (List.mem_append_right _ h9))))
  have hl : lv_has ls 3 [(0, .ref x), (1, .int n)] := hl
  refine lv_aload_n hx hb dX3_strict_0 rfl (lv_at hl 0 rfl) ?_
  refine lz_get (G := G) (ci := 3) (v := .ref (q 6)) (C := RX3) (T := TX3) (N := 13) hx hb hu_wsX30 (fun _ h9 => h9) hown hK hP 0 rfl rfl 6 (by decide) hw1 rfl rfl dX3_strict_1 ?_
  have hPc := hP.sub (ws' := lzDoor G (q 6) qh D F) [1, 2, 3, 4, 5, 6, 7, 8, 9, 10, 11] rfl
  refine ro_calli (va_runV (As := []) (rest := []) ⟨hx, hb, hml, hown, hts⟩ (c_X1_isRead l G (q 6) qh D F ) (cwV 0 hts gX3_strict_X1_isRead rfl rfl rfl (by decide +kernel) ⟨Nat.le_of_ble_eq_true rfl, Nat.le_of_ble_eq_true rfl⟩) (ro_preV hK hPc hP (ci := 1) (q0 := 1) rfl rfl) rfl rfl hl.1 rfl (lv_room (Nat.le_of_ble_eq_true rfl)) dX3_strict_4 ⟨Nat.zero_le _, Nat.zero_le _⟩) (fun r_1 hr_1 => ?_)
  refine lv_if_ne (tgt := 13) hx hb dX3_strict_7 (by decide) (fun c_7 => ?_) (fun c_7 => ?_)
  · skip
    have c_7 := b2_n hr_1 c_7
    exact Bool.noConfusion (hR.symm.trans c_7)
  · skip
    have c_7 := b2_z hr_1 c_7
    refine lv_ldc hx hb hown hw2 dX3_strict_10 ?_
    exact ro_iret hx hb hr hlk dX3_strict_12 (rfl)
set_option maxHeartbeats 4000000 in
set_option maxRecDepth 100000 in
theorem c_X3_strict_bad (l : Launch) (G : lzG) (x : Nat) (q : Nat → Nat) (S : Nat → Int32) (qh : Nat → Nat) (D : Nat → Int32) (F : Nat → Nat → Int32) (n : Int32) (hR : (decide (0 < D 2) && decide (0 < D 3)) = true) (hn : inR n 0 8 = false) : Met l yX3_strict wsX3_strict ({ frames := 1, cells := 0, slots := 0, locals := 22 }) (va_Pc [.ref x, .int n] (roP G (lzX x q S ++ lzDoor G (q 6) qh D F))) (vp_Si (fun r => r = -1000001)) 0 0 (fun _ => False) := by
  refine ro_start (cc := cX3_strict) (maxL := 3) (ret := (some .int)) (by decide) rfl (Nat.le_of_ble_eq_true rfl) ?_
  intro pp ee ss mm bl me cd hx hb hr hlk hml hts hown hP hK ls hl
  have hown : ss.vm.findClass RX3 = some mm.cls := hown
  have hw1 := hts (.fieldLink RX3 38 "LampSquares" "here" "LLampSquares$Door;") (List.mem_of_getElem? (i := 1) rfl)
  have hw3 := hts (.constant RX3 81 (-1000001)) (List.mem_of_getElem? (i := 3) rfl)
  have hu_wsX30 : ∀ w ∈ wsX30, w.before ([.ref x, .int n] : List Value).toArray ss = true := fun w h9 => hts w (List.mem_cons_of_mem _ (List.mem_append_left _ (List.mem_append_left _ (List.mem_append_right _ h9))))
  have hl : lv_has ls 3 [(0, .ref x), (1, .int n)] := hl
  refine lv_aload_n hx hb dX3_strict_0 rfl (lv_at hl 0 rfl) ?_
  refine lz_get (G := G) (ci := 3) (v := .ref (q 6)) (C := RX3) (T := TX3) (N := 13) hx hb hu_wsX30 (fun _ h9 => h9) hown hK hP 0 rfl rfl 6 (by decide) hw1 rfl rfl dX3_strict_1 ?_
  have hPc := hP.sub (ws' := lzDoor G (q 6) qh D F) [1, 2, 3, 4, 5, 6, 7, 8, 9, 10, 11] rfl
  refine ro_calli (va_runV (As := []) (rest := []) ⟨hx, hb, hml, hown, hts⟩ (c_X1_isRead l G (q 6) qh D F ) (cwV 0 hts gX3_strict_X1_isRead rfl rfl rfl (by decide +kernel) ⟨Nat.le_of_ble_eq_true rfl, Nat.le_of_ble_eq_true rfl⟩) (ro_preV hK hPc hP (ci := 1) (q0 := 1) rfl rfl) rfl rfl hl.1 rfl (lv_room (Nat.le_of_ble_eq_true rfl)) dX3_strict_4 ⟨Nat.zero_le _, Nat.zero_le _⟩) (fun r_1 hr_1 => ?_)
  refine lv_if_ne (tgt := 13) hx hb dX3_strict_7 (by decide) (fun c_7 => ?_) (fun c_7 => ?_)
  · skip
    have c_7 := b2_n hr_1 c_7
    refine lv_iload_n hx hb dX3_strict_13 rfl (lv_at hl 1 rfl) ?_
    refine lv_iconst (v := 0) hx hb dX3_strict_14 (by decide) ?_
    refine lv_bipush (v := 8) hx hb dX3_strict_15 (by decide) ?_
    refine ro_calli (va_runS (As := [.int n, .int 0, .int 8]) (rest := []) ⟨hx, hb, hml, hown, hts⟩ (c_X3_isIn l G n 0 8 ) (cwS 3 hts gX3_strict_X3_isIn rfl rfl rfl (by decide +kernel) ⟨Nat.le_of_ble_eq_true rfl, Nat.le_of_ble_eq_true rfl⟩) (ro_pre hK (fun k q h => by simp at h)) rfl rfl hl.1 rfl (lv_room (Nat.le_of_ble_eq_true rfl)) dX3_strict_17 ⟨Nat.zero_le _, Nat.zero_le _⟩) (fun r_2 hr_2 => ?_)
    refine lv_if_ne (tgt := 26) hx hb dX3_strict_20 (by decide) (fun c_20 => ?_) (fun c_20 => ?_)
    · skip
      have c_20 := b2_n hr_2 c_20
      exact Bool.noConfusion (hn.symm.trans c_20)
    · skip
      have c_20 := b2_z hr_2 c_20
      refine lv_ldc hx hb hown hw3 dX3_strict_23 ?_
      exact ro_iret hx hb hr hlk dX3_strict_25 (rfl)
  · skip
    have c_7 := b2_z hr_1 c_7
    exact Bool.noConfusion (hR.symm.trans c_7)
set_option maxHeartbeats 4000000 in
set_option maxRecDepth 100000 in
theorem c_X3_strict_ok (l : Launch) (G : lzG) (x : Nat) (q : Nat → Nat) (S : Nat → Int32) (qh : Nat → Nat) (D : Nat → Int32) (F : Nat → Nat → Int32) (qa : Nat → Nat) (U : Nat → Int32) (rh : Nat → Nat) (rq : Nat → Nat → Nat) (RS : Nat → Nat → Int32) (RF : Nat → Nat → Nat → Int32) (n : Int32) (X K : Nat) (hR : (decide (0 < D 2) && decide (0 < D 3)) = true) (hn : inR n 0 8 = true) (hX : U 1 = nI X) (hX24 : X < 24) (hK0 : U 2 = nI K) (hK24 : K ≤ 24) : Met l yX3_strict wsX3_strict ({ frames := 3, cells := 0, slots := 0, locals := 82 }) (va_Pc [.ref x, .int n] (rwP G ((lzX x q S ++ (lzDoor G (q 6) qh D F ++ (lzAc (q 8) qa U ++ (lzQ G 3 (qa 0) 24 (fun i => some (rh i)))))) ++ ringW G rh rq RS RF))) (va_Qi (S := Unit) (fun (r : Int32) (_ : Unit) => r = D 1) (rwB G (fun _ : Unit => ((lzX x q S ++ (lzDoor G (q 6) qh (upd D 1 n) F ++ (lzAc (q 8) qa (upd (upd U 1 (nI ((X + 1) % 24))) 2 (nI (min (K + 1) 24))) ++ (lzQ G 3 (qa 0) 24 (fun i => some (rh i)))))) ++ ringW G rh rq (lzF RS X (tfS D (RS X))) (lz3 RF X (tfF F (RF X)))))) (lzA ((lzX x q S ++ (lzDoor G (q 6) qh D F ++ (lzAc (q 8) qa U ++ (lzQ G 3 (qa 0) 24 (fun i => some (rh i)))))) ++ ringW G rh rq RS RF))) 0 0 (lzA ((lzX x q S ++ (lzDoor G (q 6) qh D F ++ (lzAc (q 8) qa U ++ (lzQ G 3 (qa 0) 24 (fun i => some (rh i)))))) ++ ringW G rh rq RS RF)) := by
  refine rw_start (S := Unit) (cc := cX3_strict) (maxL := 3) (ret := (some .int)) (by decide) rfl (Nat.le_of_ble_eq_true rfl) ?_
  intro pp ee ss mm bl me cd A hx hb hr hlk hml hts hown hP hK hD hAe hS ls hl
  have hA0 : ∀ zz : Nat, lzA ((lzX x q S ++ (lzDoor G (q 6) qh D F ++ (lzAc (q 8) qa U ++ (lzQ G 3 (qa 0) 24 (fun i => some (rh i)))))) ++ ringW G rh rq RS RF) zz → A zz := fun zz h9 => by rw [hAe]; exact h9
  rw [← hAe]
  clear hAe
  have hown : ss.vm.findClass RX3 = some mm.cls := hown
  have hw1 := hts (.fieldLink RX3 38 "LampSquares" "here" "LLampSquares$Door;") (List.mem_of_getElem? (i := 1) rfl)
  have hw4 := hts (.fieldLink RX3 48 "LampSquares" "acts" "LLampSquares$Acts;") (List.mem_of_getElem? (i := 4) rfl)
  have hw5 := hts (.fieldLink RX3 158 "LampSquares$Door" "strict" "I") (List.mem_of_getElem? (i := 5) rfl)
  have hu_wsX10 : ∀ w ∈ wsX10, w.before ([.ref x, .int n] : List Value).toArray ss = true := fun w h9 => hts w (List.mem_cons_of_mem _ (List.mem_append_left _ (List.mem_append_right _ h9)))
  have hu_wsX30 : ∀ w ∈ wsX30, w.before ([.ref x, .int n] : List Value).toArray ss = true := fun w h9 => hts w (List.mem_cons_of_mem _ (List.mem_append_left _ (List.mem_append_left _ (List.mem_append_right _ h9))))
  have hl : lv_has ls 3 [(0, .ref x), (1, .int n)] := hl
  refine lv_aload_n hx hb dX3_strict_0 rfl (lv_at hl 0 rfl) ?_
  refine lz_get (G := G) (ci := 3) (v := .ref (q 6)) (C := RX3) (T := TX3) (N := 13) hx hb hu_wsX30 (fun _ h9 => h9) hown hK hP 0 rfl rfl 6 (by decide) hw1 rfl rfl dX3_strict_1 ?_
  have hPc := hP.sub (ws' := lzDoor G (q 6) qh D F) [1, 2, 3, 4, 5, 6, 7, 8, 9, 10, 11] rfl
  refine ro_calli (va_runV (As := []) (rest := []) ⟨hx, hb, hml, hown, hts⟩ (c_X1_isRead l G (q 6) qh D F ) (cwV 0 hts gX3_strict_X1_isRead rfl rfl rfl (by decide +kernel) ⟨Nat.le_of_ble_eq_true rfl, Nat.le_of_ble_eq_true rfl⟩) (ro_preV hK hPc hP (ci := 1) (q0 := 1) rfl rfl) rfl rfl hl.1 rfl (lv_room (Nat.le_of_ble_eq_true rfl)) dX3_strict_4 ⟨Nat.zero_le _, Nat.zero_le _⟩) (fun r_1 hr_1 => ?_)
  refine lv_if_ne (tgt := 13) hx hb dX3_strict_7 (by decide) (fun c_7 => ?_) (fun c_7 => ?_)
  · skip
    have c_7 := b2_n hr_1 c_7
    refine lv_iload_n hx hb dX3_strict_13 rfl (lv_at hl 1 rfl) ?_
    refine lv_iconst (v := 0) hx hb dX3_strict_14 (by decide) ?_
    refine lv_bipush (v := 8) hx hb dX3_strict_15 (by decide) ?_
    refine ro_calli (va_runS (As := [.int n, .int 0, .int 8]) (rest := []) ⟨hx, hb, hml, hown, hts⟩ (c_X3_isIn l G n 0 8 ) (cwS 3 hts gX3_strict_X3_isIn rfl rfl rfl (by decide +kernel) ⟨Nat.le_of_ble_eq_true rfl, Nat.le_of_ble_eq_true rfl⟩) (ro_pre hK (fun k q h => by simp at h)) rfl rfl hl.1 rfl (lv_room (Nat.le_of_ble_eq_true rfl)) dX3_strict_17 ⟨Nat.zero_le _, Nat.zero_le _⟩) (fun r_2 hr_2 => ?_)
    refine lv_if_ne (tgt := 26) hx hb dX3_strict_20 (by decide) (fun c_20 => ?_) (fun c_20 => ?_)
    · skip
      have c_20 := b2_n hr_2 c_20
      refine lv_aload_n hx hb dX3_strict_26 rfl (lv_at hl 0 rfl) ?_
      refine lz_get (G := G) (ci := 3) (v := .ref (q 8)) (C := RX3) (T := TX3) (N := 13) hx hb hu_wsX30 (fun _ h9 => h9) hown hK hP 0 rfl rfl 8 (by decide) hw4 rfl rfl dX3_strict_27 ?_
      refine lv_aload_n hx hb dX3_strict_30 rfl (lv_at hl 0 rfl) ?_
      refine lz_get (G := G) (ci := 3) (v := .ref (q 6)) (C := RX3) (T := TX3) (N := 13) hx hb hu_wsX30 (fun _ h9 => h9) hown hK hP 0 rfl rfl 6 (by decide) hw1 rfl rfl dX3_strict_31 ?_
      have hPc := P_subT (ws' := (lzAc (q 8) qa U ++ (lzQ G 3 (qa 0) 24 (fun i => some (rh i)) ++ (lzDoor G (q 6) qh D F)))) hP [12, 13, 1, 2, 3, 4, 5, 6, 7, 8, 9, 10, 11] rfl
      have hDc := D_subT (ws' := (lzAc (q 8) qa U ++ (lzQ G 3 (qa 0) 24 (fun i => some (rh i)) ++ (lzDoor G (q 6) qh D F)))) hD [12, 13, 1, 2, 3, 4, 5, 6, 7, 8, 9, 10, 11] (by decide) rfl
      have hFc : ∀ zz : Nat, lzA ((lzAc (q 8) qa U ++ (lzQ G 3 (qa 0) 24 (fun i => some (rh i)) ++ (lzDoor G (q 6) qh D F))) ++ ringW G rh rq RS RF) zz → A zz := lz_freeT hD [12, 13, 1, 2, 3, 4, 5, 6, 7, 8, 9, 10, 11] rfl
      refine va_callv (va_runV (As := [.ref (q 6)]) (rest := []) ⟨hx, hb, hml, hown, hts⟩ (c_X0_keep l G (q 8) qa U (q 6) qh D F rh rq RS RF X K (hX) (hX24) (hK0) (hK24)) (cwV 1 hts gX3_strict_X0_keep rfl rfl rfl (by decide +kernel) ⟨Nat.le_of_ble_eq_true rfl, Nat.le_of_ble_eq_true rfl⟩) (rw_preV hK hPc hDc hP (ci := 0) (q0 := 12) rfl rfl) rfl rfl hl.1 rfl (lv_room (Nat.le_of_ble_eq_true rfl)) dX3_strict_34 ⟨Nat.zero_le _, Nat.zero_le _⟩) hS (fun q _ h => hFc q h) hFc (fun u_4 t9 H1 locs ht hvm hr_3 hB hz1 hk1 hS => ?_)
      replace hB : va_P G.1 lzC _ t9.heap := hB
      rw [ht] at hB
      obtain ⟨hP, hD⟩ := lz_joinTT (wc := (lzAc (q 8) qa U ++ (lzQ G 3 (qa 0) 24 (fun i => some (rh i)) ++ (lzDoor G (q 6) qh D F)))) (wr := ([(x, .inr (3, [.ref (q 0), .ref (q 1), .ref (q 2), .int (S 3), .ref (q 4), .int (S 5), .ref (q 6), .ref (q 7), .ref (q 8), .ref (q 9), .ref (q 10), .int (S 11), .ref (q 12)]))] : va_W)) (w1 := (lzAc (q 8) qa (upd (upd U 1 (nI ((X + 1) % 24))) 2 (nI (min (K + 1) 24))) ++ (lzQ G 3 (qa 0) 24 (fun i => some (rh i)) ++ (lzDoor G (q 6) qh D F)))) hP hD [12, 13, 1, 2, 3, 4, 5, 6, 7, 8, 9, 10, 11] [0] rfl rfl (by decide) (by decide) rfl (ring_fst _ _ _) hk1 hB
      replace hP := P_subT (ws' := (lzX x q S ++ (lzDoor G (q 6) qh D F ++ (lzAc (q 8) qa (upd (upd U 1 (nI ((X + 1) % 24))) 2 (nI (min (K + 1) 24))) ++ (lzQ G 3 (qa 0) 24 (fun i => some (rh i))))))) hP [0, 3, 4, 5, 6, 7, 8, 9, 10, 11, 12, 13, 1, 2] rfl
      replace hD := D_subT (ws' := (lzX x q S ++ (lzDoor G (q 6) qh D F ++ (lzAc (q 8) qa (upd (upd U 1 (nI ((X + 1) % 24))) 2 (nI (min (K + 1) 24))) ++ (lzQ G 3 (qa 0) 24 (fun i => some (rh i))))))) hD [0, 3, 4, 5, 6, 7, 8, 9, 10, 11, 12, 13, 1, 2] (by decide) rfl
      clear ht hvm hB hz1 hk1
      generalize H1 = H at hP hS ⊢
      refine lv_aload_n hx hb dX3_strict_37 rfl (lv_at hl 0 rfl) ?_
      refine lz_get (G := G) (ci := 3) (v := .ref (q 6)) (C := RX3) (T := TX3) (N := 13) hx hb hu_wsX30 (fun _ h9 => h9) hown hK hP 0 rfl rfl 6 (by decide) hw1 rfl rfl dX3_strict_38 ?_
      refine lz_get (G := G) (ci := 1) (v := .int (D 1)) (C := RX1) (T := TX1) (N := 14) hx hb hu_wsX10 (fun _ h9 => h9) hown hK hP 1 rfl rfl 1 (by decide) hw5 rfl rfl dX3_strict_41 ?_
      refine lv_istore_n (lv' := [(2, .int (D 1)), (0, .ref x), (1, .int n)]) hx hb dX3_strict_44 rfl hl (by decide) rfl (fun ls hl => ?_)
      refine lv_aload_n hx hb dX3_strict_45 rfl (lv_at hl 1 rfl) ?_
      refine lz_get (G := G) (ci := 3) (v := .ref (q 6)) (C := RX3) (T := TX3) (N := 13) hx hb hu_wsX30 (fun _ h9 => h9) hown hK hP 0 rfl rfl 6 (by decide) hw1 rfl rfl dX3_strict_46 ?_
      refine lv_iload_n hx hb dX3_strict_49 rfl (lv_at hl 2 rfl) ?_
      refine lz_put (G := G) (ci := 1) (C := RX1) (T := TX1) (N := 14) hx hb hu_wsX10 (fun _ h9 => h9) tyX1 tyX1_ok nmX1 hown hK hP hD hS 1 rfl rfl 1 (by decide) hw5 rfl rfl (by decide +kernel) (Nat.le_of_ble_eq_true rfl) dX3_strict_50 ((lzX x q S ++ (lzDoor G (q 6) qh (upd D 1 n) F ++ (lzAc (q 8) qa (upd (upd U 1 (nI ((X + 1) % 24))) 2 (nI (min (K + 1) 24))) ++ (lzQ G 3 (qa 0) 24 (fun i => some (rh i)))))) ++ ringW G rh rq (lzF RS X (tfS D (RS X))) (lz3 RF X (tfF F (RF X)))) rfl (fun H locs hP hD hS => ?_)
      refine lv_iload_n hx hb dX3_strict_53 rfl (lv_at hl 0 rfl) ?_
      exact rw_iret (S := Unit) (G := G) (Wd := fun _ : Unit => ((lzX x q S ++ (lzDoor G (q 6) qh (upd D 1 n) F ++ (lzAc (q 8) qa (upd (upd U 1 (nI ((X + 1) % 24))) 2 (nI (min (K + 1) 24))) ++ (lzQ G 3 (qa 0) 24 (fun i => some (rh i)))))) ++ ringW G rh rq (lzF RS X (tfS D (RS X))) (lz3 RF X (tfF F (RF X))))) () hx hb hr hlk dX3_strict_54 hS (hP) (rfl)
    · skip
      have c_20 := b2_z hr_2 c_20
      exact Bool.noConfusion (hn.symm.trans c_20)
  · skip
    have c_7 := b2_z hr_1 c_7
    exact Bool.noConfusion (hR.symm.trans c_7)
set_option maxHeartbeats 4000000 in
set_option maxRecDepth 100000 in
theorem c_X3_share_bad (l : Launch) (G : lzG) (x : Nat) (q : Nat → Nat) (S : Nat → Int32) (qh : Nat → Nat) (D : Nat → Int32) (F : Nat → Nat → Int32) (a n : Int32) (hbad : (inR a 0 (D 2 - 1) && inR n 0 9) = false) : Met l yX3_share wsX3_share ({ frames := 2, cells := 0, slots := 0, locals := 43 }) (va_Pc [.ref x, .int a, .int n] (roP G (lzX x q S ++ lzDoor G (q 6) qh D F))) (vp_Si (fun r => r = -1000001)) 0 0 (fun _ => False) := by
  refine ro_start (cc := cX3_share) (maxL := 4) (ret := (some .int)) (by decide) rfl (Nat.le_of_ble_eq_true rfl) ?_
  intro pp ee ss mm bl me cd hx hb hr hlk hml hts hown hP hK ls hl
  have hown : ss.vm.findClass RX3 = some mm.cls := hown
  have hw1 := hts (.fieldLink RX3 38 "LampSquares" "here" "LLampSquares$Door;") (List.mem_of_getElem? (i := 1) rfl)
  have hw2 := hts (.constant RX3 81 (-1000001)) (List.mem_of_getElem? (i := 2) rfl)
  have hu_wsX30 : ∀ w ∈ wsX30, w.before ([.ref x, .int a, .int n] : List Value).toArray ss = true := fun w h9 => hts w (List.mem_cons_of_mem _ (List.mem_append_left _ (List.mem_append_left _ (List.mem_append_right _ h9))))
  have hl : lv_has ls 4 [(0, .ref x), (1, .int a), (2, .int n)] := hl
  refine lv_aload_n hx hb dX3_share_0 rfl (lv_at hl 0 rfl) ?_
  refine lz_get (G := G) (ci := 3) (v := .ref (q 6)) (C := RX3) (T := TX3) (N := 13) hx hb hu_wsX30 (fun _ h9 => h9) hown hK hP 0 rfl rfl 6 (by decide) hw1 rfl rfl dX3_share_1 ?_
  refine lv_iload_n hx hb dX3_share_4 rfl (lv_at hl 1 rfl) ?_
  have hPc := hP.sub (ws' := lzDoor G (q 6) qh D F) [1, 2, 3, 4, 5, 6, 7, 8, 9, 10, 11] rfl
  refine ro_calli (va_runV (As := [.int a]) (rest := []) ⟨hx, hb, hml, hown, hts⟩ (c_X1_isSquare l G (q 6) qh D F a ) (cwV 1 hts gX3_share_X1_isSquare rfl rfl rfl (by decide +kernel) ⟨Nat.le_of_ble_eq_true rfl, Nat.le_of_ble_eq_true rfl⟩) (ro_preV hK hPc hP (ci := 1) (q0 := 1) rfl rfl) rfl rfl hl.1 rfl (lv_room (Nat.le_of_ble_eq_true rfl)) dX3_share_5 ⟨Nat.zero_le _, Nat.zero_le _⟩) (fun r_1 hr_1 => ?_)
  refine lv_if_eq (tgt := 21) hx hb dX3_share_8 (by decide) (fun c_8 => ?_) (fun c_8 => ?_)
  · skip
    have c_8 := b2_z hr_1 c_8
    refine lv_ldc hx hb hown hw2 dX3_share_21 ?_
    exact ro_iret hx hb hr hlk dX3_share_23 (rfl)
  · skip
    have c_8 := b2_n hr_1 c_8
    refine lv_iload_n hx hb dX3_share_11 rfl (lv_at hl 2 rfl) ?_
    refine lv_iconst (v := 0) hx hb dX3_share_12 (by decide) ?_
    refine lv_bipush (v := 9) hx hb dX3_share_13 (by decide) ?_
    refine ro_calli (va_runS (As := [.int n, .int 0, .int 9]) (rest := []) ⟨hx, hb, hml, hown, hts⟩ (c_X3_isIn l G n 0 9 ) (cwS 3 hts gX3_share_X3_isIn rfl rfl rfl (by decide +kernel) ⟨Nat.le_of_ble_eq_true rfl, Nat.le_of_ble_eq_true rfl⟩) (ro_pre hK (fun k q h => by simp at h)) rfl rfl hl.1 rfl (lv_room (Nat.le_of_ble_eq_true rfl)) dX3_share_15 ⟨Nat.zero_le _, Nat.zero_le _⟩) (fun r_2 hr_2 => ?_)
    refine lv_if_ne (tgt := 24) hx hb dX3_share_18 (by decide) (fun c_18 => ?_) (fun c_18 => ?_)
    · skip
      have c_18 := b2_n hr_2 c_18
      exact Bool.noConfusion (hbad.symm.trans (by rw [c_8, c_18] <;> rfl))
    · skip
      have c_18 := b2_z hr_2 c_18
      refine lv_ldc hx hb hown hw2 dX3_share_21 ?_
      exact ro_iret hx hb hr hlk dX3_share_23 (rfl)
set_option maxHeartbeats 4000000 in
set_option maxRecDepth 100000 in
theorem c_X3_share_ok (l : Launch) (G : lzG) (x : Nat) (q : Nat → Nat) (S : Nat → Int32) (qh : Nat → Nat) (D : Nat → Int32) (F : Nat → Nat → Int32) (qa : Nat → Nat) (U : Nat → Int32) (rh : Nat → Nat) (rq : Nat → Nat → Nat) (RS : Nat → Nat → Int32) (RF : Nat → Nat → Nat → Int32) (s : Nat) (n : Int32) (N X K : Nat) (hN : D 2 = nI N) (hN8 : N ≤ 8) (hs : s < N) (hn : inR n 0 9 = true) (hX : U 1 = nI X) (hX24 : X < 24) (hK0 : U 2 = nI K) (hK24 : K ≤ 24) : Met l yX3_share wsX3_share ({ frames := 3, cells := 0, slots := 0, locals := 82 }) (va_Pc [.ref x, .int (nI s), .int n] (rwP G ((lzX x q S ++ (lzDoor G (q 6) qh D F ++ (lzAc (q 8) qa U ++ (lzQ G 3 (qa 0) 24 (fun i => some (rh i)))))) ++ ringW G rh rq RS RF))) (va_Qi (S := Unit) (fun (r : Int32) (_ : Unit) => r = F 5 s) (rwB G (fun _ : Unit => ((lzX x q S ++ (lzDoor G (q 6) qh D (lzF F 5 (upd (F 5) s n)) ++ (lzAc (q 8) qa (upd (upd U 1 (nI ((X + 1) % 24))) 2 (nI (min (K + 1) 24))) ++ (lzQ G 3 (qa 0) 24 (fun i => some (rh i)))))) ++ ringW G rh rq (lzF RS X (tfS D (RS X))) (lz3 RF X (tfF F (RF X)))))) (lzA ((lzX x q S ++ (lzDoor G (q 6) qh D F ++ (lzAc (q 8) qa U ++ (lzQ G 3 (qa 0) 24 (fun i => some (rh i)))))) ++ ringW G rh rq RS RF))) 0 0 (lzA ((lzX x q S ++ (lzDoor G (q 6) qh D F ++ (lzAc (q 8) qa U ++ (lzQ G 3 (qa 0) 24 (fun i => some (rh i)))))) ++ ringW G rh rq RS RF)) := by
  have hB : inR (nI s) 0 (D 2 - 1) = true := inR_ok hN hs (by omega)
  refine rw_start (S := Unit) (cc := cX3_share) (maxL := 4) (ret := (some .int)) (by decide) rfl (Nat.le_of_ble_eq_true rfl) ?_
  intro pp ee ss mm bl me cd A hx hb hr hlk hml hts hown hP hK hD hAe hS ls hl
  have hA0 : ∀ zz : Nat, lzA ((lzX x q S ++ (lzDoor G (q 6) qh D F ++ (lzAc (q 8) qa U ++ (lzQ G 3 (qa 0) 24 (fun i => some (rh i)))))) ++ ringW G rh rq RS RF) zz → A zz := fun zz h9 => by rw [hAe]; exact h9
  rw [← hAe]
  clear hAe
  have hown : ss.vm.findClass RX3 = some mm.cls := hown
  have hw1 := hts (.fieldLink RX3 38 "LampSquares" "here" "LLampSquares$Door;") (List.mem_of_getElem? (i := 1) rfl)
  have hw3 := hts (.fieldLink RX3 48 "LampSquares" "acts" "LLampSquares$Acts;") (List.mem_of_getElem? (i := 3) rfl)
  have hw4 := hts (.fieldLink RX3 164 "LampSquares$Door" "shareOf" "[I") (List.mem_of_getElem? (i := 4) rfl)
  have hu_wsX10 : ∀ w ∈ wsX10, w.before ([.ref x, .int (nI s), .int n] : List Value).toArray ss = true := fun w h9 => hts w (List.mem_cons_of_mem _ (List.mem_append_left _ (List.mem_append_right _ h9)))
  have hu_wsX30 : ∀ w ∈ wsX30, w.before ([.ref x, .int (nI s), .int n] : List Value).toArray ss = true := fun w h9 => hts w (List.mem_cons_of_mem _ (List.mem_append_left _ (List.mem_append_left _ (List.mem_append_right _ h9))))
  have hl : lv_has ls 4 [(0, .ref x), (1, .int (nI s)), (2, .int n)] := hl
  refine lv_aload_n hx hb dX3_share_0 rfl (lv_at hl 0 rfl) ?_
  refine lz_get (G := G) (ci := 3) (v := .ref (q 6)) (C := RX3) (T := TX3) (N := 13) hx hb hu_wsX30 (fun _ h9 => h9) hown hK hP 0 rfl rfl 6 (by decide) hw1 rfl rfl dX3_share_1 ?_
  refine lv_iload_n hx hb dX3_share_4 rfl (lv_at hl 1 rfl) ?_
  have hPc := hP.sub (ws' := lzDoor G (q 6) qh D F) [1, 2, 3, 4, 5, 6, 7, 8, 9, 10, 11] rfl
  refine ro_calli (va_runV (As := [.int (nI s)]) (rest := []) ⟨hx, hb, hml, hown, hts⟩ (c_X1_isSquare l G (q 6) qh D F (nI s) ) (cwV 1 hts gX3_share_X1_isSquare rfl rfl rfl (by decide +kernel) ⟨Nat.le_of_ble_eq_true rfl, Nat.le_of_ble_eq_true rfl⟩) (ro_preV hK hPc hP (ci := 1) (q0 := 1) rfl rfl) rfl rfl hl.1 rfl (lv_room (Nat.le_of_ble_eq_true rfl)) dX3_share_5 ⟨Nat.zero_le _, Nat.zero_le _⟩) (fun r_1 hr_1 => ?_)
  refine lv_if_eq (tgt := 21) hx hb dX3_share_8 (by decide) (fun c_8 => ?_) (fun c_8 => ?_)
  · skip
    have c_8 := b2_z hr_1 c_8
    exact Bool.noConfusion (hB.symm.trans c_8)
  · skip
    have c_8 := b2_n hr_1 c_8
    refine lv_iload_n hx hb dX3_share_11 rfl (lv_at hl 2 rfl) ?_
    refine lv_iconst (v := 0) hx hb dX3_share_12 (by decide) ?_
    refine lv_bipush (v := 9) hx hb dX3_share_13 (by decide) ?_
    refine ro_calli (va_runS (As := [.int n, .int 0, .int 9]) (rest := []) ⟨hx, hb, hml, hown, hts⟩ (c_X3_isIn l G n 0 9 ) (cwS 3 hts gX3_share_X3_isIn rfl rfl rfl (by decide +kernel) ⟨Nat.le_of_ble_eq_true rfl, Nat.le_of_ble_eq_true rfl⟩) (ro_pre hK (fun k q h => by simp at h)) rfl rfl hl.1 rfl (lv_room (Nat.le_of_ble_eq_true rfl)) dX3_share_15 ⟨Nat.zero_le _, Nat.zero_le _⟩) (fun r_2 hr_2 => ?_)
    refine lv_if_ne (tgt := 24) hx hb dX3_share_18 (by decide) (fun c_18 => ?_) (fun c_18 => ?_)
    · skip
      have c_18 := b2_n hr_2 c_18
      refine lv_aload_n hx hb dX3_share_24 rfl (lv_at hl 0 rfl) ?_
      refine lz_get (G := G) (ci := 3) (v := .ref (q 8)) (C := RX3) (T := TX3) (N := 13) hx hb hu_wsX30 (fun _ h9 => h9) hown hK hP 0 rfl rfl 8 (by decide) hw3 rfl rfl dX3_share_25 ?_
      refine lv_aload_n hx hb dX3_share_28 rfl (lv_at hl 0 rfl) ?_
      refine lz_get (G := G) (ci := 3) (v := .ref (q 6)) (C := RX3) (T := TX3) (N := 13) hx hb hu_wsX30 (fun _ h9 => h9) hown hK hP 0 rfl rfl 6 (by decide) hw1 rfl rfl dX3_share_29 ?_
      have hPc := P_subT (ws' := (lzAc (q 8) qa U ++ (lzQ G 3 (qa 0) 24 (fun i => some (rh i)) ++ (lzDoor G (q 6) qh D F)))) hP [12, 13, 1, 2, 3, 4, 5, 6, 7, 8, 9, 10, 11] rfl
      have hDc := D_subT (ws' := (lzAc (q 8) qa U ++ (lzQ G 3 (qa 0) 24 (fun i => some (rh i)) ++ (lzDoor G (q 6) qh D F)))) hD [12, 13, 1, 2, 3, 4, 5, 6, 7, 8, 9, 10, 11] (by decide) rfl
      have hFc : ∀ zz : Nat, lzA ((lzAc (q 8) qa U ++ (lzQ G 3 (qa 0) 24 (fun i => some (rh i)) ++ (lzDoor G (q 6) qh D F))) ++ ringW G rh rq RS RF) zz → A zz := lz_freeT hD [12, 13, 1, 2, 3, 4, 5, 6, 7, 8, 9, 10, 11] rfl
      refine va_callv (va_runV (As := [.ref (q 6)]) (rest := []) ⟨hx, hb, hml, hown, hts⟩ (c_X0_keep l G (q 8) qa U (q 6) qh D F rh rq RS RF X K (hX) (hX24) (hK0) (hK24)) (cwV 1 hts gX3_share_X0_keep rfl rfl rfl (by decide +kernel) ⟨Nat.le_of_ble_eq_true rfl, Nat.le_of_ble_eq_true rfl⟩) (rw_preV hK hPc hDc hP (ci := 0) (q0 := 12) rfl rfl) rfl rfl hl.1 rfl (lv_room (Nat.le_of_ble_eq_true rfl)) dX3_share_32 ⟨Nat.zero_le _, Nat.zero_le _⟩) hS (fun q _ h => hFc q h) hFc (fun u_4 t9 H1 locs ht hvm hr_3 hB hz1 hk1 hS => ?_)
      replace hB : va_P G.1 lzC _ t9.heap := hB
      rw [ht] at hB
      obtain ⟨hP, hD⟩ := lz_joinTT (wc := (lzAc (q 8) qa U ++ (lzQ G 3 (qa 0) 24 (fun i => some (rh i)) ++ (lzDoor G (q 6) qh D F)))) (wr := ([(x, .inr (3, [.ref (q 0), .ref (q 1), .ref (q 2), .int (S 3), .ref (q 4), .int (S 5), .ref (q 6), .ref (q 7), .ref (q 8), .ref (q 9), .ref (q 10), .int (S 11), .ref (q 12)]))] : va_W)) (w1 := (lzAc (q 8) qa (upd (upd U 1 (nI ((X + 1) % 24))) 2 (nI (min (K + 1) 24))) ++ (lzQ G 3 (qa 0) 24 (fun i => some (rh i)) ++ (lzDoor G (q 6) qh D F)))) hP hD [12, 13, 1, 2, 3, 4, 5, 6, 7, 8, 9, 10, 11] [0] rfl rfl (by decide) (by decide) rfl (ring_fst _ _ _) hk1 hB
      replace hP := P_subT (ws' := (lzX x q S ++ (lzDoor G (q 6) qh D F ++ (lzAc (q 8) qa (upd (upd U 1 (nI ((X + 1) % 24))) 2 (nI (min (K + 1) 24))) ++ (lzQ G 3 (qa 0) 24 (fun i => some (rh i))))))) hP [0, 3, 4, 5, 6, 7, 8, 9, 10, 11, 12, 13, 1, 2] rfl
      replace hD := D_subT (ws' := (lzX x q S ++ (lzDoor G (q 6) qh D F ++ (lzAc (q 8) qa (upd (upd U 1 (nI ((X + 1) % 24))) 2 (nI (min (K + 1) 24))) ++ (lzQ G 3 (qa 0) 24 (fun i => some (rh i))))))) hD [0, 3, 4, 5, 6, 7, 8, 9, 10, 11, 12, 13, 1, 2] (by decide) rfl
      clear ht hvm hB hz1 hk1
      generalize H1 = H at hP hS ⊢
      refine lv_aload_n hx hb dX3_share_35 rfl (lv_at hl 0 rfl) ?_
      refine lz_get (G := G) (ci := 3) (v := .ref (q 6)) (C := RX3) (T := TX3) (N := 13) hx hb hu_wsX30 (fun _ h9 => h9) hown hK hP 0 rfl rfl 6 (by decide) hw1 rfl rfl dX3_share_36 ?_
      refine lz_get (G := G) (ci := 1) (v := .ref (qh 5)) (C := RX1) (T := TX1) (N := 14) hx hb hu_wsX10 (fun _ h9 => h9) hown hK hP 1 rfl rfl 5 (by decide) hw4 rfl rfl dX3_share_39 ?_
      refine lv_iload_n hx hb dX3_share_42 rfl (lv_at hl 1 rfl) ?_
      refine lz_iald (f := F 5) hx hb hK hP 3 rfl s (by omega) (Nat.le_of_ble_eq_true rfl) dX3_share_43 ?_
      refine lv_istore_n (lv' := [(3, .int ((F 5) s)), (0, .ref x), (1, .int (nI s)), (2, .int n)]) hx hb dX3_share_44 rfl hl (by decide) rfl (fun ls hl => ?_)
      refine lv_aload_n hx hb dX3_share_45 rfl (lv_at hl 1 rfl) ?_
      refine lz_get (G := G) (ci := 3) (v := .ref (q 6)) (C := RX3) (T := TX3) (N := 13) hx hb hu_wsX30 (fun _ h9 => h9) hown hK hP 0 rfl rfl 6 (by decide) hw1 rfl rfl dX3_share_46 ?_
      refine lz_get (G := G) (ci := 1) (v := .ref (qh 5)) (C := RX1) (T := TX1) (N := 14) hx hb hu_wsX10 (fun _ h9 => h9) hown hK hP 1 rfl rfl 5 (by decide) hw4 rfl rfl dX3_share_49 ?_
      refine lv_iload_n hx hb dX3_share_52 rfl (lv_at hl 2 rfl) ?_
      refine lv_iload_n hx hb dX3_share_53 rfl (lv_at hl 3 rfl) ?_
      refine lz_iast (f := F 5) hx hb hK hP hD hS 3 rfl s (by omega) (Nat.le_of_ble_eq_true rfl) dX3_share_54 ((lzX x q S ++ (lzDoor G (q 6) qh D (lzF F 5 (upd (F 5) s n)) ++ (lzAc (q 8) qa (upd (upd U 1 (nI ((X + 1) % 24))) 2 (nI (min (K + 1) 24))) ++ (lzQ G 3 (qa 0) 24 (fun i => some (rh i)))))) ++ ringW G rh rq (lzF RS X (tfS D (RS X))) (lz3 RF X (tfF F (RF X)))) rfl (fun H locs hP hD hS => ?_)
      refine lv_iload_n hx hb dX3_share_55 rfl (lv_at hl 0 rfl) ?_
      exact rw_iret (S := Unit) (G := G) (Wd := fun _ : Unit => ((lzX x q S ++ (lzDoor G (q 6) qh D (lzF F 5 (upd (F 5) s n)) ++ (lzAc (q 8) qa (upd (upd U 1 (nI ((X + 1) % 24))) 2 (nI (min (K + 1) 24))) ++ (lzQ G 3 (qa 0) 24 (fun i => some (rh i)))))) ++ ringW G rh rq (lzF RS X (tfS D (RS X))) (lz3 RF X (tfF F (RF X))))) () hx hb hr hlk dX3_share_56 hS (hP) (rfl)
    · skip
      have c_18 := b2_z hr_2 c_18
      exact Bool.noConfusion (hn.symm.trans c_18)
set_option maxHeartbeats 4000000 in
set_option maxRecDepth 100000 in
theorem c_X3_settle_bad (l : Launch) (G : lzG) (x : Nat) (q : Nat → Nat) (S : Nat → Int32) (qh : Nat → Nat) (D : Nat → Int32) (F : Nat → Nat → Int32) (a : Int32) (hbad : inR a 0 (D 2 - 1) = false) : Met l yX3_settle wsX3_settle ({ frames := 2, cells := 0, slots := 0, locals := 43 }) (va_Pc [.ref x, .int a] (roP G (lzX x q S ++ lzDoor G (q 6) qh D F))) (vp_Si (fun r => r = -1000001)) 0 0 (fun _ => False) := by
  refine ro_start (cc := cX3_settle) (maxL := 3) (ret := (some .int)) (by decide) rfl (Nat.le_of_ble_eq_true rfl) ?_
  intro pp ee ss mm bl me cd hx hb hr hlk hml hts hown hP hK ls hl
  have hown : ss.vm.findClass RX3 = some mm.cls := hown
  have hw1 := hts (.fieldLink RX3 38 "LampSquares" "here" "LLampSquares$Door;") (List.mem_of_getElem? (i := 1) rfl)
  have hw2 := hts (.constant RX3 81 (-1000001)) (List.mem_of_getElem? (i := 2) rfl)
  have hu_wsX30 : ∀ w ∈ wsX30, w.before ([.ref x, .int a] : List Value).toArray ss = true := fun w h9 => hts w (List.mem_cons_of_mem _ (List.mem_append_left _ (List.mem_append_left _ (List.mem_append_right _ h9))))
  have hl : lv_has ls 3 [(0, .ref x), (1, .int a)] := hl
  refine lv_aload_n hx hb dX3_settle_0 rfl (lv_at hl 0 rfl) ?_
  refine lz_get (G := G) (ci := 3) (v := .ref (q 6)) (C := RX3) (T := TX3) (N := 13) hx hb hu_wsX30 (fun _ h9 => h9) hown hK hP 0 rfl rfl 6 (by decide) hw1 rfl rfl dX3_settle_1 ?_
  refine lv_iload_n hx hb dX3_settle_4 rfl (lv_at hl 1 rfl) ?_
  have hPc := hP.sub (ws' := lzDoor G (q 6) qh D F) [1, 2, 3, 4, 5, 6, 7, 8, 9, 10, 11] rfl
  refine ro_calli (va_runV (As := [.int a]) (rest := []) ⟨hx, hb, hml, hown, hts⟩ (c_X1_isSquare l G (q 6) qh D F a ) (cwV 1 hts gX3_settle_X1_isSquare rfl rfl rfl (by decide +kernel) ⟨Nat.le_of_ble_eq_true rfl, Nat.le_of_ble_eq_true rfl⟩) (ro_preV hK hPc hP (ci := 1) (q0 := 1) rfl rfl) rfl rfl hl.1 rfl (lv_room (Nat.le_of_ble_eq_true rfl)) dX3_settle_5 ⟨Nat.zero_le _, Nat.zero_le _⟩) (fun r_1 hr_1 => ?_)
  refine lv_if_ne (tgt := 14) hx hb dX3_settle_8 (by decide) (fun c_8 => ?_) (fun c_8 => ?_)
  · skip
    have c_8 := b2_n hr_1 c_8
    exact Bool.noConfusion (hbad.symm.trans c_8)
  · skip
    have c_8 := b2_z hr_1 c_8
    refine lv_ldc hx hb hown hw2 dX3_settle_11 ?_
    exact ro_iret hx hb hr hlk dX3_settle_13 (rfl)
set_option maxHeartbeats 4000000 in
set_option maxRecDepth 100000 in
theorem c_X3_settle_state (l : Launch) (G : lzG) (x : Nat) (q : Nat → Nat) (S : Nat → Int32) (qh : Nat → Nat) (D : Nat → Int32) (F : Nat → Nat → Int32) (s N : Nat) (hN : D 2 = nI N) (hN8 : N ≤ 8) (hs : s < N) (hC : cntD F s = true) : Met l yX3_settle wsX3_settle ({ frames := 2, cells := 0, slots := 0, locals := 43 }) (va_Pc [.ref x, .int (nI s)] (roP G (lzX x q S ++ lzDoor G (q 6) qh D F))) (vp_Si (fun r => r = -1000002)) 0 0 (fun _ => False) := by
  have hB : inR (nI s) 0 (D 2 - 1) = true := inR_ok hN hs (by omega)
  refine ro_start (cc := cX3_settle) (maxL := 3) (ret := (some .int)) (by decide) rfl (Nat.le_of_ble_eq_true rfl) ?_
  intro pp ee ss mm bl me cd hx hb hr hlk hml hts hown hP hK ls hl
  have hown : ss.vm.findClass RX3 = some mm.cls := hown
  have hw1 := hts (.fieldLink RX3 38 "LampSquares" "here" "LLampSquares$Door;") (List.mem_of_getElem? (i := 1) rfl)
  have hw3 := hts (.constant RX3 137 (-1000002)) (List.mem_of_getElem? (i := 3) rfl)
  have hu_wsX30 : ∀ w ∈ wsX30, w.before ([.ref x, .int (nI s)] : List Value).toArray ss = true := fun w h9 => hts w (List.mem_cons_of_mem _ (List.mem_append_left _ (List.mem_append_left _ (List.mem_append_right _ h9))))
  have hl : lv_has ls 3 [(0, .ref x), (1, .int (nI s))] := hl
  refine lv_aload_n hx hb dX3_settle_0 rfl (lv_at hl 0 rfl) ?_
  refine lz_get (G := G) (ci := 3) (v := .ref (q 6)) (C := RX3) (T := TX3) (N := 13) hx hb hu_wsX30 (fun _ h9 => h9) hown hK hP 0 rfl rfl 6 (by decide) hw1 rfl rfl dX3_settle_1 ?_
  refine lv_iload_n hx hb dX3_settle_4 rfl (lv_at hl 1 rfl) ?_
  have hPc := hP.sub (ws' := lzDoor G (q 6) qh D F) [1, 2, 3, 4, 5, 6, 7, 8, 9, 10, 11] rfl
  refine ro_calli (va_runV (As := [.int (nI s)]) (rest := []) ⟨hx, hb, hml, hown, hts⟩ (c_X1_isSquare l G (q 6) qh D F (nI s) ) (cwV 1 hts gX3_settle_X1_isSquare rfl rfl rfl (by decide +kernel) ⟨Nat.le_of_ble_eq_true rfl, Nat.le_of_ble_eq_true rfl⟩) (ro_preV hK hPc hP (ci := 1) (q0 := 1) rfl rfl) rfl rfl hl.1 rfl (lv_room (Nat.le_of_ble_eq_true rfl)) dX3_settle_5 ⟨Nat.zero_le _, Nat.zero_le _⟩) (fun r_1 hr_1 => ?_)
  refine lv_if_ne (tgt := 14) hx hb dX3_settle_8 (by decide) (fun c_8 => ?_) (fun c_8 => ?_)
  · skip
    have c_8 := b2_n hr_1 c_8
    refine lv_aload_n hx hb dX3_settle_14 rfl (lv_at hl 0 rfl) ?_
    refine lz_get (G := G) (ci := 3) (v := .ref (q 6)) (C := RX3) (T := TX3) (N := 13) hx hb hu_wsX30 (fun _ h9 => h9) hown hK hP 0 rfl rfl 6 (by decide) hw1 rfl rfl dX3_settle_15 ?_
    refine lv_iload_n hx hb dX3_settle_18 rfl (lv_at hl 1 rfl) ?_
    have hPc := hP.sub (ws' := lzDoor G (q 6) qh D F) [1, 2, 3, 4, 5, 6, 7, 8, 9, 10, 11] rfl
    refine ro_calli (va_runV (As := [.int (nI s)]) (rest := []) ⟨hx, hb, hml, hown, hts⟩ (c_X1_isCounted l G (q 6) qh D F s (by omega)) (cwV 1 hts gX3_settle_X1_isCounted rfl rfl rfl (by decide +kernel) ⟨Nat.le_of_ble_eq_true rfl, Nat.le_of_ble_eq_true rfl⟩) (ro_preV hK hPc hP (ci := 1) (q0 := 1) rfl rfl) rfl rfl hl.1 rfl (lv_room (Nat.le_of_ble_eq_true rfl)) dX3_settle_19 ⟨Nat.zero_le _, Nat.zero_le _⟩) (fun r_2 hr_2 => ?_)
    refine lv_if_eq (tgt := 28) hx hb dX3_settle_22 (by decide) (fun c_22 => ?_) (fun c_22 => ?_)
    · skip
      have c_22 := b2_z hr_2 c_22
      exact Bool.noConfusion (hC.symm.trans c_22)
    · skip
      have c_22 := b2_n hr_2 c_22
      refine lv_ldc hx hb hown hw3 dX3_settle_25 ?_
      exact ro_iret hx hb hr hlk dX3_settle_27 (rfl)
  · skip
    have c_8 := b2_z hr_1 c_8
    exact Bool.noConfusion (hB.symm.trans c_8)
set_option maxHeartbeats 4000000 in
set_option maxRecDepth 100000 in
theorem c_X3_settle_ok (l : Launch) (G : lzG) (x : Nat) (q : Nat → Nat) (S : Nat → Int32) (qh : Nat → Nat) (D : Nat → Int32) (F : Nat → Nat → Int32) (qa : Nat → Nat) (U : Nat → Int32) (rh : Nat → Nat) (rq : Nat → Nat → Nat) (RS : Nat → Nat → Int32) (RF : Nat → Nat → Nat → Int32) (s N X K : Nat) (hN : D 2 = nI N) (hN8 : N ≤ 8) (hs : s < N) (hC : cntD F s = false) (hX : U 1 = nI X) (hX24 : X < 24) (hK0 : U 2 = nI K) (hK24 : K ≤ 24) : Met l yX3_settle wsX3_settle ({ frames := 3, cells := 0, slots := 0, locals := 82 }) (va_Pc [.ref x, .int (nI s)] (rwP G ((lzX x q S ++ (lzDoor G (q 6) qh D F ++ (lzAc (q 8) qa U ++ (lzQ G 3 (qa 0) 24 (fun i => some (rh i)))))) ++ ringW G rh rq RS RF))) (va_Qi (S := Unit) (fun (r : Int32) (_ : Unit) => r = b2 (decide (F 7 s < F 6 s))) (rwB G (fun _ : Unit => ((lzX x q S ++ (lzDoor G (q 6) qh D (lzF F 8 (upd (F 8) s (b2 (decide (F 7 s < F 6 s))))) ++ (lzAc (q 8) qa (upd (upd U 1 (nI ((X + 1) % 24))) 2 (nI (min (K + 1) 24))) ++ (lzQ G 3 (qa 0) 24 (fun i => some (rh i)))))) ++ ringW G rh rq (lzF RS X (tfS D (RS X))) (lz3 RF X (tfF F (RF X)))))) (lzA ((lzX x q S ++ (lzDoor G (q 6) qh D F ++ (lzAc (q 8) qa U ++ (lzQ G 3 (qa 0) 24 (fun i => some (rh i)))))) ++ ringW G rh rq RS RF))) 0 0 (lzA ((lzX x q S ++ (lzDoor G (q 6) qh D F ++ (lzAc (q 8) qa U ++ (lzQ G 3 (qa 0) 24 (fun i => some (rh i)))))) ++ ringW G rh rq RS RF)) := by
  have hB : inR (nI s) 0 (D 2 - 1) = true := inR_ok hN hs (by omega)
  refine rw_start (S := Unit) (cc := cX3_settle) (maxL := 3) (ret := (some .int)) (by decide) rfl (Nat.le_of_ble_eq_true rfl) ?_
  intro pp ee ss mm bl me cd A hx hb hr hlk hml hts hown hP hK hD hAe hS ls hl
  have hA0 : ∀ zz : Nat, lzA ((lzX x q S ++ (lzDoor G (q 6) qh D F ++ (lzAc (q 8) qa U ++ (lzQ G 3 (qa 0) 24 (fun i => some (rh i)))))) ++ ringW G rh rq RS RF) zz → A zz := fun zz h9 => by rw [hAe]; exact h9
  rw [← hAe]
  clear hAe
  have hown : ss.vm.findClass RX3 = some mm.cls := hown
  have hw1 := hts (.fieldLink RX3 38 "LampSquares" "here" "LLampSquares$Door;") (List.mem_of_getElem? (i := 1) rfl)
  have hw4 := hts (.fieldLink RX3 48 "LampSquares" "acts" "LLampSquares$Acts;") (List.mem_of_getElem? (i := 4) rfl)
  have hw5 := hts (.fieldLink RX3 173 "LampSquares$Door" "settledAs" "[I") (List.mem_of_getElem? (i := 5) rfl)
  have hu_wsX10 : ∀ w ∈ wsX10, w.before ([.ref x, .int (nI s)] : List Value).toArray ss = true := fun w h9 => hts w (List.mem_cons_of_mem _ (List.mem_append_left _ (List.mem_append_right _ h9)))
  have hu_wsX30 : ∀ w ∈ wsX30, w.before ([.ref x, .int (nI s)] : List Value).toArray ss = true := fun w h9 => hts w (List.mem_cons_of_mem _ (List.mem_append_left _ (List.mem_append_left _ (List.mem_append_right _ h9))))
  have hl : lv_has ls 3 [(0, .ref x), (1, .int (nI s))] := hl
  refine lv_aload_n hx hb dX3_settle_0 rfl (lv_at hl 0 rfl) ?_
  refine lz_get (G := G) (ci := 3) (v := .ref (q 6)) (C := RX3) (T := TX3) (N := 13) hx hb hu_wsX30 (fun _ h9 => h9) hown hK hP 0 rfl rfl 6 (by decide) hw1 rfl rfl dX3_settle_1 ?_
  refine lv_iload_n hx hb dX3_settle_4 rfl (lv_at hl 1 rfl) ?_
  have hPc := hP.sub (ws' := lzDoor G (q 6) qh D F) [1, 2, 3, 4, 5, 6, 7, 8, 9, 10, 11] rfl
  refine ro_calli (va_runV (As := [.int (nI s)]) (rest := []) ⟨hx, hb, hml, hown, hts⟩ (c_X1_isSquare l G (q 6) qh D F (nI s) ) (cwV 1 hts gX3_settle_X1_isSquare rfl rfl rfl (by decide +kernel) ⟨Nat.le_of_ble_eq_true rfl, Nat.le_of_ble_eq_true rfl⟩) (ro_preV hK hPc hP (ci := 1) (q0 := 1) rfl rfl) rfl rfl hl.1 rfl (lv_room (Nat.le_of_ble_eq_true rfl)) dX3_settle_5 ⟨Nat.zero_le _, Nat.zero_le _⟩) (fun r_1 hr_1 => ?_)
  refine lv_if_ne (tgt := 14) hx hb dX3_settle_8 (by decide) (fun c_8 => ?_) (fun c_8 => ?_)
  · skip
    have c_8 := b2_n hr_1 c_8
    refine lv_aload_n hx hb dX3_settle_14 rfl (lv_at hl 0 rfl) ?_
    refine lz_get (G := G) (ci := 3) (v := .ref (q 6)) (C := RX3) (T := TX3) (N := 13) hx hb hu_wsX30 (fun _ h9 => h9) hown hK hP 0 rfl rfl 6 (by decide) hw1 rfl rfl dX3_settle_15 ?_
    refine lv_iload_n hx hb dX3_settle_18 rfl (lv_at hl 1 rfl) ?_
    have hPc := hP.sub (ws' := lzDoor G (q 6) qh D F) [1, 2, 3, 4, 5, 6, 7, 8, 9, 10, 11] rfl
    refine ro_calli (va_runV (As := [.int (nI s)]) (rest := []) ⟨hx, hb, hml, hown, hts⟩ (c_X1_isCounted l G (q 6) qh D F s (by omega)) (cwV 1 hts gX3_settle_X1_isCounted rfl rfl rfl (by decide +kernel) ⟨Nat.le_of_ble_eq_true rfl, Nat.le_of_ble_eq_true rfl⟩) (ro_preV hK hPc hP (ci := 1) (q0 := 1) rfl rfl) rfl rfl hl.1 rfl (lv_room (Nat.le_of_ble_eq_true rfl)) dX3_settle_19 ⟨Nat.zero_le _, Nat.zero_le _⟩) (fun r_2 hr_2 => ?_)
    refine lv_if_eq (tgt := 28) hx hb dX3_settle_22 (by decide) (fun c_22 => ?_) (fun c_22 => ?_)
    · skip
      have c_22 := b2_z hr_2 c_22
      refine lv_aload_n hx hb dX3_settle_28 rfl (lv_at hl 0 rfl) ?_
      refine lz_get (G := G) (ci := 3) (v := .ref (q 8)) (C := RX3) (T := TX3) (N := 13) hx hb hu_wsX30 (fun _ h9 => h9) hown hK hP 0 rfl rfl 8 (by decide) hw4 rfl rfl dX3_settle_29 ?_
      refine lv_aload_n hx hb dX3_settle_32 rfl (lv_at hl 0 rfl) ?_
      refine lz_get (G := G) (ci := 3) (v := .ref (q 6)) (C := RX3) (T := TX3) (N := 13) hx hb hu_wsX30 (fun _ h9 => h9) hown hK hP 0 rfl rfl 6 (by decide) hw1 rfl rfl dX3_settle_33 ?_
      have hPc := P_subT (ws' := (lzAc (q 8) qa U ++ (lzQ G 3 (qa 0) 24 (fun i => some (rh i)) ++ (lzDoor G (q 6) qh D F)))) hP [12, 13, 1, 2, 3, 4, 5, 6, 7, 8, 9, 10, 11] rfl
      have hDc := D_subT (ws' := (lzAc (q 8) qa U ++ (lzQ G 3 (qa 0) 24 (fun i => some (rh i)) ++ (lzDoor G (q 6) qh D F)))) hD [12, 13, 1, 2, 3, 4, 5, 6, 7, 8, 9, 10, 11] (by decide) rfl
      have hFc : ∀ zz : Nat, lzA ((lzAc (q 8) qa U ++ (lzQ G 3 (qa 0) 24 (fun i => some (rh i)) ++ (lzDoor G (q 6) qh D F))) ++ ringW G rh rq RS RF) zz → A zz := lz_freeT hD [12, 13, 1, 2, 3, 4, 5, 6, 7, 8, 9, 10, 11] rfl
      refine va_callv (va_runV (As := [.ref (q 6)]) (rest := []) ⟨hx, hb, hml, hown, hts⟩ (c_X0_keep l G (q 8) qa U (q 6) qh D F rh rq RS RF X K (hX) (hX24) (hK0) (hK24)) (cwV 1 hts gX3_settle_X0_keep rfl rfl rfl (by decide +kernel) ⟨Nat.le_of_ble_eq_true rfl, Nat.le_of_ble_eq_true rfl⟩) (rw_preV hK hPc hDc hP (ci := 0) (q0 := 12) rfl rfl) rfl rfl hl.1 rfl (lv_room (Nat.le_of_ble_eq_true rfl)) dX3_settle_36 ⟨Nat.zero_le _, Nat.zero_le _⟩) hS (fun q _ h => hFc q h) hFc (fun u_4 t9 H1 locs ht hvm hr_3 hB hz1 hk1 hS => ?_)
      replace hB : va_P G.1 lzC _ t9.heap := hB
      rw [ht] at hB
      obtain ⟨hP, hD⟩ := lz_joinTT (wc := (lzAc (q 8) qa U ++ (lzQ G 3 (qa 0) 24 (fun i => some (rh i)) ++ (lzDoor G (q 6) qh D F)))) (wr := ([(x, .inr (3, [.ref (q 0), .ref (q 1), .ref (q 2), .int (S 3), .ref (q 4), .int (S 5), .ref (q 6), .ref (q 7), .ref (q 8), .ref (q 9), .ref (q 10), .int (S 11), .ref (q 12)]))] : va_W)) (w1 := (lzAc (q 8) qa (upd (upd U 1 (nI ((X + 1) % 24))) 2 (nI (min (K + 1) 24))) ++ (lzQ G 3 (qa 0) 24 (fun i => some (rh i)) ++ (lzDoor G (q 6) qh D F)))) hP hD [12, 13, 1, 2, 3, 4, 5, 6, 7, 8, 9, 10, 11] [0] rfl rfl (by decide) (by decide) rfl (ring_fst _ _ _) hk1 hB
      replace hP := P_subT (ws' := (lzX x q S ++ (lzDoor G (q 6) qh D F ++ (lzAc (q 8) qa (upd (upd U 1 (nI ((X + 1) % 24))) 2 (nI (min (K + 1) 24))) ++ (lzQ G 3 (qa 0) 24 (fun i => some (rh i))))))) hP [0, 3, 4, 5, 6, 7, 8, 9, 10, 11, 12, 13, 1, 2] rfl
      replace hD := D_subT (ws' := (lzX x q S ++ (lzDoor G (q 6) qh D F ++ (lzAc (q 8) qa (upd (upd U 1 (nI ((X + 1) % 24))) 2 (nI (min (K + 1) 24))) ++ (lzQ G 3 (qa 0) 24 (fun i => some (rh i))))))) hD [0, 3, 4, 5, 6, 7, 8, 9, 10, 11, 12, 13, 1, 2] (by decide) rfl
      clear ht hvm hB hz1 hk1
      generalize H1 = H at hP hS ⊢
      refine lv_aload_n hx hb dX3_settle_39 rfl (lv_at hl 0 rfl) ?_
      refine lz_get (G := G) (ci := 3) (v := .ref (q 6)) (C := RX3) (T := TX3) (N := 13) hx hb hu_wsX30 (fun _ h9 => h9) hown hK hP 0 rfl rfl 6 (by decide) hw1 rfl rfl dX3_settle_40 ?_
      refine lv_iload_n hx hb dX3_settle_43 rfl (lv_at hl 1 rfl) ?_
      have hPc := hP.sub (ws' := lzDoor G (q 6) qh D F) [1, 2, 3, 4, 5, 6, 7, 8, 9, 10, 11] rfl
      refine ro_calli (va_runV (As := [.int (nI s)]) (rest := []) ⟨hx, hb, hml, hown, hts⟩ (c_X1_votesSayLamp l G (q 6) qh D F s (by omega)) (cwV 1 hts gX3_settle_X1_votesSayLamp rfl rfl rfl (by decide +kernel) ⟨Nat.le_of_ble_eq_true rfl, Nat.le_of_ble_eq_true rfl⟩) (ro_preV hK hPc hP (ci := 1) (q0 := 1) rfl rfl) rfl rfl hl.1 rfl (lv_room (Nat.le_of_ble_eq_true rfl)) dX3_settle_44 ⟨Nat.zero_le _, Nat.zero_le _⟩) (fun r_5 hr_5 => ?_)
      refine lv_if_eq (tgt := 54) hx hb dX3_settle_47 (by decide) (fun c_47 => ?_) (fun c_47 => ?_)
      · skip
        have c_47 := b2_z hr_5 c_47
        refine lv_iconst (v := 0) hx hb dX3_settle_54 (by decide) ?_
        refine lv_istore_n (lv' := [(2, .int 0), (0, .ref x), (1, .int (nI s))]) hx hb dX3_settle_55 rfl hl (by decide) rfl (fun ls hl => ?_)
        refine lv_aload_n hx hb dX3_settle_56 rfl (lv_at hl 1 rfl) ?_
        refine lz_get (G := G) (ci := 3) (v := .ref (q 6)) (C := RX3) (T := TX3) (N := 13) hx hb hu_wsX30 (fun _ h9 => h9) hown hK hP 0 rfl rfl 6 (by decide) hw1 rfl rfl dX3_settle_57 ?_
        refine lz_get (G := G) (ci := 1) (v := .ref (qh 8)) (C := RX1) (T := TX1) (N := 14) hx hb hu_wsX10 (fun _ h9 => h9) hown hK hP 1 rfl rfl 8 (by decide) hw5 rfl rfl dX3_settle_60 ?_
        refine lv_iload_n hx hb dX3_settle_63 rfl (lv_at hl 2 rfl) ?_
        refine lv_iload_n hx hb dX3_settle_64 rfl (lv_at hl 0 rfl) ?_
        refine lz_iast (f := F 8) hx hb hK hP hD hS 6 rfl s (by omega) (Nat.le_of_ble_eq_true rfl) dX3_settle_65 ((lzX x q S ++ (lzDoor G (q 6) qh D (lzF F 8 (upd (F 8) s 0)) ++ (lzAc (q 8) qa (upd (upd U 1 (nI ((X + 1) % 24))) 2 (nI (min (K + 1) 24))) ++ (lzQ G 3 (qa 0) 24 (fun i => some (rh i)))))) ++ ringW G rh rq (lzF RS X (tfS D (RS X))) (lz3 RF X (tfF F (RF X)))) rfl (fun H locs hP hD hS => ?_)
        refine lv_iload_n hx hb dX3_settle_66 rfl (lv_at hl 0 rfl) ?_
        exact rw_iret (S := Unit) (G := G) (Wd := fun _ : Unit => ((lzX x q S ++ (lzDoor G (q 6) qh D (lzF F 8 (upd (F 8) s (b2 (decide (F 7 s < F 6 s))))) ++ (lzAc (q 8) qa (upd (upd U 1 (nI ((X + 1) % 24))) 2 (nI (min (K + 1) 24))) ++ (lzQ G 3 (qa 0) 24 (fun i => some (rh i)))))) ++ ringW G rh rq (lzF RS X (tfS D (RS X))) (lz3 RF X (tfF F (RF X))))) () hx hb hr hlk dX3_settle_67 hS (by show va_P G.1 lzC ((lzX x q S ++ (lzDoor G (q 6) qh D (lzF F 8 (upd (F 8) s (b2 (decide (F 7 s < F 6 s))))) ++ (lzAc (q 8) qa (upd (upd U 1 (nI ((X + 1) % 24))) 2 (nI (min (K + 1) 24))) ++ (lzQ G 3 (qa 0) 24 (fun i => some (rh i)))))) ++ ringW G rh rq (lzF RS X (tfS D (RS X))) (lz3 RF X (tfF F (RF X)))) _; rw [show (decide (F 7 s < F 6 s)) = _ from c_47]; exact hP) (by rw [show (decide (F 7 s < F 6 s)) = _ from c_47]; rfl)
      · skip
        have c_47 := b2_n hr_5 c_47
        refine lv_iconst (v := 1) hx hb dX3_settle_50 (by decide) ?_
        refine lv_goto (tgt := 55) hx hb dX3_settle_51 (by decide) ?_
        refine lv_istore_n (lv' := [(2, .int 1), (0, .ref x), (1, .int (nI s))]) hx hb dX3_settle_55 rfl hl (by decide) rfl (fun ls hl => ?_)
        refine lv_aload_n hx hb dX3_settle_56 rfl (lv_at hl 1 rfl) ?_
        refine lz_get (G := G) (ci := 3) (v := .ref (q 6)) (C := RX3) (T := TX3) (N := 13) hx hb hu_wsX30 (fun _ h9 => h9) hown hK hP 0 rfl rfl 6 (by decide) hw1 rfl rfl dX3_settle_57 ?_
        refine lz_get (G := G) (ci := 1) (v := .ref (qh 8)) (C := RX1) (T := TX1) (N := 14) hx hb hu_wsX10 (fun _ h9 => h9) hown hK hP 1 rfl rfl 8 (by decide) hw5 rfl rfl dX3_settle_60 ?_
        refine lv_iload_n hx hb dX3_settle_63 rfl (lv_at hl 2 rfl) ?_
        refine lv_iload_n hx hb dX3_settle_64 rfl (lv_at hl 0 rfl) ?_
        refine lz_iast (f := F 8) hx hb hK hP hD hS 6 rfl s (by omega) (Nat.le_of_ble_eq_true rfl) dX3_settle_65 ((lzX x q S ++ (lzDoor G (q 6) qh D (lzF F 8 (upd (F 8) s 1)) ++ (lzAc (q 8) qa (upd (upd U 1 (nI ((X + 1) % 24))) 2 (nI (min (K + 1) 24))) ++ (lzQ G 3 (qa 0) 24 (fun i => some (rh i)))))) ++ ringW G rh rq (lzF RS X (tfS D (RS X))) (lz3 RF X (tfF F (RF X)))) rfl (fun H locs hP hD hS => ?_)
        refine lv_iload_n hx hb dX3_settle_66 rfl (lv_at hl 0 rfl) ?_
        exact rw_iret (S := Unit) (G := G) (Wd := fun _ : Unit => ((lzX x q S ++ (lzDoor G (q 6) qh D (lzF F 8 (upd (F 8) s (b2 (decide (F 7 s < F 6 s))))) ++ (lzAc (q 8) qa (upd (upd U 1 (nI ((X + 1) % 24))) 2 (nI (min (K + 1) 24))) ++ (lzQ G 3 (qa 0) 24 (fun i => some (rh i)))))) ++ ringW G rh rq (lzF RS X (tfS D (RS X))) (lz3 RF X (tfF F (RF X))))) () hx hb hr hlk dX3_settle_67 hS (by show va_P G.1 lzC ((lzX x q S ++ (lzDoor G (q 6) qh D (lzF F 8 (upd (F 8) s (b2 (decide (F 7 s < F 6 s))))) ++ (lzAc (q 8) qa (upd (upd U 1 (nI ((X + 1) % 24))) 2 (nI (min (K + 1) 24))) ++ (lzQ G 3 (qa 0) 24 (fun i => some (rh i)))))) ++ ringW G rh rq (lzF RS X (tfS D (RS X))) (lz3 RF X (tfF F (RF X)))) _; rw [show (decide (F 7 s < F 6 s)) = _ from c_47]; exact hP) (by rw [show (decide (F 7 s < F 6 s)) = _ from c_47]; rfl)
    · skip
      have c_22 := b2_n hr_2 c_22
      exact Bool.noConfusion (hC.symm.trans c_22)
  · skip
    have c_8 := b2_z hr_1 c_8
    exact Bool.noConfusion (hB.symm.trans c_8)
set_option maxHeartbeats 4000000 in
set_option maxRecDepth 100000 in
theorem c_X3_undo_state (l : Launch) (G : lzG) (x : Nat) (q : Nat → Nat) (S : Nat → Int32) (qa : Nat → Nat) (U : Nat → Int32) (hK0 : U 2 = 0) : Met l yX3_undo wsX3_undo ({ frames := 0, cells := 0, slots := 0, locals := 0 }) (va_Pc [.ref x] (roP G (lzX x q S ++ lzAc (q 8) qa U))) (vp_Si (fun r => r = -1000002)) 0 0 (fun _ => False) := by
  refine ro_start (cc := cX3_undo) (maxL := 1) (ret := (some .int)) (by decide) rfl (Nat.le_of_ble_eq_true rfl) ?_
  intro pp ee ss mm bl me cd hx hb hr hlk hml hts hown hP hK ls hl
  have hown : ss.vm.findClass RX3 = some mm.cls := hown
  have hw1 := hts (.fieldLink RX3 48 "LampSquares" "acts" "LLampSquares$Acts;") (List.mem_of_getElem? (i := 1) rfl)
  have hw2 := hts (.fieldLink RX3 134 "LampSquares$Acts" "kept" "I") (List.mem_of_getElem? (i := 2) rfl)
  have hw3 := hts (.constant RX3 137 (-1000002)) (List.mem_of_getElem? (i := 3) rfl)
  have hu_wsX00 : ∀ w ∈ wsX00, w.before ([.ref x] : List Value).toArray ss = true := fun w h9 => hts w (List.mem_cons_of_mem _ (List.mem_append_left _ (List.mem_append_right _ h9)))
  have hu_wsX30 : ∀ w ∈ wsX30, w.before ([.ref x] : List Value).toArray ss = true := fun w h9 => hts w (List.mem_cons_of_mem _ (List.mem_append_left _ (List.mem_append_left _ (List.mem_append_right _ h9))))
  have hl : lv_has ls 1 [(0, .ref x)] := hl
  refine lv_aload_n hx hb dX3_undo_0 rfl (lv_at hl 0 rfl) ?_
  refine lz_get (G := G) (ci := 3) (v := .ref (q 8)) (C := RX3) (T := TX3) (N := 13) hx hb hu_wsX30 (fun _ h9 => h9) hown hK hP 0 rfl rfl 8 (by decide) hw1 rfl rfl dX3_undo_1 ?_
  refine lz_get (G := G) (ci := 0) (v := .int (U 2)) (C := RX0) (T := TX0) (N := 3) hx hb hu_wsX00 (fun _ h9 => h9) hown hK hP 1 rfl rfl 2 (by decide) hw2 rfl rfl dX3_undo_4 ?_
  refine lz_top (y := 0) (hK0) ?_
  refine lv_if_ne (tgt := 13) hx hb dX3_undo_7 (by decide) (fun c_7 => ?_) (fun c_7 => ?_)
  · skip
    exact False.elim (by revert c_7; decide)
  · skip
    refine lv_ldc hx hb hown hw3 dX3_undo_10 ?_
    exact ro_iret hx hb hr hlk dX3_undo_12 (rfl)
set_option maxHeartbeats 4000000 in
set_option maxRecDepth 100000 in
theorem c_X3_undo_ok (l : Launch) (G : lzG) (x : Nat) (q : Nat → Nat) (S : Nat → Int32) (qh : Nat → Nat) (D : Nat → Int32) (F : Nat → Nat → Int32) (qa : Nat → Nat) (U : Nat → Int32) (rh : Nat → Nat) (rq : Nat → Nat → Nat) (RS : Nat → Nat → Int32) (RF : Nat → Nat → Nat → Int32) (X K : Nat) (hX : U 1 = nI X) (hX24 : X < 24) (hK0 : U 2 = nI K) (hK24 : K ≤ 24) (hK1 : 1 ≤ K) : Met l yX3_undo wsX3_undo ({ frames := 3, cells := 0, slots := 0, locals := 82 }) (va_Pc [.ref x] (rwP G ((lzX x q S ++ (lzDoor G (q 6) qh D F ++ (lzAc (q 8) qa U ++ (lzQ G 3 (qa 0) 24 (fun i => some (rh i)))))) ++ ringW G rh rq RS RF))) (va_Qi (S := Unit) (fun (r : Int32) (_ : Unit) => r = nI (K - 1)) (rwB G (fun _ : Unit => ((lzX x q S ++ (lzDoor G (q 6) qh (tfS (RS ((X + 23) % 24)) D) (tfF (RF ((X + 23) % 24)) F) ++ (lzAc (q 8) qa (upd (upd U 1 (nI ((X + 23) % 24))) 2 (nI (K - 1))) ++ (lzQ G 3 (qa 0) 24 (fun i => some (rh i)))))) ++ ringW G rh rq RS RF))) (lzA ((lzX x q S ++ (lzDoor G (q 6) qh D F ++ (lzAc (q 8) qa U ++ (lzQ G 3 (qa 0) 24 (fun i => some (rh i)))))) ++ ringW G rh rq RS RF))) 0 0 (lzA ((lzX x q S ++ (lzDoor G (q 6) qh D F ++ (lzAc (q 8) qa U ++ (lzQ G 3 (qa 0) 24 (fun i => some (rh i)))))) ++ ringW G rh rq RS RF)) := by
  refine rw_start (S := Unit) (cc := cX3_undo) (maxL := 1) (ret := (some .int)) (by decide) rfl (Nat.le_of_ble_eq_true rfl) ?_
  intro pp ee ss mm bl me cd A hx hb hr hlk hml hts hown hP hK hD hAe hS ls hl
  have hA0 : ∀ zz : Nat, lzA ((lzX x q S ++ (lzDoor G (q 6) qh D F ++ (lzAc (q 8) qa U ++ (lzQ G 3 (qa 0) 24 (fun i => some (rh i)))))) ++ ringW G rh rq RS RF) zz → A zz := fun zz h9 => by rw [hAe]; exact h9
  rw [← hAe]
  clear hAe
  have hown : ss.vm.findClass RX3 = some mm.cls := hown
  have hw1 := hts (.fieldLink RX3 48 "LampSquares" "acts" "LLampSquares$Acts;") (List.mem_of_getElem? (i := 1) rfl)
  have hw2 := hts (.fieldLink RX3 134 "LampSquares$Acts" "kept" "I") (List.mem_of_getElem? (i := 2) rfl)
  have hw4 := hts (.fieldLink RX3 38 "LampSquares" "here" "LLampSquares$Door;") (List.mem_of_getElem? (i := 4) rfl)
  have hu_wsX00 : ∀ w ∈ wsX00, w.before ([.ref x] : List Value).toArray ss = true := fun w h9 => hts w (List.mem_cons_of_mem _ (List.mem_append_left _ (List.mem_append_right _ h9)))
  have hu_wsX30 : ∀ w ∈ wsX30, w.before ([.ref x] : List Value).toArray ss = true := fun w h9 => hts w (List.mem_cons_of_mem _ (List.mem_append_left _ (List.mem_append_left _ (List.mem_append_right _ h9))))
  have hl : lv_has ls 1 [(0, .ref x)] := hl
  refine lv_aload_n hx hb dX3_undo_0 rfl (lv_at hl 0 rfl) ?_
  refine lz_get (G := G) (ci := 3) (v := .ref (q 8)) (C := RX3) (T := TX3) (N := 13) hx hb hu_wsX30 (fun _ h9 => h9) hown hK hP 0 rfl rfl 8 (by decide) hw1 rfl rfl dX3_undo_1 ?_
  refine lz_get (G := G) (ci := 0) (v := .int (U 2)) (C := RX0) (T := TX0) (N := 3) hx hb hu_wsX00 (fun _ h9 => h9) hown hK hP 12 rfl rfl 2 (by decide) hw2 rfl rfl dX3_undo_4 ?_
  refine lz_top (y := nI K) (hK0) ?_
  refine lv_if_ne (tgt := 13) hx hb dX3_undo_7 (by decide) (fun c_7 => ?_) (fun c_7 => ?_)
  · skip
    refine lv_aload_n hx hb dX3_undo_13 rfl (lv_at hl 0 rfl) ?_
    refine lz_get (G := G) (ci := 3) (v := .ref (q 8)) (C := RX3) (T := TX3) (N := 13) hx hb hu_wsX30 (fun _ h9 => h9) hown hK hP 0 rfl rfl 8 (by decide) hw1 rfl rfl dX3_undo_14 ?_
    refine lv_aload_n hx hb dX3_undo_17 rfl (lv_at hl 0 rfl) ?_
    refine lz_get (G := G) (ci := 3) (v := .ref (q 6)) (C := RX3) (T := TX3) (N := 13) hx hb hu_wsX30 (fun _ h9 => h9) hown hK hP 0 rfl rfl 6 (by decide) hw4 rfl rfl dX3_undo_18 ?_
    have hPc := P_subT (ws' := (lzAc (q 8) qa U ++ (lzQ G 3 (qa 0) 24 (fun i => some (rh i)) ++ (lzDoor G (q 6) qh D F)))) hP [12, 13, 1, 2, 3, 4, 5, 6, 7, 8, 9, 10, 11] rfl
    have hDc := D_subT (ws' := (lzAc (q 8) qa U ++ (lzQ G 3 (qa 0) 24 (fun i => some (rh i)) ++ (lzDoor G (q 6) qh D F)))) hD [12, 13, 1, 2, 3, 4, 5, 6, 7, 8, 9, 10, 11] (by decide) rfl
    have hFc : ∀ zz : Nat, lzA ((lzAc (q 8) qa U ++ (lzQ G 3 (qa 0) 24 (fun i => some (rh i)) ++ (lzDoor G (q 6) qh D F))) ++ ringW G rh rq RS RF) zz → A zz := lz_freeT hD [12, 13, 1, 2, 3, 4, 5, 6, 7, 8, 9, 10, 11] rfl
    refine va_callv (va_runV (As := [.ref (q 6)]) (rest := []) ⟨hx, hb, hml, hown, hts⟩ (c_X0_takeBackInto l G (q 8) qa U (q 6) qh D F rh rq RS RF X K (hX) (hX24) (hK0) (hK24) (hK1)) (cwV 1 hts gX3_undo_X0_takeBackInto rfl rfl rfl (by decide +kernel) ⟨Nat.le_of_ble_eq_true rfl, Nat.le_of_ble_eq_true rfl⟩) (rw_preV hK hPc hDc hP (ci := 0) (q0 := 12) rfl rfl) rfl rfl hl.1 rfl (lv_room (Nat.le_of_ble_eq_true rfl)) dX3_undo_21 ⟨Nat.zero_le _, Nat.zero_le _⟩) hS (fun q _ h => hFc q h) hFc (fun u_2 t9 H1 locs ht hvm hr_1 hB hz1 hk1 hS => ?_)
    replace hB : va_P G.1 lzC _ t9.heap := hB
    rw [ht] at hB
    obtain ⟨hP, hD⟩ := lz_joinTT (wc := (lzAc (q 8) qa U ++ (lzQ G 3 (qa 0) 24 (fun i => some (rh i)) ++ (lzDoor G (q 6) qh D F)))) (wr := ([(x, .inr (3, [.ref (q 0), .ref (q 1), .ref (q 2), .int (S 3), .ref (q 4), .int (S 5), .ref (q 6), .ref (q 7), .ref (q 8), .ref (q 9), .ref (q 10), .int (S 11), .ref (q 12)]))] : va_W)) (w1 := (lzAc (q 8) qa (upd (upd U 1 (nI ((X + 23) % 24))) 2 (nI (K - 1))) ++ (lzQ G 3 (qa 0) 24 (fun i => some (rh i)) ++ (lzDoor G (q 6) qh (tfS (RS ((X + 23) % 24)) D) (tfF (RF ((X + 23) % 24)) F))))) hP hD [12, 13, 1, 2, 3, 4, 5, 6, 7, 8, 9, 10, 11] [0] rfl rfl (by decide) (by decide) rfl (ring_fst _ _ _) hk1 hB
    replace hP := P_subT (ws' := (lzX x q S ++ (lzDoor G (q 6) qh (tfS (RS ((X + 23) % 24)) D) (tfF (RF ((X + 23) % 24)) F) ++ (lzAc (q 8) qa (upd (upd U 1 (nI ((X + 23) % 24))) 2 (nI (K - 1))) ++ (lzQ G 3 (qa 0) 24 (fun i => some (rh i))))))) hP [0, 3, 4, 5, 6, 7, 8, 9, 10, 11, 12, 13, 1, 2] rfl
    replace hD := D_subT (ws' := (lzX x q S ++ (lzDoor G (q 6) qh (tfS (RS ((X + 23) % 24)) D) (tfF (RF ((X + 23) % 24)) F) ++ (lzAc (q 8) qa (upd (upd U 1 (nI ((X + 23) % 24))) 2 (nI (K - 1))) ++ (lzQ G 3 (qa 0) 24 (fun i => some (rh i))))))) hD [0, 3, 4, 5, 6, 7, 8, 9, 10, 11, 12, 13, 1, 2] (by decide) rfl
    clear ht hvm hB hz1 hk1
    generalize H1 = H at hP hS ⊢
    refine lv_aload_n hx hb dX3_undo_24 rfl (lv_at hl 0 rfl) ?_
    refine lz_get (G := G) (ci := 3) (v := .ref (q 8)) (C := RX3) (T := TX3) (N := 13) hx hb hu_wsX30 (fun _ h9 => h9) hown hK hP 0 rfl rfl 8 (by decide) hw1 rfl rfl dX3_undo_25 ?_
    refine lz_get (G := G) (ci := 0) (v := .int (nI (K - 1))) (C := RX0) (T := TX0) (N := 3) hx hb hu_wsX00 (fun _ h9 => h9) hown hK hP 12 rfl rfl 2 (by decide) hw2 rfl rfl dX3_undo_28 ?_
    exact rw_iret (S := Unit) (G := G) (Wd := fun _ : Unit => ((lzX x q S ++ (lzDoor G (q 6) qh (tfS (RS ((X + 23) % 24)) D) (tfF (RF ((X + 23) % 24)) F) ++ (lzAc (q 8) qa (upd (upd U 1 (nI ((X + 23) % 24))) 2 (nI (K - 1))) ++ (lzQ G 3 (qa 0) 24 (fun i => some (rh i)))))) ++ ringW G rh rq RS RF)) () hx hb hr hlk dX3_undo_31 hS (hP) (rfl)
  · skip
    exact absurd c_7 (nI_ne0 (by omega) (by omega))
