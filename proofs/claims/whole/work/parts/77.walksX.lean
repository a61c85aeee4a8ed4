set_option maxHeartbeats 4000000 in
set_option maxRecDepth 100000 in
theorem c_X3_drawn_state (l : Launch) (G : lzG) (x : Nat) (q : Nat → Nat) (S : Nat → Int32) (qh : Nat → Nat) (D : Nat → Int32) (F : Nat → Nat → Int32) (n sd what : Int32) (hR : (decide (0 < D 2) && decide (0 < D 3)) = false) : Met l yX3_drawn wsX3_drawn ({ frames := 1, cells := 0, slots := 0, locals := 20 }) (va_Pc [.ref x, .int n, .int sd, .int what] (roP G (lzX x q S ++ lzDoor G (q 6) qh D F))) (vp_Si (fun r => r = -1000002)) 0 0 (fun _ => False) := by
  refine ro_start (cc := cX3_drawn) (maxL := 10) (ret := (some .int)) (by decide) rfl (Nat.le_of_ble_eq_true rfl) ?_
  intro pp ee ss mm bl me cd hx hb hr hlk hml hts hown hP hK ls hl
  have hown : ss.vm.findClass RX3 = some mm.cls := hown
  have hw1 := hts (.fieldLink RX3 38 "LampSquares" "here" "LLampSquares$Door;") (List.mem_of_getElem? (i := 1) rfl)
  have hw2 := hts (.constant RX3 137 (-1000002)) (List.mem_of_getElem? (i := 2) rfl)
  have hu_wsX30 : ∀ w ∈ wsX30, w.before ([.ref x, .int n, .int sd, .int what] : List Value).toArray ss = true := fun w h9 => hts w (List.mem_cons_of_mem _ (List.mem_append_left _ (List.mem_append_right _ h9)))
  have hl : lv_has ls 10 [(0, .ref x), (1, .int n), (2, .int sd), (3, .int what)] := hl
  refine lv_aload_n hx hb dX3_drawn_0 rfl (lv_at hl 0 rfl) ?_
  refine lz_get (G := G) (ci := 3) (v := .ref (q 6)) (C := RX3) (T := TX3) (N := 13) hx hb hu_wsX30 (fun _ h9 => h9) hown hK hP 0 rfl rfl 6 (by decide) hw1 rfl rfl dX3_drawn_1 ?_
  have hPc := hP.sub (ws' := lzDoor G (q 6) qh D F) [1, 2, 3, 4, 5, 6, 7, 8, 9, 10, 11] rfl
  refine ro_calli (va_runV (As := []) (rest := []) ⟨hx, hb, hml, hown, hts⟩ (c_X1_isRead l G (q 6) qh D F ) (cwV 0 hts gX3_drawn_X1_isRead rfl rfl rfl (by decide +kernel) ⟨Nat.le_of_ble_eq_true rfl, Nat.le_of_ble_eq_true rfl⟩) (ro_preV hK hPc hP (ci := 1) (q0 := 1) rfl rfl) rfl rfl hl.1 rfl (lv_room (Nat.le_of_ble_eq_true rfl)) dX3_drawn_4 ⟨Nat.zero_le _, Nat.zero_le _⟩) (fun r_1 hr_1 => ?_)
  refine lv_if_ne (tgt := 13) hx hb dX3_drawn_7 (by decide) (fun c_7 => ?_) (fun c_7 => ?_)
  · skip
    have c_7 := b2_n hr_1 c_7
    exact Bool.noConfusion (hR.symm.trans c_7)
  · skip
    have c_7 := b2_z hr_1 c_7
    refine lv_ldc hx hb hown hw2 dX3_drawn_10 ?_
    exact ro_iret hx hb hr hlk dX3_drawn_12 (rfl)
set_option maxHeartbeats 4000000 in
set_option maxRecDepth 100000 in
theorem c_X3_drawn_bad (l : Launch) (G : lzG) (x : Nat) (q : Nat → Nat) (S : Nat → Int32) (qh : Nat → Nat) (D : Nat → Int32) (F : Nat → Nat → Int32) (qs : Nat → Nat) (DS : Nat → Int32) (FS : Nat → Nat → Int32) (n sd what : Int32) (hR : (decide (0 < D 2) && decide (0 < D 3)) = true) (hbad : (inR n 0 60 && inR sd 1 999999 && inR what 0 1) = false) : Met l yX3_drawn wsX3_drawn ({ frames := 1, cells := 0, slots := 0, locals := 22 }) (va_Pc [.ref x, .int n, .int sd, .int what] (roP G (lzX x q S ++ (lzDoor G (q 6) qh D F ++ (lzDoor G (q 7) qs DS FS))))) (vp_Si (fun r => r = -1000001)) 0 0 (fun _ => False) := by
  refine ro_start (cc := cX3_drawn) (maxL := 10) (ret := (some .int)) (by decide) rfl (Nat.le_of_ble_eq_true rfl) ?_
  intro pp ee ss mm bl me cd hx hb hr hlk hml hts hown hP hK ls hl
  have hown : ss.vm.findClass RX3 = some mm.cls := hown
  have hw1 := hts (.fieldLink RX3 38 "LampSquares" "here" "LLampSquares$Door;") (List.mem_of_getElem? (i := 1) rfl)
  have hw3 := hts (.constant RX3 279 (999999)) (List.mem_of_getElem? (i := 3) rfl)
  have hw4 := hts (.constant RX3 81 (-1000001)) (List.mem_of_getElem? (i := 4) rfl)
  have hu_wsX30 : ∀ w ∈ wsX30, w.before ([.ref x, .int n, .int sd, .int what] : List Value).toArray ss = true := fun w h9 => hts w (List.mem_cons_of_mem _ (List.mem_append_left _ (List.mem_append_right _ h9)))
  have hl : lv_has ls 10 [(0, .ref x), (1, .int n), (2, .int sd), (3, .int what)] := hl
  refine lv_aload_n hx hb dX3_drawn_0 rfl (lv_at hl 0 rfl) ?_
  refine lz_get (G := G) (ci := 3) (v := .ref (q 6)) (C := RX3) (T := TX3) (N := 13) hx hb hu_wsX30 (fun _ h9 => h9) hown hK hP 0 rfl rfl 6 (by decide) hw1 rfl rfl dX3_drawn_1 ?_
  have hPc := hP.sub (ws' := lzDoor G (q 6) qh D F) [1, 2, 3, 4, 5, 6, 7, 8, 9, 10, 11] rfl
  refine ro_calli (va_runV (As := []) (rest := []) ⟨hx, hb, hml, hown, hts⟩ (c_X1_isRead l G (q 6) qh D F ) (cwV 0 hts gX3_drawn_X1_isRead rfl rfl rfl (by decide +kernel) ⟨Nat.le_of_ble_eq_true rfl, Nat.le_of_ble_eq_true rfl⟩) (ro_preV hK hPc hP (ci := 1) (q0 := 1) rfl rfl) rfl rfl hl.1 rfl (lv_room (Nat.le_of_ble_eq_true rfl)) dX3_drawn_4 ⟨Nat.zero_le _, Nat.zero_le _⟩) (fun r_1 hr_1 => ?_)
  refine lv_if_ne (tgt := 13) hx hb dX3_drawn_7 (by decide) (fun c_7 => ?_) (fun c_7 => ?_)
  · skip
    have c_7 := b2_n hr_1 c_7
    refine lv_iload_n hx hb dX3_drawn_13 rfl (lv_at hl 1 rfl) ?_
    refine lv_iconst (v := 0) hx hb dX3_drawn_14 (by decide) ?_
    refine lv_bipush (v := 60) hx hb dX3_drawn_15 (by decide) ?_
    refine ro_calli (va_runS (As := [.int n, .int 0, .int 60]) (rest := []) ⟨hx, hb, hml, hown, hts⟩ (c_X3_isIn l G n 0 60 ) (cwS 3 hts gX3_drawn_X3_isIn rfl rfl rfl (by decide +kernel) ⟨Nat.le_of_ble_eq_true rfl, Nat.le_of_ble_eq_true rfl⟩) (ro_pre hK (fun k q h => by simp at h)) rfl rfl hl.1 rfl (lv_room (Nat.le_of_ble_eq_true rfl)) dX3_drawn_17 ⟨Nat.zero_le _, Nat.zero_le _⟩) (fun r_2 hr_2 => ?_)
    refine lv_if_eq (tgt := 43) hx hb dX3_drawn_20 (by decide) (fun c_20 => ?_) (fun c_20 => ?_)
    · skip
      have c_20 := b2_z hr_2 c_20
      refine lv_ldc hx hb hown hw4 dX3_drawn_43 ?_
      exact ro_iret hx hb hr hlk dX3_drawn_45 (rfl)
    · skip
      have c_20 := b2_n hr_2 c_20
      refine lv_iload_n hx hb dX3_drawn_23 rfl (lv_at hl 2 rfl) ?_
      refine lv_iconst (v := 1) hx hb dX3_drawn_24 (by decide) ?_
      refine lv_ldcw hx hb hown hw3 dX3_drawn_25 ?_
      refine ro_calli (va_runS (As := [.int sd, .int 1, .int 999999]) (rest := []) ⟨hx, hb, hml, hown, hts⟩ (c_X3_isIn l G sd 1 999999 ) (cwS 3 hts gX3_drawn_X3_isIn rfl rfl rfl (by decide +kernel) ⟨Nat.le_of_ble_eq_true rfl, Nat.le_of_ble_eq_true rfl⟩) (ro_pre hK (fun k q h => by simp at h)) rfl rfl hl.1 rfl (lv_room (Nat.le_of_ble_eq_true rfl)) dX3_drawn_28 ⟨Nat.zero_le _, Nat.zero_le _⟩) (fun r_3 hr_3 => ?_)
      refine lv_if_eq (tgt := 43) hx hb dX3_drawn_31 (by decide) (fun c_31 => ?_) (fun c_31 => ?_)
      · skip
        have c_31 := b2_z hr_3 c_31
        refine lv_ldc hx hb hown hw4 dX3_drawn_43 ?_
        exact ro_iret hx hb hr hlk dX3_drawn_45 (rfl)
      · skip
        have c_31 := b2_n hr_3 c_31
        refine lv_iload_n hx hb dX3_drawn_34 rfl (lv_at hl 3 rfl) ?_
        refine lv_iconst (v := 0) hx hb dX3_drawn_35 (by decide) ?_
        refine lv_iconst (v := 1) hx hb dX3_drawn_36 (by decide) ?_
        refine ro_calli (va_runS (As := [.int what, .int 0, .int 1]) (rest := []) ⟨hx, hb, hml, hown, hts⟩ (c_X3_isIn l G what 0 1 ) (cwS 3 hts gX3_drawn_X3_isIn rfl rfl rfl (by decide +kernel) ⟨Nat.le_of_ble_eq_true rfl, Nat.le_of_ble_eq_true rfl⟩) (ro_pre hK (fun k q h => by simp at h)) rfl rfl hl.1 rfl (lv_room (Nat.le_of_ble_eq_true rfl)) dX3_drawn_37 ⟨Nat.zero_le _, Nat.zero_le _⟩) (fun r_4 hr_4 => ?_)
        refine lv_if_ne (tgt := 46) hx hb dX3_drawn_40 (by decide) (fun c_40 => ?_) (fun c_40 => ?_)
        · skip
          have c_40 := b2_n hr_4 c_40
          exact Bool.noConfusion (hbad.symm.trans (by rw [c_20, c_31, c_40] <;> rfl))
        · skip
          have c_40 := b2_z hr_4 c_40
          refine lv_ldc hx hb hown hw4 dX3_drawn_43 ?_
          exact ro_iret hx hb hr hlk dX3_drawn_45 (rfl)
  · skip
    have c_7 := b2_z hr_1 c_7
    exact Bool.noConfusion (hR.symm.trans c_7)
set_option maxHeartbeats 4000000 in
set_option maxRecDepth 100000 in
theorem c_X3_drawn_ok (l : Launch) (G : lzG) (x : Nat) (q : Nat → Nat) (S : Nat → Int32) (qh : Nat → Nat) (D : Nat → Int32) (F : Nat → Nat → Int32) (qs : Nat → Nat) (DS : Nat → Int32) (FS : Nat → Nat → Int32) (n sd : Nat) (what : Int32) (N M : Nat) (hN : D 2 = nI N) (hN8 : N ≤ 8) (hM : D 3 = nI M) (hM5 : M ≤ 5) (hR : (decide (0 < D 2) && decide (0 < D 3)) = true) (hM0 : 0 < M) (hn60 : n ≤ 60) (hsd : sd ≤ 999999) (hb1 : inR (nI n) 0 60 = true) (hb2 : inR (nI sd) 1 999999 = true) (hw : inR what 0 1 = true) : Met l yX3_drawn wsX3_drawn ({ frames := 6, cells := 0, slots := 0, locals := 134 }) (va_Pc [.ref x, .int (nI n), .int (nI sd), .int what] (rwP G (lzX x q S ++ (lzDoor G (q 6) qh D F ++ (lzDoor G (q 7) qs DS FS))))) (va_Qi (S := Unit) (fun (r : Int32) (_ : Unit) => r = if what = 0 then cntI (drwB (tfS D DS) (tfF F FS) sd N M) n else sumI (fun s => drwF (tfS D DS) (tfF F FS) sd N M n 6 s + drwF (tfS D DS) (tfF F FS) sd N M n 7 s) N) (rwB G (fun _ : Unit => (lzX x q S ++ (lzDoor G (q 6) qh D F ++ (lzDoor G (q 7) qs (tfS D DS) (drwF (tfS D DS) (tfF F FS) sd N M n)))))) (lzA (lzX x q S ++ (lzDoor G (q 6) qh D F ++ (lzDoor G (q 7) qs DS FS))))) 0 0 (lzA (lzX x q S ++ (lzDoor G (q 6) qh D F ++ (lzDoor G (q 7) qs DS FS)))) := by
  refine rw_start (S := Unit) (cc := cX3_drawn) (maxL := 10) (ret := (some .int)) (by decide) rfl (Nat.le_of_ble_eq_true rfl) ?_
  intro pp ee ss mm bl me cd A hx hb hr hlk hml hts hown hP hK hD hAe hS ls hl
  have hA0 : ∀ zz : Nat, lzA (lzX x q S ++ (lzDoor G (q 6) qh D F ++ (lzDoor G (q 7) qs DS FS))) zz → A zz := fun zz h9 => by rw [hAe]; exact h9
  rw [← hAe]
  clear hAe
  have hown : ss.vm.findClass RX3 = some mm.cls := hown
  have hw1 := hts (.fieldLink RX3 38 "LampSquares" "here" "LLampSquares$Door;") (List.mem_of_getElem? (i := 1) rfl)
  have hw3 := hts (.constant RX3 279 (999999)) (List.mem_of_getElem? (i := 3) rfl)
  have hw5 := hts (.fieldLink RX3 42 "LampSquares" "spare" "LLampSquares$Door;") (List.mem_of_getElem? (i := 5) rfl)
  have hw6 := hts (.constantLong RX3 280 (16807)) (List.mem_of_getElem? (i := 6) rfl)
  have hw7 := hts (.constantLong RX3 282 (2147483647)) (List.mem_of_getElem? (i := 7) rfl)
  have hw8 := hts (.fieldLink RX3 246 "LampSquares$Door" "visitors" "I") (List.mem_of_getElem? (i := 8) rfl)
  have hw9 := hts (.constantLong RX3 284 (256)) (List.mem_of_getElem? (i := 9) rfl)
  have hu_wsX10 : ∀ w ∈ wsX10, w.before ([.ref x, .int (nI n), .int (nI sd), .int what] : List Value).toArray ss = true := fun w h9 => hts w (List.mem_cons_of_mem _ (List.mem_append_right _ h9))
  have hu_wsX30 : ∀ w ∈ wsX30, w.before ([.ref x, .int (nI n), .int (nI sd), .int what] : List Value).toArray ss = true := fun w h9 => hts w (List.mem_cons_of_mem _ (List.mem_append_left _ (List.mem_append_right _ h9)))
  have hl : lv_has ls 10 [(0, .ref x), (1, .int (nI n)), (2, .int (nI sd)), (3, .int what)] := hl
  refine lv_aload_n hx hb dX3_drawn_0 rfl (lv_at hl 0 rfl) ?_
  refine lz_get (G := G) (ci := 3) (v := .ref (q 6)) (C := RX3) (T := TX3) (N := 13) hx hb hu_wsX30 (fun _ h9 => h9) hown hK hP 0 rfl rfl 6 (by decide) hw1 rfl rfl dX3_drawn_1 ?_
  have hPc := hP.sub (ws' := lzDoor G (q 6) qh D F) [1, 2, 3, 4, 5, 6, 7, 8, 9, 10, 11] rfl
  refine ro_calli (va_runV (As := []) (rest := []) ⟨hx, hb, hml, hown, hts⟩ (c_X1_isRead l G (q 6) qh D F ) (cwV 0 hts gX3_drawn_X1_isRead rfl rfl rfl (by decide +kernel) ⟨Nat.le_of_ble_eq_true rfl, Nat.le_of_ble_eq_true rfl⟩) (ro_preV hK hPc hP (ci := 1) (q0 := 1) rfl rfl) rfl rfl hl.1 rfl (lv_room (Nat.le_of_ble_eq_true rfl)) dX3_drawn_4 ⟨Nat.zero_le _, Nat.zero_le _⟩) (fun r_1 hr_1 => ?_)
  refine lv_if_ne (tgt := 13) hx hb dX3_drawn_7 (by decide) (fun c_7 => ?_) (fun c_7 => ?_)
  · skip
    have c_7 := b2_n hr_1 c_7
    refine lv_iload_n hx hb dX3_drawn_13 rfl (lv_at hl 1 rfl) ?_
    refine lv_iconst (v := 0) hx hb dX3_drawn_14 (by decide) ?_
    refine lv_bipush (v := 60) hx hb dX3_drawn_15 (by decide) ?_
    refine ro_calli (va_runS (As := [.int (nI n), .int 0, .int 60]) (rest := []) ⟨hx, hb, hml, hown, hts⟩ (c_X3_isIn l G (nI n) 0 60 ) (cwS 3 hts gX3_drawn_X3_isIn rfl rfl rfl (by decide +kernel) ⟨Nat.le_of_ble_eq_true rfl, Nat.le_of_ble_eq_true rfl⟩) (ro_pre hK (fun k q h => by simp at h)) rfl rfl hl.1 rfl (lv_room (Nat.le_of_ble_eq_true rfl)) dX3_drawn_17 ⟨Nat.zero_le _, Nat.zero_le _⟩) (fun r_2 hr_2 => ?_)
    refine lv_if_eq (tgt := 43) hx hb dX3_drawn_20 (by decide) (fun c_20 => ?_) (fun c_20 => ?_)
    · skip
      have c_20 := b2_z hr_2 c_20
      exact Bool.noConfusion (hb1.symm.trans c_20)
    · skip
      have c_20 := b2_n hr_2 c_20
      refine lv_iload_n hx hb dX3_drawn_23 rfl (lv_at hl 2 rfl) ?_
      refine lv_iconst (v := 1) hx hb dX3_drawn_24 (by decide) ?_
      refine lv_ldcw hx hb hown hw3 dX3_drawn_25 ?_
      refine ro_calli (va_runS (As := [.int (nI sd), .int 1, .int 999999]) (rest := []) ⟨hx, hb, hml, hown, hts⟩ (c_X3_isIn l G (nI sd) 1 999999 ) (cwS 3 hts gX3_drawn_X3_isIn rfl rfl rfl (by decide +kernel) ⟨Nat.le_of_ble_eq_true rfl, Nat.le_of_ble_eq_true rfl⟩) (ro_pre hK (fun k q h => by simp at h)) rfl rfl hl.1 rfl (lv_room (Nat.le_of_ble_eq_true rfl)) dX3_drawn_28 ⟨Nat.zero_le _, Nat.zero_le _⟩) (fun r_3 hr_3 => ?_)
      refine lv_if_eq (tgt := 43) hx hb dX3_drawn_31 (by decide) (fun c_31 => ?_) (fun c_31 => ?_)
      · skip
        have c_31 := b2_z hr_3 c_31
        exact Bool.noConfusion (hb2.symm.trans c_31)
      · skip
        have c_31 := b2_n hr_3 c_31
        refine lv_iload_n hx hb dX3_drawn_34 rfl (lv_at hl 3 rfl) ?_
        refine lv_iconst (v := 0) hx hb dX3_drawn_35 (by decide) ?_
        refine lv_iconst (v := 1) hx hb dX3_drawn_36 (by decide) ?_
        refine ro_calli (va_runS (As := [.int what, .int 0, .int 1]) (rest := []) ⟨hx, hb, hml, hown, hts⟩ (c_X3_isIn l G what 0 1 ) (cwS 3 hts gX3_drawn_X3_isIn rfl rfl rfl (by decide +kernel) ⟨Nat.le_of_ble_eq_true rfl, Nat.le_of_ble_eq_true rfl⟩) (ro_pre hK (fun k q h => by simp at h)) rfl rfl hl.1 rfl (lv_room (Nat.le_of_ble_eq_true rfl)) dX3_drawn_37 ⟨Nat.zero_le _, Nat.zero_le _⟩) (fun r_4 hr_4 => ?_)
        refine lv_if_ne (tgt := 46) hx hb dX3_drawn_40 (by decide) (fun c_40 => ?_) (fun c_40 => ?_)
        · skip
          have c_40 := b2_n hr_4 c_40
          refine lv_aload_n hx hb dX3_drawn_46 rfl (lv_at hl 0 rfl) ?_
          refine lz_get (G := G) (ci := 3) (v := .ref (q 7)) (C := RX3) (T := TX3) (N := 13) hx hb hu_wsX30 (fun _ h9 => h9) hown hK hP 0 rfl rfl 7 (by decide) hw5 rfl rfl dX3_drawn_47 ?_
          refine lv_aload_n hx hb dX3_drawn_50 rfl (lv_at hl 0 rfl) ?_
          refine lz_get (G := G) (ci := 3) (v := .ref (q 6)) (C := RX3) (T := TX3) (N := 13) hx hb hu_wsX30 (fun _ h9 => h9) hown hK hP 0 rfl rfl 6 (by decide) hw1 rfl rfl dX3_drawn_51 ?_
          have hPc := hP.sub (ws' := (lzDoor G (q 7) qs DS FS ++ lzDoor G (q 6) qh D F)) [12, 13, 14, 15, 16, 17, 18, 19, 20, 21, 22, 1, 2, 3, 4, 5, 6, 7, 8, 9, 10, 11] rfl
          have hDc := hD.sub (ws' := (lzDoor G (q 7) qs DS FS ++ lzDoor G (q 6) qh D F)) [12, 13, 14, 15, 16, 17, 18, 19, 20, 21, 22, 1, 2, 3, 4, 5, 6, 7, 8, 9, 10, 11] (by decide) rfl
          have hFc : ∀ zz : Nat, lzA (lzDoor G (q 7) qs DS FS ++ lzDoor G (q 6) qh D F) zz → A zz := lz_free hD [12, 13, 14, 15, 16, 17, 18, 19, 20, 21, 22, 1, 2, 3, 4, 5, 6, 7, 8, 9, 10, 11] rfl
          refine va_callv (va_runV (As := [.ref (q 6)]) (rest := []) ⟨hx, hb, hml, hown, hts⟩ (c_X1_takeFrom l G (q 7) qs DS FS (q 6) qh D F ) (cwV 1 hts gX3_drawn_X1_takeFrom rfl rfl rfl (by decide +kernel) ⟨Nat.le_of_ble_eq_true rfl, Nat.le_of_ble_eq_true rfl⟩) (rw_preV hK hPc hDc hP (ci := 1) (q0 := 12) rfl rfl) rfl rfl hl.1 rfl (lv_room (Nat.le_of_ble_eq_true rfl)) dX3_drawn_54 ⟨Nat.zero_le _, Nat.zero_le _⟩) hS (fun q _ h => hFc q h) hFc (fun u_6 t9 H1 locs ht hvm hr_5 hB hz1 hk1 hS => ?_)
          replace hB : va_P G.1 lzC _ t9.heap := hB
          rw [ht] at hB
          obtain ⟨hP, hD⟩ := lz_join (wc := (lzDoor G (q 7) qs DS FS ++ lzDoor G (q 6) qh D F)) (wr := ([(x, .inr (3, [.ref (q 0), .ref (q 1), .ref (q 2), .int (S 3), .ref (q 4), .int (S 5), .ref (q 6), .ref (q 7), .ref (q 8), .ref (q 9), .ref (q 10), .int (S 11), .ref (q 12)]))] : va_W)) (w1 := (lzDoor G (q 7) qs (upd (upd (upd (upd DS 0 (D 0)) 1 (D 1)) 2 (D 2)) 3 (D 3)) (lzF (lzF (lzF (lzF (lzF (lzF (lzF (lzF (lzF FS 4 (va_cpy ((F 4)) ((FS 4)) 0 0 8)) 5 (va_cpy ((F 5)) ((FS 5)) 0 0 8)) 6 (va_cpy ((F 6)) ((FS 6)) 0 0 8)) 7 (va_cpy ((F 7)) ((FS 7)) 0 0 8)) 8 (va_cpy ((F 8)) ((FS 8)) 0 0 8)) 9 (va_cpy ((F 9)) ((FS 9)) 0 0 5)) 10 (va_cpy ((F 10)) ((FS 10)) 0 0 5)) 11 (va_cpy ((F 11)) ((FS 11)) 0 0 5)) 12 (va_cpy ((F 12)) ((FS 12)) 0 0 5)) ++ lzDoor G (q 6) qh D F)) hP hD [12, 13, 14, 15, 16, 17, 18, 19, 20, 21, 22, 1, 2, 3, 4, 5, 6, 7, 8, 9, 10, 11] [0] rfl rfl (by decide) (by decide) rfl hk1 hB
          replace hP := hP.sub (ws' := (lzX x q S ++ (lzDoor G (q 6) qh D F ++ (lzDoor G (q 7) qs (upd (upd (upd (upd DS 0 (D 0)) 1 (D 1)) 2 (D 2)) 3 (D 3)) (lzF (lzF (lzF (lzF (lzF (lzF (lzF (lzF (lzF FS 4 (va_cpy ((F 4)) ((FS 4)) 0 0 8)) 5 (va_cpy ((F 5)) ((FS 5)) 0 0 8)) 6 (va_cpy ((F 6)) ((FS 6)) 0 0 8)) 7 (va_cpy ((F 7)) ((FS 7)) 0 0 8)) 8 (va_cpy ((F 8)) ((FS 8)) 0 0 8)) 9 (va_cpy ((F 9)) ((FS 9)) 0 0 5)) 10 (va_cpy ((F 10)) ((FS 10)) 0 0 5)) 11 (va_cpy ((F 11)) ((FS 11)) 0 0 5)) 12 (va_cpy ((F 12)) ((FS 12)) 0 0 5)))))) [0, 12, 13, 14, 15, 16, 17, 18, 19, 20, 21, 22, 1, 2, 3, 4, 5, 6, 7, 8, 9, 10, 11] rfl
          replace hD := hD.sub (ws' := (lzX x q S ++ (lzDoor G (q 6) qh D F ++ (lzDoor G (q 7) qs (upd (upd (upd (upd DS 0 (D 0)) 1 (D 1)) 2 (D 2)) 3 (D 3)) (lzF (lzF (lzF (lzF (lzF (lzF (lzF (lzF (lzF FS 4 (va_cpy ((F 4)) ((FS 4)) 0 0 8)) 5 (va_cpy ((F 5)) ((FS 5)) 0 0 8)) 6 (va_cpy ((F 6)) ((FS 6)) 0 0 8)) 7 (va_cpy ((F 7)) ((FS 7)) 0 0 8)) 8 (va_cpy ((F 8)) ((FS 8)) 0 0 8)) 9 (va_cpy ((F 9)) ((FS 9)) 0 0 5)) 10 (va_cpy ((F 10)) ((FS 10)) 0 0 5)) 11 (va_cpy ((F 11)) ((FS 11)) 0 0 5)) 12 (va_cpy ((F 12)) ((FS 12)) 0 0 5)))))) [0, 12, 13, 14, 15, 16, 17, 18, 19, 20, 21, 22, 1, 2, 3, 4, 5, 6, 7, 8, 9, 10, 11] (by decide) rfl
          clear ht hvm hB hz1 hk1
          generalize H1 = H at hP hS ⊢
          refine lv_iconst (v := 0) hx hb dX3_drawn_57 (by decide) ?_
          refine lv_istore (lv' := [(4, .int 0), (0, .ref x), (1, .int (nI n)), (2, .int (nI sd)), (3, .int what)]) hx hb dX3_drawn_58 hl (by decide) rfl (fun ls hl => ?_)
          refine lv_iload_n hx hb dX3_drawn_60 rfl (lv_at hl 3 rfl) ?_
          refine lv_i2l hx hb dX3_drawn_61 rfl ?_
          refine lz_topl (y := lN (lcgN sd 0)) (nI_l (by omega)) ?_
          refine lv_lstore (lv' := [(5, .long (lN (lcgN sd 0))), (4, .int 0), (0, .ref x), (1, .int (nI n)), (2, .int (nI sd)), (3, .int what)]) hx hb dX3_drawn_62 hl (by decide) rfl (fun ls hl => ?_)
          refine lv_iconst (v := 0) hx hb dX3_drawn_64 (by decide) ?_
          refine lv_istore (lv' := [(7, .int 0), (5, .long (lN (lcgN sd 0))), (4, .int 0), (0, .ref x), (1, .int (nI n)), (2, .int (nI sd)), (3, .int what)]) hx hb dX3_drawn_65 hl (by decide) rfl (fun ls hl => ?_)
          have J_67 : ∀ (n9 : Nat), ∀ (k : Nat), (k ≤ n) → n - k < n9 → ∀ (H : Heap) (locs : List Loc), va_P G.1 lzC (lzX x q S ++ (lzDoor G (q 6) qh D F ++ (lzDoor G (q 7) qs (tfS D DS) (drwF (tfS D DS) (tfF F FS) sd N M k)))) H → va_D A (lzX x q S ++ (lzDoor G (q 6) qh D F ++ (lzDoor G (q 7) qs (tfS D DS) (drwF (tfS D DS) (tfF F FS) sd N M k)))) → va_S A ss.heap H locs → ∀ ls : Array Slot, lv_has ls 10 [(4, .int (cntI (drwB (tfS D DS) (tfF F FS) sd N M) k)), (5, .long (lN (lcgN sd k))), (7, .int (nI k)), (0, .ref x), (1, .int (nI n)), (2, .int (nI sd)), (3, .int what)] → W pp l ee ({ frames := 6, cells := 0, slots := 0, locals := 134 }) ss mm ([.ref x, .int (nI n), .int (nI sd), .int what] : List Value).toArray bl me cd H locs 0 0 (MQ bl (va_Qi (S := Unit) (fun (r : Int32) (_ : Unit) => r = if what = 0 then cntI (drwB (tfS D DS) (tfF F FS) sd N M) n else sumI (fun s => drwF (tfS D DS) (tfF F FS) sd N M n 6 s + drwF (tfS D DS) (tfF F FS) sd N M n 7 s) N) (rwB G (fun _ : Unit => (lzX x q S ++ (lzDoor G (q 6) qh D F ++ (lzDoor G (q 7) qs (tfS D DS) (drwF (tfS D DS) (tfF F FS) sd N M n)))))) A) ([.ref x, .int (nI n), .int (nI sd), .int what] : List Value).toArray ss 0 0 A) (F0 mm 67 ls []) := by
            intro n9
            induction n9 with
            | zero => intro k hk hn; exact absurd hn (Nat.not_lt_zero _)
            | succ n9 ih_67 =>
              intro k hk hn_67 H locs hP hD hS ls hl
              refine lv_iload hx hb dX3_drawn_67 (lv_at hl 2 rfl) ?_
              refine lv_iload_n hx hb dX3_drawn_69 rfl (lv_at hl 4 rfl) ?_
              refine lv_icmp_ge (tgt := 139) hx hb dX3_drawn_70 (by decide) (fun c_70 => ?_) (fun c_70 => ?_)
              · skip
                have c_70' := Int32.not_lt.mpr c_70
                have hk2 : n ≤ k := (nI_leI (by omega) (by omega)).mp c_70
                have hk3 : k = n := by omega
                refine lv_iload_n hx hb dX3_drawn_139 rfl (lv_at hl 6 rfl) ?_
                refine lv_if_ne (tgt := 148) hx hb dX3_drawn_140 (by decide) (fun c_140 => ?_) (fun c_140 => ?_)
                · skip
                  refine lv_aload_n hx hb dX3_drawn_148 rfl (lv_at hl 3 rfl) ?_
                  refine lz_get (G := G) (ci := 3) (v := .ref (q 7)) (C := RX3) (T := TX3) (N := 13) hx hb hu_wsX30 (fun _ h9 => h9) hown hK hP 0 rfl rfl 7 (by decide) hw5 rfl rfl dX3_drawn_149 ?_
                  have hPc := hP.sub (ws' := lzDoor G (q 7) qs (tfS D DS) (drwF (tfS D DS) (tfF F FS) sd N M k)) [12, 13, 14, 15, 16, 17, 18, 19, 20, 21, 22] rfl
                  refine ro_calli (va_runV (As := []) (rest := []) ⟨hx, hb, hml, hown, hts⟩ (c_X1_allVotes l G (q 7) qs (tfS D DS) (drwF (tfS D DS) (tfF F FS) sd N M k) N (hN) (hN8)) (cwV 0 hts gX3_drawn_X1_allVotes rfl rfl rfl (by decide +kernel) ⟨Nat.le_of_ble_eq_true rfl, Nat.le_of_ble_eq_true rfl⟩) (ro_preV hK hPc hP (ci := 1) (q0 := 12) rfl rfl) rfl rfl hl.1 rfl (lv_room (Nat.le_of_ble_eq_true rfl)) dX3_drawn_152 ⟨Nat.zero_le _, Nat.zero_le _⟩) (fun r_7 hr_7 => ?_)
                  refine lz_top (y := sumI (fun s => ((drwF (tfS D DS) (tfF F FS) sd N M k) 6) s + ((drwF (tfS D DS) (tfF F FS) sd N M k) 7) s) N) hr_7 ?_
                  exact rw_iret (S := Unit) (G := G) (Wd := fun _ : Unit => (lzX x q S ++ (lzDoor G (q 6) qh D F ++ (lzDoor G (q 7) qs (tfS D DS) (drwF (tfS D DS) (tfF F FS) sd N M n))))) () hx hb hr hlk dX3_drawn_155 hS (by rw [hk3] at hP; exact hP) (by rw [hk3]; first | rw [if_pos c_140] | rw [if_neg c_140])
                · skip
                  refine lv_iload hx hb dX3_drawn_143 (lv_at hl 0 rfl) ?_
                  refine lv_goto (tgt := 155) hx hb dX3_drawn_145 (by decide) ?_
                  exact rw_iret (S := Unit) (G := G) (Wd := fun _ : Unit => (lzX x q S ++ (lzDoor G (q 6) qh D F ++ (lzDoor G (q 7) qs (tfS D DS) (drwF (tfS D DS) (tfF F FS) sd N M n))))) () hx hb hr hlk dX3_drawn_155 hS (by rw [hk3] at hP; exact hP) (by rw [hk3]; first | rw [if_pos c_140] | rw [if_neg c_140])
              · skip
                have c_70' := Int32.not_le.mp c_70
                have hk2 : k < n := (nI_ltI (by omega) (by omega)).mp c_70'
                refine lv_lload hx hb dX3_drawn_73 (lv_at hl 1 rfl) ?_
                refine lv_ldc2 hx hb hown hw6 dX3_drawn_75 ?_
                refine lv_lmul hx hb dX3_drawn_78 ?_
                refine lv_ldc2 hx hb hown hw7 dX3_drawn_79 ?_
                refine lv_lrem hx hb dX3_drawn_82 (by decide) ?_
                refine lz_topl (y := lN (lcgN sd (k + 1))) (lcg_s (by omega)) ?_
                refine lv_lstore (lv' := [(5, .long (lN (lcgN sd (k + 1)))), (4, .int (cntI (drwB (tfS D DS) (tfF F FS) sd N M) k)), (7, .int (nI k)), (0, .ref x), (1, .int (nI n)), (2, .int (nI sd)), (3, .int what)]) hx hb dX3_drawn_83 hl (by decide) rfl (fun ls hl => ?_)
                refine lv_lload hx hb dX3_drawn_85 (lv_at hl 0 rfl) ?_
                refine lv_aload_n hx hb dX3_drawn_87 rfl (lv_at hl 3 rfl) ?_
                refine lz_get (G := G) (ci := 3) (v := .ref (q 6)) (C := RX3) (T := TX3) (N := 13) hx hb hu_wsX30 (fun _ h9 => h9) hown hK hP 0 rfl rfl 6 (by decide) hw1 rfl rfl dX3_drawn_88 ?_
                refine lz_get (G := G) (ci := 1) (v := .int (D 3)) (C := RX1) (T := TX1) (N := 14) hx hb hu_wsX10 (fun _ h9 => h9) hown hK hP 1 rfl rfl 3 (by decide) hw8 rfl rfl dX3_drawn_91 ?_
                refine lv_i2l hx hb dX3_drawn_94 rfl ?_
                refine lv_lrem hx hb dX3_drawn_95 (by rw [hM, nI_l (by omega)]; exact fun h9 => absurd ((pk_lEQ (b := 0) (by omega) (by decide)).mp h9) (by omega)) ?_
                refine lv_l2i hx hb dX3_drawn_96 rfl ?_
                refine lz_top (y := nI (drwV sd M k)) (lcg_v (by omega) hM0 hM5 hM) ?_
                refine lv_istore (lv' := [(8, .int (nI (drwV sd M k))), (5, .long (lN (lcgN sd (k + 1)))), (4, .int (cntI (drwB (tfS D DS) (tfF F FS) sd N M) k)), (7, .int (nI k)), (0, .ref x), (1, .int (nI n)), (2, .int (nI sd)), (3, .int what)]) hx hb dX3_drawn_97 hl (by decide) rfl (fun ls hl => ?_)
                refine lv_lload hx hb dX3_drawn_99 (lv_at hl 1 rfl) ?_
                refine lv_ldc2 hx hb hown hw9 dX3_drawn_101 ?_
                refine lv_lrem hx hb dX3_drawn_104 (by decide) ?_
                refine lv_l2i hx hb dX3_drawn_105 rfl ?_
                refine lz_top (y := nI (lcgN sd (k + 1) % 256)) (lcg_q (by omega)) ?_
                refine lv_aload_n hx hb dX3_drawn_106 rfl (lv_at hl 4 rfl) ?_
                refine lz_get (G := G) (ci := 3) (v := .ref (q 6)) (C := RX3) (T := TX3) (N := 13) hx hb hu_wsX30 (fun _ h9 => h9) hown hK hP 0 rfl rfl 6 (by decide) hw1 rfl rfl dX3_drawn_107 ?_
                have hPc := hP.sub (ws' := lzDoor G (q 6) qh D F) [1, 2, 3, 4, 5, 6, 7, 8, 9, 10, 11] rfl
                refine ro_calli (va_runV (As := []) (rest := [.int (nI (lcgN sd (k + 1) % 256))]) ⟨hx, hb, hml, hown, hts⟩ (c_X1_allSquares l G (q 6) qh D F ) (cwV 0 hts gX3_drawn_X1_allSquares rfl rfl rfl (by decide +kernel) ⟨Nat.le_of_ble_eq_true rfl, Nat.le_of_ble_eq_true rfl⟩) (ro_preV hK hPc hP (ci := 1) (q0 := 1) rfl rfl) rfl rfl hl.1 rfl (lv_room (Nat.le_of_ble_eq_true rfl)) dX3_drawn_110 ⟨Nat.zero_le _, Nat.zero_le _⟩) (fun r_8 hr_8 => ?_)
                refine lz_top (y := (1 <<< ((D 2) &&& 31)) - 1) hr_8 ?_
                refine lz_top (y := nI (2 ^ N - 1)) (all_sq hN hN8) ?_
                refine lv_iand hx hb dX3_drawn_113 ?_
                refine lz_top (y := drwQ sd N k) (rfl) ?_
                refine lv_istore (lv' := [(9, .int (drwQ sd N k)), (8, .int (nI (drwV sd M k))), (5, .long (lN (lcgN sd (k + 1)))), (4, .int (cntI (drwB (tfS D DS) (tfF F FS) sd N M) k)), (7, .int (nI k)), (0, .ref x), (1, .int (nI n)), (2, .int (nI sd)), (3, .int what)]) hx hb dX3_drawn_114 hl (by decide) rfl (fun ls hl => ?_)
                refine lv_aload_n hx hb dX3_drawn_116 rfl (lv_at hl 5 rfl) ?_
                refine lz_get (G := G) (ci := 3) (v := .ref (q 7)) (C := RX3) (T := TX3) (N := 13) hx hb hu_wsX30 (fun _ h9 => h9) hown hK hP 0 rfl rfl 7 (by decide) hw5 rfl rfl dX3_drawn_117 ?_
                refine lv_iload hx hb dX3_drawn_120 (lv_at hl 1 rfl) ?_
                refine lv_iload hx hb dX3_drawn_122 (lv_at hl 0 rfl) ?_
                have hPc := hP.sub (ws' := lzDoor G (q 7) qs (tfS D DS) (drwF (tfS D DS) (tfF F FS) sd N M k)) [12, 13, 14, 15, 16, 17, 18, 19, 20, 21, 22] rfl
                have hDc := hD.sub (ws' := lzDoor G (q 7) qs (tfS D DS) (drwF (tfS D DS) (tfF F FS) sd N M k)) [12, 13, 14, 15, 16, 17, 18, 19, 20, 21, 22] (by decide) rfl
                have hFc : ∀ zz : Nat, lzA (lzDoor G (q 7) qs (tfS D DS) (drwF (tfS D DS) (tfF F FS) sd N M k)) zz → A zz := lz_free hD [12, 13, 14, 15, 16, 17, 18, 19, 20, 21, 22] rfl
                refine va_calli (va_runV (As := [.int (nI (drwV sd M k)), .int (drwQ sd N k)]) (rest := []) ⟨hx, hb, hml, hown, hts⟩ (c_X1_putTo l G (q 7) qs (tfS D DS) (drwF (tfS D DS) (tfF F FS) sd N M k) (drwV sd M k) (drwQ sd N k) N (Nat.lt_of_lt_of_le (Nat.mod_lt _ hM0) hM5) (hN) (hN8)) (cwV 2 hts gX3_drawn_X1_putTo rfl rfl rfl (by decide +kernel) ⟨Nat.le_of_ble_eq_true rfl, Nat.le_of_ble_eq_true rfl⟩) (rw_preV hK hPc hDc hP (ci := 1) (q0 := 12) rfl rfl) rfl rfl hl.1 rfl (lv_room (Nat.le_of_ble_eq_true rfl)) dX3_drawn_124 ⟨Nat.zero_le _, Nat.zero_le _⟩) hS (fun q _ h => hFc q h) hFc (fun r_9 u_10 t9 H1 locs ht hvm hr_9 hB hz1 hk1 hS => ?_)
                replace hB : va_P G.1 lzC _ t9.heap := hB
                rw [ht] at hB
                obtain ⟨hP, hD⟩ := lz_join (wc := lzDoor G (q 7) qs (tfS D DS) (drwF (tfS D DS) (tfF F FS) sd N M k)) (wr := ([(x, .inr (3, [.ref (q 0), .ref (q 1), .ref (q 2), .int (S 3), .ref (q 4), .int (S 5), .ref (q 6), .ref (q 7), .ref (q 8), .ref (q 9), .ref (q 10), .int (S 11), .ref (q 12)])), (q 6, .inr (1, [.int (D 0), .int (D 1), .int (D 2), .int (D 3), .ref (qh 4), .ref (qh 5), .ref (qh 6), .ref (qh 7), .ref (qh 8), .ref (qh 9), .ref (qh 10), .ref (qh 11), .ref (qh 12), .ref (qh 13)])), (qh 4, .inl (G.2 0, 8, .inl (F 4))), (qh 5, .inl (G.2 0, 8, .inl (F 5))), (qh 6, .inl (G.2 0, 8, .inl (F 6))), (qh 7, .inl (G.2 0, 8, .inl (F 7))), (qh 8, .inl (G.2 0, 8, .inl (F 8))), (qh 9, .inl (G.2 0, 5, .inl (F 9))), (qh 10, .inl (G.2 0, 5, .inl (F 10))), (qh 11, .inl (G.2 0, 5, .inl (F 11))), (qh 12, .inl (G.2 0, 5, .inl (F 12))), (qh 13, .inl (G.2 0, 5, .inl (F 13)))] : va_W)) (w1 := lzDoor G (q 7) qs (tfS D DS) (putF (tfS D DS) (drwF (tfS D DS) (tfF F FS) sd N M k) (drwV sd M k) (drwQ sd N k) N)) hP hD [12, 13, 14, 15, 16, 17, 18, 19, 20, 21, 22] [0, 1, 2, 3, 4, 5, 6, 7, 8, 9, 10, 11] rfl rfl (by decide) (by decide) rfl hk1 hB
                replace hP := hP.sub (ws' := (lzX x q S ++ (lzDoor G (q 6) qh D F ++ (lzDoor G (q 7) qs (tfS D DS) (putF (tfS D DS) (drwF (tfS D DS) (tfF F FS) sd N M k) (drwV sd M k) (drwQ sd N k) N))))) [0, 1, 2, 3, 4, 5, 6, 7, 8, 9, 10, 11, 12, 13, 14, 15, 16, 17, 18, 19, 20, 21, 22] rfl
                replace hD := hD.sub (ws' := (lzX x q S ++ (lzDoor G (q 6) qh D F ++ (lzDoor G (q 7) qs (tfS D DS) (putF (tfS D DS) (drwF (tfS D DS) (tfF F FS) sd N M k) (drwV sd M k) (drwQ sd N k) N))))) [0, 1, 2, 3, 4, 5, 6, 7, 8, 9, 10, 11, 12, 13, 14, 15, 16, 17, 18, 19, 20, 21, 22] (by decide) rfl
                clear ht hvm hB hz1 hk1
                generalize H1 = H at hP hS ⊢
                refine lv_if_eq (tgt := 133) hx hb dX3_drawn_127 (by decide) (fun c_127 => ?_) (fun c_127 => ?_)
                · skip
                  have c_127 := b2_z hr_9 c_127
                  refine lv_iinc (v := nI (k + 1)) (lv' := [(7, .int (nI (k + 1))), (9, .int (drwQ sd N k)), (8, .int (nI (drwV sd M k))), (5, .long (lN (lcgN sd (k + 1)))), (4, .int (cntI (drwB (tfS D DS) (tfF F FS) sd N M) k)), (0, .ref x), (1, .int (nI n)), (2, .int (nI sd)), (3, .int what)]) hx hb dX3_drawn_133 hl (k := 4) rfl (nI_1 _) (by decide) rfl (fun ls hl => ?_)
                  refine lv_goto (tgt := 67) hx hb dX3_drawn_136 (by decide) ?_
                  rw [show (cntI (drwB (tfS D DS) (tfF F FS) sd N M) k : Int32) = cntI (drwB (tfS D DS) (tfF F FS) sd N M) (k + 1) from by have hq := c_127; simp [cntI, b2, drwB, hq]] at hl
                  have hE_11 : putF (tfS D DS) (drwF (tfS D DS) (tfF F FS) sd N M k) (drwV sd M k) (drwQ sd N k) N = drwF (tfS D DS) (tfF F FS) sd N M (k + 1) := rfl
                  replace hP : va_P G.1 lzC (lzX x q S ++ (lzDoor G (q 6) qh D F ++ (lzDoor G (q 7) qs (tfS D DS) (drwF (tfS D DS) (tfF F FS) sd N M (k + 1))))) H := by rw [← hE_11]; exact hP
                  replace hD : va_D A (lzX x q S ++ (lzDoor G (q 6) qh D F ++ (lzDoor G (q 7) qs (tfS D DS) (drwF (tfS D DS) (tfF F FS) sd N M (k + 1))))) := by rw [← hE_11]; exact hD
                  exact ih_67 (k + 1) (by omega) (by omega) _ _ hP hD hS _ (lv_sub hl [4, 3, 0, 5, 6, 7, 8] rfl)
                · skip
                  have c_127 := b2_n hr_9 c_127
                  obtain ⟨x_12, ex_12⟩ : ∃ y : Int32, y = (cntI (drwB (tfS D DS) (tfF F FS) sd N M) k) + 1 := ⟨_, rfl⟩
                  refine lv_iinc (v := x_12) (lv' := [(4, .int x_12), (9, .int (drwQ sd N k)), (8, .int (nI (drwV sd M k))), (5, .long (lN (lcgN sd (k + 1)))), (7, .int (nI k)), (0, .ref x), (1, .int (nI n)), (2, .int (nI sd)), (3, .int what)]) hx hb dX3_drawn_130 hl (k := 3) rfl (by rw [ex_12]; rfl) (by decide) rfl (fun ls hl => ?_)
                  refine lv_iinc (v := nI (k + 1)) (lv' := [(7, .int (nI (k + 1))), (4, .int x_12), (9, .int (drwQ sd N k)), (8, .int (nI (drwV sd M k))), (5, .long (lN (lcgN sd (k + 1)))), (0, .ref x), (1, .int (nI n)), (2, .int (nI sd)), (3, .int what)]) hx hb dX3_drawn_133 hl (k := 4) rfl (nI_1 _) (by decide) rfl (fun ls hl => ?_)
                  refine lv_goto (tgt := 67) hx hb dX3_drawn_136 (by decide) ?_
                  obtain rfl : x_12 = cntI (drwB (tfS D DS) (tfF F FS) sd N M) (k + 1) := by rw [ex_12]; have hq := c_127; simp [cntI, b2, drwB, hq]
                  have hE_13 : putF (tfS D DS) (drwF (tfS D DS) (tfF F FS) sd N M k) (drwV sd M k) (drwQ sd N k) N = drwF (tfS D DS) (tfF F FS) sd N M (k + 1) := rfl
                  replace hP : va_P G.1 lzC (lzX x q S ++ (lzDoor G (q 6) qh D F ++ (lzDoor G (q 7) qs (tfS D DS) (drwF (tfS D DS) (tfF F FS) sd N M (k + 1))))) H := by rw [← hE_13]; exact hP
                  replace hD : va_D A (lzX x q S ++ (lzDoor G (q 6) qh D F ++ (lzDoor G (q 7) qs (tfS D DS) (drwF (tfS D DS) (tfF F FS) sd N M (k + 1))))) := by rw [← hE_13]; exact hD
                  exact ih_67 (k + 1) (by omega) (by omega) _ _ hP hD hS _ (lv_sub hl [1, 4, 0, 5, 6, 7, 8] rfl)
          rw [show (0 : Int32) = cntI (drwB (tfS D DS) (tfF F FS) sd N M) 0 from rfl] at hl
          have hE_14 : lzF (lzF (lzF (lzF (lzF (lzF (lzF (lzF (lzF FS 4 (va_cpy ((F 4)) ((FS 4)) 0 0 8)) 5 (va_cpy ((F 5)) ((FS 5)) 0 0 8)) 6 (va_cpy ((F 6)) ((FS 6)) 0 0 8)) 7 (va_cpy ((F 7)) ((FS 7)) 0 0 8)) 8 (va_cpy ((F 8)) ((FS 8)) 0 0 8)) 9 (va_cpy ((F 9)) ((FS 9)) 0 0 5)) 10 (va_cpy ((F 10)) ((FS 10)) 0 0 5)) 11 (va_cpy ((F 11)) ((FS 11)) 0 0 5)) 12 (va_cpy ((F 12)) ((FS 12)) 0 0 5) = drwF (tfS D DS) (tfF F FS) sd N M 0 := rfl
          have hE_15 : upd (upd (upd (upd DS 0 (D 0)) 1 (D 1)) 2 (D 2)) 3 (D 3) = (tfS D DS) := rfl
          replace hP : va_P G.1 lzC (lzX x q S ++ (lzDoor G (q 6) qh D F ++ (lzDoor G (q 7) qs (tfS D DS) (drwF (tfS D DS) (tfF F FS) sd N M 0)))) H := by rw [← hE_14, ← hE_15]; exact hP
          replace hD : va_D A (lzX x q S ++ (lzDoor G (q 6) qh D F ++ (lzDoor G (q 7) qs (tfS D DS) (drwF (tfS D DS) (tfF F FS) sd N M 0)))) := by rw [← hE_14, ← hE_15]; exact hD
          exact J_67 _ 0 (by omega) (Nat.lt_succ_self _) _ _ hP hD hS _ (lv_sub hl [2, 1, 0, 3, 4, 5, 6] rfl)
        · skip
          have c_40 := b2_z hr_4 c_40
          exact Bool.noConfusion (hw.symm.trans c_40)
  · skip
    have c_7 := b2_z hr_1 c_7
    exact Bool.noConfusion (hR.symm.trans c_7)
set_option maxHeartbeats 4000000 in
set_option maxRecDepth 100000 in
theorem c_X3_slip_bad (l : Launch) (G : lzG) (x : Nat) (q : Nat → Nat) (S : Nat → Int32) (qh : Nat → Nat) (D : Nat → Int32) (F : Nat → Nat → Int32) (a set odd what : Int32) (hbad : (inR a 0 (D 3 - 1) && inR set 0 ((1 <<< (D 2 &&& 31)) - 1) && inR odd 0 10 && inR what 0 1) = false) : Met l yX3_slip wsX3_slip ({ frames := 2, cells := 0, slots := 0, locals := 43 }) (va_Pc [.ref x, .int a, .int set, .int odd, .int what] (roP G (lzX x q S ++ lzDoor G (q 6) qh D F))) (vp_Sl (fun r => r = -1000001)) 0 0 (fun _ => False) := by
  refine ro_start (cc := cX3_slip) (maxL := 9) (ret := (some .long)) (by decide) rfl (Nat.le_of_ble_eq_true rfl) ?_
  intro pp ee ss mm bl me cd hx hb hr hlk hml hts hown hP hK ls hl
  have hown : ss.vm.findClass RX3 = some mm.cls := hown
  have hw1 := hts (.fieldLink RX3 38 "LampSquares" "here" "LLampSquares$Door;") (List.mem_of_getElem? (i := 1) rfl)
  have hw2 := hts (.constantLong RX3 256 (-1000001)) (List.mem_of_getElem? (i := 2) rfl)
  have hu_wsX30 : ∀ w ∈ wsX30, w.before ([.ref x, .int a, .int set, .int odd, .int what] : List Value).toArray ss = true := fun w h9 => hts w (List.mem_cons_of_mem _ (List.mem_append_left _ (List.mem_append_right _ h9)))
  have hl : lv_has ls 9 [(0, .ref x), (1, .int a), (2, .int set), (3, .int odd), (4, .int what)] := hl
  refine lv_aload_n hx hb dX3_slip_0 rfl (lv_at hl 0 rfl) ?_
  refine lz_get (G := G) (ci := 3) (v := .ref (q 6)) (C := RX3) (T := TX3) (N := 13) hx hb hu_wsX30 (fun _ h9 => h9) hown hK hP 0 rfl rfl 6 (by decide) hw1 rfl rfl dX3_slip_1 ?_
  refine lv_iload_n hx hb dX3_slip_4 rfl (lv_at hl 1 rfl) ?_
  have hPc := hP.sub (ws' := lzDoor G (q 6) qh D F) [1, 2, 3, 4, 5, 6, 7, 8, 9, 10, 11] rfl
  refine ro_calli (va_runV (As := [.int a]) (rest := []) ⟨hx, hb, hml, hown, hts⟩ (c_X1_isVisitor l G (q 6) qh D F a ) (cwV 1 hts gX3_slip_X1_isVisitor rfl rfl rfl (by decide +kernel) ⟨Nat.le_of_ble_eq_true rfl, Nat.le_of_ble_eq_true rfl⟩) (ro_preV hK hPc hP (ci := 1) (q0 := 1) rfl rfl) rfl rfl hl.1 rfl (lv_room (Nat.le_of_ble_eq_true rfl)) dX3_slip_5 ⟨Nat.zero_le _, Nat.zero_le _⟩) (fun r_1 hr_1 => ?_)
  refine lv_if_eq (tgt := 42) hx hb dX3_slip_8 (by decide) (fun c_8 => ?_) (fun c_8 => ?_)
  · skip
    have c_8 := b2_z hr_1 c_8
    refine lv_ldc2 hx hb hown hw2 dX3_slip_42 ?_
    exact ro_lret hx hb hr hlk dX3_slip_45 (rfl)
  · skip
    have c_8 := b2_n hr_1 c_8
    refine lv_aload_n hx hb dX3_slip_11 rfl (lv_at hl 0 rfl) ?_
    refine lz_get (G := G) (ci := 3) (v := .ref (q 6)) (C := RX3) (T := TX3) (N := 13) hx hb hu_wsX30 (fun _ h9 => h9) hown hK hP 0 rfl rfl 6 (by decide) hw1 rfl rfl dX3_slip_12 ?_
    refine lv_iload_n hx hb dX3_slip_15 rfl (lv_at hl 2 rfl) ?_
    have hPc := hP.sub (ws' := lzDoor G (q 6) qh D F) [1, 2, 3, 4, 5, 6, 7, 8, 9, 10, 11] rfl
    refine ro_calli (va_runV (As := [.int set]) (rest := []) ⟨hx, hb, hml, hown, hts⟩ (c_X1_areSquares l G (q 6) qh D F set ) (cwV 1 hts gX3_slip_X1_areSquares rfl rfl rfl (by decide +kernel) ⟨Nat.le_of_ble_eq_true rfl, Nat.le_of_ble_eq_true rfl⟩) (ro_preV hK hPc hP (ci := 1) (q0 := 1) rfl rfl) rfl rfl hl.1 rfl (lv_room (Nat.le_of_ble_eq_true rfl)) dX3_slip_16 ⟨Nat.zero_le _, Nat.zero_le _⟩) (fun r_2 hr_2 => ?_)
    refine lv_if_eq (tgt := 42) hx hb dX3_slip_19 (by decide) (fun c_19 => ?_) (fun c_19 => ?_)
    · skip
      have c_19 := b2_z hr_2 c_19
      refine lv_ldc2 hx hb hown hw2 dX3_slip_42 ?_
      exact ro_lret hx hb hr hlk dX3_slip_45 (rfl)
    · skip
      have c_19 := b2_n hr_2 c_19
      refine lv_iload_n hx hb dX3_slip_22 rfl (lv_at hl 3 rfl) ?_
      refine lv_iconst (v := 0) hx hb dX3_slip_23 (by decide) ?_
      refine lv_bipush (v := 10) hx hb dX3_slip_24 (by decide) ?_
      refine ro_calli (va_runS (As := [.int odd, .int 0, .int 10]) (rest := []) ⟨hx, hb, hml, hown, hts⟩ (c_X3_isIn l G odd 0 10 ) (cwS 3 hts gX3_slip_X3_isIn rfl rfl rfl (by decide +kernel) ⟨Nat.le_of_ble_eq_true rfl, Nat.le_of_ble_eq_true rfl⟩) (ro_pre hK (fun k q h => by simp at h)) rfl rfl hl.1 rfl (lv_room (Nat.le_of_ble_eq_true rfl)) dX3_slip_26 ⟨Nat.zero_le _, Nat.zero_le _⟩) (fun r_3 hr_3 => ?_)
      refine lv_if_eq (tgt := 42) hx hb dX3_slip_29 (by decide) (fun c_29 => ?_) (fun c_29 => ?_)
      · skip
        have c_29 := b2_z hr_3 c_29
        refine lv_ldc2 hx hb hown hw2 dX3_slip_42 ?_
        exact ro_lret hx hb hr hlk dX3_slip_45 (rfl)
      · skip
        have c_29 := b2_n hr_3 c_29
        refine lv_iload hx hb dX3_slip_32 (lv_at hl 4 rfl) ?_
        refine lv_iconst (v := 0) hx hb dX3_slip_34 (by decide) ?_
        refine lv_iconst (v := 1) hx hb dX3_slip_35 (by decide) ?_
        refine ro_calli (va_runS (As := [.int what, .int 0, .int 1]) (rest := []) ⟨hx, hb, hml, hown, hts⟩ (c_X3_isIn l G what 0 1 ) (cwS 3 hts gX3_slip_X3_isIn rfl rfl rfl (by decide +kernel) ⟨Nat.le_of_ble_eq_true rfl, Nat.le_of_ble_eq_true rfl⟩) (ro_pre hK (fun k q h => by simp at h)) rfl rfl hl.1 rfl (lv_room (Nat.le_of_ble_eq_true rfl)) dX3_slip_36 ⟨Nat.zero_le _, Nat.zero_le _⟩) (fun r_4 hr_4 => ?_)
        refine lv_if_ne (tgt := 46) hx hb dX3_slip_39 (by decide) (fun c_39 => ?_) (fun c_39 => ?_)
        · skip
          have c_39 := b2_n hr_4 c_39
          exact Bool.noConfusion (hbad.symm.trans (by rw [c_8, c_19, c_29, c_39] <;> rfl))
        · skip
          have c_39 := b2_z hr_4 c_39
          refine lv_ldc2 hx hb hown hw2 dX3_slip_42 ?_
          exact ro_lret hx hb hr hlk dX3_slip_45 (rfl)
set_option maxHeartbeats 4000000 in
set_option maxRecDepth 100000 in
theorem c_X3_slip_ok (l : Launch) (G : lzG) (x : Nat) (q : Nat → Nat) (S : Nat → Int32) (qh : Nat → Nat) (D : Nat → Int32) (F : Nat → Nat → Int32) (cs : Nat → Int64) (v : Nat) (set : Int32) (P : Nat) (what : Int32) (N M T E : Nat) (hN : D 2 = nI N) (hN8 : N ≤ 8) (hM : D 3 = nI M) (hM5 : M ≤ 5) (hv : v < M) (hset : inR set 0 ((1 <<< (D 2 &&& 31)) - 1) = true) (hPt : P ≤ 10) (hb3 : inR (nI P) 0 10 = true) (hw : inR what 0 1 = true) (hT : D 1 = nI T) (hT8 : T ≤ 8) (hE : bcI (set &&& bitsI (cntD F) N) = nI E) (hE8 : E ≤ 8) : Met l yX3_slip wsX3_slip ({ frames := 4, cells := 0, slots := 0, locals := 90 }) (va_Pc [.ref x, .int (nI v), .int set, .int (nI P), .int what] (rwP G (lzX x q S ++ (lzDoor G (q 6) qh D F ++ (lzL G (q 12) 9 cs))))) (va_Ql (S := Unit) (fun (r : Int64) (_ : Unit) => r = if what = 0 then (lowL (lN (sumN (csN P (hasI (set &&& bitsI (cntD F) N)) (hasI (wrbD D F v N)) 8) (T + 1))) (powL E) 8).1 else (lowL (lN (sumN (csN P (hasI (set &&& bitsI (cntD F) N)) (hasI (wrbD D F v N)) 8) (T + 1))) (powL E) 8).2) (rwB G (fun _ : Unit => (lzX x q S ++ (lzDoor G (q 6) qh D F ++ (lzL G (q 12) 9 (arrW cs (csN P (hasI (set &&& bitsI (cntD F) N)) (hasI (wrbD D F v N)) 8))))))) (lzA (lzX x q S ++ (lzDoor G (q 6) qh D F ++ (lzL G (q 12) 9 cs))))) 0 0 (lzA (lzX x q S ++ (lzDoor G (q 6) qh D F ++ (lzL G (q 12) 9 cs)))) := by
  have hA : inR (nI v) 0 (D 3 - 1) = true := inR_ok hM hv (by omega)
  refine rw_start (S := Unit) (cc := cX3_slip) (maxL := 9) (ret := (some .long)) (by decide) rfl (Nat.le_of_ble_eq_true rfl) ?_
  intro pp ee ss mm bl me cd A hx hb hr hlk hml hts hown hP hK hD hAe hS ls hl
  have hA0 : ∀ zz : Nat, lzA (lzX x q S ++ (lzDoor G (q 6) qh D F ++ (lzL G (q 12) 9 cs))) zz → A zz := fun zz h9 => by rw [hAe]; exact h9
  rw [← hAe]
  clear hAe
  have hown : ss.vm.findClass RX3 = some mm.cls := hown
  have hw1 := hts (.fieldLink RX3 38 "LampSquares" "here" "LLampSquares$Door;") (List.mem_of_getElem? (i := 1) rfl)
  have hw3 := hts (.fieldLink RX3 158 "LampSquares$Door" "strict" "I") (List.mem_of_getElem? (i := 3) rfl)
  have hw4 := hts (.fieldLink RX3 62 "LampSquares" "cases" "[J") (List.mem_of_getElem? (i := 4) rfl)
  have hu_wsX10 : ∀ w ∈ wsX10, w.before ([.ref x, .int (nI v), .int set, .int (nI P), .int what] : List Value).toArray ss = true := fun w h9 => hts w (List.mem_cons_of_mem _ (List.mem_append_right _ h9))
  have hu_wsX30 : ∀ w ∈ wsX30, w.before ([.ref x, .int (nI v), .int set, .int (nI P), .int what] : List Value).toArray ss = true := fun w h9 => hts w (List.mem_cons_of_mem _ (List.mem_append_left _ (List.mem_append_right _ h9)))
  have hl : lv_has ls 9 [(0, .ref x), (1, .int (nI v)), (2, .int set), (3, .int (nI P)), (4, .int what)] := hl
  refine lv_aload_n hx hb dX3_slip_0 rfl (lv_at hl 0 rfl) ?_
  refine lz_get (G := G) (ci := 3) (v := .ref (q 6)) (C := RX3) (T := TX3) (N := 13) hx hb hu_wsX30 (fun _ h9 => h9) hown hK hP 0 rfl rfl 6 (by decide) hw1 rfl rfl dX3_slip_1 ?_
  refine lv_iload_n hx hb dX3_slip_4 rfl (lv_at hl 1 rfl) ?_
  have hPc := hP.sub (ws' := lzDoor G (q 6) qh D F) [1, 2, 3, 4, 5, 6, 7, 8, 9, 10, 11] rfl
  refine ro_calli (va_runV (As := [.int (nI v)]) (rest := []) ⟨hx, hb, hml, hown, hts⟩ (c_X1_isVisitor l G (q 6) qh D F (nI v) ) (cwV 1 hts gX3_slip_X1_isVisitor rfl rfl rfl (by decide +kernel) ⟨Nat.le_of_ble_eq_true rfl, Nat.le_of_ble_eq_true rfl⟩) (ro_preV hK hPc hP (ci := 1) (q0 := 1) rfl rfl) rfl rfl hl.1 rfl (lv_room (Nat.le_of_ble_eq_true rfl)) dX3_slip_5 ⟨Nat.zero_le _, Nat.zero_le _⟩) (fun r_1 hr_1 => ?_)
  refine lv_if_eq (tgt := 42) hx hb dX3_slip_8 (by decide) (fun c_8 => ?_) (fun c_8 => ?_)
  · skip
    have c_8 := b2_z hr_1 c_8
    exact Bool.noConfusion (hA.symm.trans c_8)
  · skip
    have c_8 := b2_n hr_1 c_8
    refine lv_aload_n hx hb dX3_slip_11 rfl (lv_at hl 0 rfl) ?_
    refine lz_get (G := G) (ci := 3) (v := .ref (q 6)) (C := RX3) (T := TX3) (N := 13) hx hb hu_wsX30 (fun _ h9 => h9) hown hK hP 0 rfl rfl 6 (by decide) hw1 rfl rfl dX3_slip_12 ?_
    refine lv_iload_n hx hb dX3_slip_15 rfl (lv_at hl 2 rfl) ?_
    have hPc := hP.sub (ws' := lzDoor G (q 6) qh D F) [1, 2, 3, 4, 5, 6, 7, 8, 9, 10, 11] rfl
    refine ro_calli (va_runV (As := [.int set]) (rest := []) ⟨hx, hb, hml, hown, hts⟩ (c_X1_areSquares l G (q 6) qh D F set ) (cwV 1 hts gX3_slip_X1_areSquares rfl rfl rfl (by decide +kernel) ⟨Nat.le_of_ble_eq_true rfl, Nat.le_of_ble_eq_true rfl⟩) (ro_preV hK hPc hP (ci := 1) (q0 := 1) rfl rfl) rfl rfl hl.1 rfl (lv_room (Nat.le_of_ble_eq_true rfl)) dX3_slip_16 ⟨Nat.zero_le _, Nat.zero_le _⟩) (fun r_2 hr_2 => ?_)
    refine lv_if_eq (tgt := 42) hx hb dX3_slip_19 (by decide) (fun c_19 => ?_) (fun c_19 => ?_)
    · skip
      have c_19 := b2_z hr_2 c_19
      exact Bool.noConfusion (hset.symm.trans c_19)
    · skip
      have c_19 := b2_n hr_2 c_19
      refine lv_iload_n hx hb dX3_slip_22 rfl (lv_at hl 3 rfl) ?_
      refine lv_iconst (v := 0) hx hb dX3_slip_23 (by decide) ?_
      refine lv_bipush (v := 10) hx hb dX3_slip_24 (by decide) ?_
      refine ro_calli (va_runS (As := [.int (nI P), .int 0, .int 10]) (rest := []) ⟨hx, hb, hml, hown, hts⟩ (c_X3_isIn l G (nI P) 0 10 ) (cwS 3 hts gX3_slip_X3_isIn rfl rfl rfl (by decide +kernel) ⟨Nat.le_of_ble_eq_true rfl, Nat.le_of_ble_eq_true rfl⟩) (ro_pre hK (fun k q h => by simp at h)) rfl rfl hl.1 rfl (lv_room (Nat.le_of_ble_eq_true rfl)) dX3_slip_26 ⟨Nat.zero_le _, Nat.zero_le _⟩) (fun r_3 hr_3 => ?_)
      refine lv_if_eq (tgt := 42) hx hb dX3_slip_29 (by decide) (fun c_29 => ?_) (fun c_29 => ?_)
      · skip
        have c_29 := b2_z hr_3 c_29
        exact Bool.noConfusion (hb3.symm.trans c_29)
      · skip
        have c_29 := b2_n hr_3 c_29
        refine lv_iload hx hb dX3_slip_32 (lv_at hl 4 rfl) ?_
        refine lv_iconst (v := 0) hx hb dX3_slip_34 (by decide) ?_
        refine lv_iconst (v := 1) hx hb dX3_slip_35 (by decide) ?_
        refine ro_calli (va_runS (As := [.int what, .int 0, .int 1]) (rest := []) ⟨hx, hb, hml, hown, hts⟩ (c_X3_isIn l G what 0 1 ) (cwS 3 hts gX3_slip_X3_isIn rfl rfl rfl (by decide +kernel) ⟨Nat.le_of_ble_eq_true rfl, Nat.le_of_ble_eq_true rfl⟩) (ro_pre hK (fun k q h => by simp at h)) rfl rfl hl.1 rfl (lv_room (Nat.le_of_ble_eq_true rfl)) dX3_slip_36 ⟨Nat.zero_le _, Nat.zero_le _⟩) (fun r_4 hr_4 => ?_)
        refine lv_if_ne (tgt := 46) hx hb dX3_slip_39 (by decide) (fun c_39 => ?_) (fun c_39 => ?_)
        · skip
          have c_39 := b2_n hr_4 c_39
          refine lv_iload_n hx hb dX3_slip_46 rfl (lv_at hl 2 rfl) ?_
          refine lv_aload_n hx hb dX3_slip_47 rfl (lv_at hl 0 rfl) ?_
          refine lz_get (G := G) (ci := 3) (v := .ref (q 6)) (C := RX3) (T := TX3) (N := 13) hx hb hu_wsX30 (fun _ h9 => h9) hown hK hP 0 rfl rfl 6 (by decide) hw1 rfl rfl dX3_slip_48 ?_
          have hPc := hP.sub (ws' := lzDoor G (q 6) qh D F) [1, 2, 3, 4, 5, 6, 7, 8, 9, 10, 11] rfl
          refine ro_calli (va_runV (As := []) (rest := [.int set]) ⟨hx, hb, hml, hown, hts⟩ (c_X1_countedBits l G (q 6) qh D F N (hN) (hN8)) (cwV 0 hts gX3_slip_X1_countedBits rfl rfl rfl (by decide +kernel) ⟨Nat.le_of_ble_eq_true rfl, Nat.le_of_ble_eq_true rfl⟩) (ro_preV hK hPc hP (ci := 1) (q0 := 1) rfl rfl) rfl rfl hl.1 rfl (lv_room (Nat.le_of_ble_eq_true rfl)) dX3_slip_51 ⟨Nat.zero_le _, Nat.zero_le _⟩) (fun r_5 hr_5 => ?_)
          refine lz_top (y := bitsI (cntD F) N) hr_5 ?_
          refine lv_iand hx hb dX3_slip_54 ?_
          refine lv_istore (lv' := [(5, .int (set &&& (bitsI (cntD F) N))), (0, .ref x), (1, .int (nI v)), (2, .int set), (3, .int (nI P)), (4, .int what)]) hx hb dX3_slip_55 hl (by decide) rfl (fun ls hl => ?_)
          refine lv_aload_n hx hb dX3_slip_57 rfl (lv_at hl 1 rfl) ?_
          refine lv_iload hx hb dX3_slip_58 (lv_at hl 0 rfl) ?_
          refine lv_aload_n hx hb dX3_slip_60 rfl (lv_at hl 1 rfl) ?_
          refine lz_get (G := G) (ci := 3) (v := .ref (q 6)) (C := RX3) (T := TX3) (N := 13) hx hb hu_wsX30 (fun _ h9 => h9) hown hK hP 0 rfl rfl 6 (by decide) hw1 rfl rfl dX3_slip_61 ?_
          refine lv_iload_n hx hb dX3_slip_64 rfl (lv_at hl 2 rfl) ?_
          have hPc := hP.sub (ws' := lzDoor G (q 6) qh D F) [1, 2, 3, 4, 5, 6, 7, 8, 9, 10, 11] rfl
          refine ro_calli (va_runV (As := [.int (nI v)]) (rest := [.int (set &&& (bitsI (cntD F) N)), .ref x]) ⟨hx, hb, hml, hown, hts⟩ (c_X1_wrongBits l G (q 6) qh D F v N (by omega) (hN) (hN8)) (cwV 1 hts gX3_slip_X1_wrongBits rfl rfl rfl (by decide +kernel) ⟨Nat.le_of_ble_eq_true rfl, Nat.le_of_ble_eq_true rfl⟩) (ro_preV hK hPc hP (ci := 1) (q0 := 1) rfl rfl) rfl rfl hl.1 rfl (lv_room (Nat.le_of_ble_eq_true rfl)) dX3_slip_65 ⟨Nat.zero_le _, Nat.zero_le _⟩) (fun r_6 hr_6 => ?_)
          refine lz_top (y := wrbD D F v N) hr_6 ?_
          refine lv_iload_n hx hb dX3_slip_68 rfl (lv_at hl 4 rfl) ?_
          have hPc := hP.sub (ws' := (lzX x q S ++ lzL G (q 12) 9 cs)) [0, 12] rfl
          have hDc := hD.sub (ws' := (lzX x q S ++ lzL G (q 12) 9 cs)) [0, 12] (by decide) rfl
          have hFc : ∀ zz : Nat, lzA (lzX x q S ++ lzL G (q 12) 9 cs) zz → A zz := lz_free hD [0, 12] rfl
          refine va_callv (va_runV (As := [.int (set &&& (bitsI (cntD F) N)), .int (wrbD D F v N), .int (nI P)]) (rest := []) ⟨hx, hb, hml, hown, hts⟩ (c_X3_spreadCases l G x q S cs (set &&& (bitsI (cntD F) N)) (wrbD D F v N) P (hPt)) (cwV 3 hts gX3_slip_X3_spreadCases rfl rfl rfl (by decide +kernel) ⟨Nat.le_of_ble_eq_true rfl, Nat.le_of_ble_eq_true rfl⟩) (rw_preV hK hPc hDc hP (ci := 3) (q0 := 0) rfl rfl) rfl rfl hl.1 rfl (lv_room (Nat.le_of_ble_eq_true rfl)) dX3_slip_69 ⟨Nat.zero_le _, Nat.zero_le _⟩) hS (fun q _ h => hFc q h) hFc (fun u_8 t9 H1 locs ht hvm hr_7 hB hz1 hk1 hS => ?_)
          replace hB : va_P G.1 lzC _ t9.heap := hB
          rw [ht] at hB
          obtain ⟨hP, hD⟩ := lz_join (wc := (lzX x q S ++ lzL G (q 12) 9 cs)) (wr := ([(q 6, .inr (1, [.int (D 0), .int (D 1), .int (D 2), .int (D 3), .ref (qh 4), .ref (qh 5), .ref (qh 6), .ref (qh 7), .ref (qh 8), .ref (qh 9), .ref (qh 10), .ref (qh 11), .ref (qh 12), .ref (qh 13)])), (qh 4, .inl (G.2 0, 8, .inl (F 4))), (qh 5, .inl (G.2 0, 8, .inl (F 5))), (qh 6, .inl (G.2 0, 8, .inl (F 6))), (qh 7, .inl (G.2 0, 8, .inl (F 7))), (qh 8, .inl (G.2 0, 8, .inl (F 8))), (qh 9, .inl (G.2 0, 5, .inl (F 9))), (qh 10, .inl (G.2 0, 5, .inl (F 10))), (qh 11, .inl (G.2 0, 5, .inl (F 11))), (qh 12, .inl (G.2 0, 5, .inl (F 12))), (qh 13, .inl (G.2 0, 5, .inl (F 13)))] : va_W)) (w1 := (lzX x q S ++ lzL G (q 12) 9 (arrW cs (csN P (hasI (set &&& (bitsI (cntD F) N))) (hasI (wrbD D F v N)) 8)))) hP hD [0, 12] [1, 2, 3, 4, 5, 6, 7, 8, 9, 10, 11] rfl rfl (by decide) (by decide) rfl hk1 hB
          replace hP := hP.sub (ws' := (lzX x q S ++ (lzDoor G (q 6) qh D F ++ (lzL G (q 12) 9 (arrW cs (csN P (hasI (set &&& (bitsI (cntD F) N))) (hasI (wrbD D F v N)) 8)))))) [11, 0, 1, 2, 3, 4, 5, 6, 7, 8, 9, 10, 12] rfl
          replace hD := hD.sub (ws' := (lzX x q S ++ (lzDoor G (q 6) qh D F ++ (lzL G (q 12) 9 (arrW cs (csN P (hasI (set &&& (bitsI (cntD F) N))) (hasI (wrbD D F v N)) 8)))))) [11, 0, 1, 2, 3, 4, 5, 6, 7, 8, 9, 10, 12] (by decide) rfl
          clear ht hvm hB hz1 hk1
          generalize H1 = H at hP hS ⊢
          refine lv_lconst (v := 0) hx hb dX3_slip_72 (by decide) ?_
          refine lv_lstore (lv' := [(6, .long 0), (5, .int (set &&& (bitsI (cntD F) N))), (0, .ref x), (1, .int (nI v)), (2, .int set), (3, .int (nI P)), (4, .int what)]) hx hb dX3_slip_73 hl (by decide) rfl (fun ls hl => ?_)
          refine lv_iconst (v := 0) hx hb dX3_slip_75 (by decide) ?_
          refine lv_istore (lv' := [(8, .int 0), (6, .long 0), (5, .int (set &&& (bitsI (cntD F) N))), (0, .ref x), (1, .int (nI v)), (2, .int set), (3, .int (nI P)), (4, .int what)]) hx hb dX3_slip_76 hl (by decide) rfl (fun ls hl => ?_)
          have J_78 : ∀ (n9 : Nat), ∀ (k : Nat), (k ≤ T + 1) → T + 1 - k < n9 → ∀ (H : Heap) (locs : List Loc), va_P G.1 lzC (lzX x q S ++ (lzDoor G (q 6) qh D F ++ (lzL G (q 12) 9 (arrW cs (csN P (hasI (set &&& (bitsI (cntD F) N))) (hasI (wrbD D F v N)) 8))))) H → va_D A (lzX x q S ++ (lzDoor G (q 6) qh D F ++ (lzL G (q 12) 9 (arrW cs (csN P (hasI (set &&& (bitsI (cntD F) N))) (hasI (wrbD D F v N)) 8))))) → va_S A ss.heap H locs → ∀ ls : Array Slot, lv_has ls 9 [(6, .long (lN (sumN (csN P (hasI (set &&& bitsI (cntD F) N)) (hasI (wrbD D F v N)) 8) k))), (8, .int (nI k)), (5, .int (set &&& (bitsI (cntD F) N))), (0, .ref x), (1, .int (nI v)), (2, .int set), (3, .int (nI P)), (4, .int what)] → W pp l ee ({ frames := 4, cells := 0, slots := 0, locals := 90 }) ss mm ([.ref x, .int (nI v), .int set, .int (nI P), .int what] : List Value).toArray bl me cd H locs 0 0 (MQ bl (va_Ql (S := Unit) (fun (r : Int64) (_ : Unit) => r = if what = 0 then (lowL (lN (sumN (csN P (hasI (set &&& bitsI (cntD F) N)) (hasI (wrbD D F v N)) 8) (T + 1))) (powL E) 8).1 else (lowL (lN (sumN (csN P (hasI (set &&& bitsI (cntD F) N)) (hasI (wrbD D F v N)) 8) (T + 1))) (powL E) 8).2) (rwB G (fun _ : Unit => (lzX x q S ++ (lzDoor G (q 6) qh D F ++ (lzL G (q 12) 9 (arrW cs (csN P (hasI (set &&& bitsI (cntD F) N)) (hasI (wrbD D F v N)) 8))))))) A) ([.ref x, .int (nI v), .int set, .int (nI P), .int what] : List Value).toArray ss 0 0 A) (F0 mm 78 ls []) := by
            intro n9
            induction n9 with
            | zero => intro k hk hn; exact absurd hn (Nat.not_lt_zero _)
            | succ n9 ih_78 =>
              intro k hk hn_78 H locs hP hD hS ls hl
              refine lv_iload hx hb dX3_slip_78 (lv_at hl 1 rfl) ?_
              refine lv_aload_n hx hb dX3_slip_80 rfl (lv_at hl 3 rfl) ?_
              refine lz_get (G := G) (ci := 3) (v := .ref (q 6)) (C := RX3) (T := TX3) (N := 13) hx hb hu_wsX30 (fun _ h9 => h9) hown hK hP 0 rfl rfl 6 (by decide) hw1 rfl rfl dX3_slip_81 ?_
              refine lz_get (G := G) (ci := 1) (v := .int (D 1)) (C := RX1) (T := TX1) (N := 14) hx hb hu_wsX10 (fun _ h9 => h9) hown hK hP 1 rfl rfl 1 (by decide) hw3 rfl rfl dX3_slip_84 ?_
              refine lv_icmp_gt (tgt := 115) hx hb dX3_slip_87 (by decide) (fun c_87 => ?_) (fun c_87 => ?_)
              · skip
                have c_87' := Int32.not_le.mpr c_87
                have hk2 : ¬ k ≤ T := fun h8 => absurd (by rw [hT]; exact nI_le h8 (by omega)) (Int32.not_le.mpr c_87)
                have hk3 : k = T + 1 := by omega
                refine lv_lload hx hb dX3_slip_115 (lv_at hl 0 rfl) ?_
                refine lv_iload hx hb dX3_slip_117 (lv_at hl 2 rfl) ?_
                refine ro_calli (va_runS (As := [.int (set &&& (bitsI (cntD F) N))]) (rest := [.long (lN (sumN (csN P (hasI (set &&& bitsI (cntD F) N)) (hasI (wrbD D F v N)) 8) k))]) ⟨hx, hb, hml, hown, hts⟩ (c_J6_bitCount_0f7a4 l G (set &&& (bitsI (cntD F) N)) ) (va_cwS 1 hts gX3_slip_J6_bitCount_0f7a4 rfl rfl rfl (by decide +kernel) ⟨Nat.le_of_ble_eq_true rfl, Nat.le_of_ble_eq_true rfl⟩) (ro_pre hK (fun k q h => by simp at h)) rfl rfl hl.1 rfl (lv_room (Nat.le_of_ble_eq_true rfl)) dX3_slip_119 ⟨Nat.zero_le _, Nat.zero_le _⟩) (fun r_9 hr_9 => ?_)
                refine lz_top (y := bcI (set &&& (bitsI (cntD F) N))) hr_9 ?_
                refine lz_top (y := nI E) (hE) ?_
                refine ro_calll (va_runS (As := [.int (nI E)]) (rest := [.long (lN (sumN (csN P (hasI (set &&& bitsI (cntD F) N)) (hasI (wrbD D F v N)) 8) k))]) ⟨hx, hb, hml, hown, hts⟩ (c_X3_powerOfTen l G E (hE8)) (cwS 1 hts gX3_slip_X3_powerOfTen rfl rfl rfl (by decide +kernel) ⟨Nat.le_of_ble_eq_true rfl, Nat.le_of_ble_eq_true rfl⟩) (ro_pre hK (fun k q h => by simp at h)) rfl rfl hl.1 rfl (lv_room (Nat.le_of_ble_eq_true rfl)) dX3_slip_122 ⟨Nat.zero_le _, Nat.zero_le _⟩) (fun r_10 hr_10 => ?_)
                refine lz_topl (y := powL E) hr_10 ?_
                refine lv_iload hx hb dX3_slip_125 (lv_at hl 7 rfl) ?_
                refine ro_calll (va_runS (As := [.long (lN (sumN (csN P (hasI (set &&& bitsI (cntD F) N)) (hasI (wrbD D F v N)) 8) k)), .long (powL E), .int what]) (rest := []) ⟨hx, hb, hml, hown, hts⟩ (c_X3_partInLowestTerms l G (lN (sumN (csN P (hasI (set &&& bitsI (cntD F) N)) (hasI (wrbD D F v N)) 8) k)) (powL E) what ) (cwS 3 hts gX3_slip_X3_partInLowestTerms rfl rfl rfl (by decide +kernel) ⟨Nat.le_of_ble_eq_true rfl, Nat.le_of_ble_eq_true rfl⟩) (ro_pre hK (fun k q h => by simp at h)) rfl rfl hl.1 rfl (lv_room (Nat.le_of_ble_eq_true rfl)) dX3_slip_127 ⟨Nat.zero_le _, Nat.zero_le _⟩) (fun r_11 hr_11 => ?_)
                refine lz_topl (y := if what = 0 then (lowL (lN (sumN (csN P (hasI (set &&& bitsI (cntD F) N)) (hasI (wrbD D F v N)) 8) k)) (powL E) 8).1 else (lowL (lN (sumN (csN P (hasI (set &&& bitsI (cntD F) N)) (hasI (wrbD D F v N)) 8) k)) (powL E) 8).2) hr_11 ?_
                exact rw_lret (S := Unit) (G := G) (Wd := fun _ : Unit => (lzX x q S ++ (lzDoor G (q 6) qh D F ++ (lzL G (q 12) 9 (arrW cs (csN P (hasI (set &&& bitsI (cntD F) N)) (hasI (wrbD D F v N)) 8)))))) () hx hb hr hlk dX3_slip_130 hS (hP) (by rw [hk3])
              · skip
                have c_87' := Int32.not_lt.mp c_87
                have hk2 : k ≤ T := by have h9 := c_87'; rw [hT] at h9; exact (nI_leI (by omega) (by omega)).mp h9
                refine lv_iload hx hb dX3_slip_90 (lv_at hl 1 rfl) ?_
                refine lv_bipush (v := 8) hx hb dX3_slip_92 (by decide) ?_
                refine lv_icmp_gt (tgt := 115) hx hb dX3_slip_94 (by decide) (fun c_94 => ?_) (fun c_94 => ?_)
                · skip
                  have c_94' := Int32.not_le.mpr c_94
                  have hk8 : 8 < k := (nI_ltI (a := 8) (by decide) (by omega)).mp c_94
                  have hk3 : k = T + 1 := by omega
                  refine lv_lload hx hb dX3_slip_115 (lv_at hl 0 rfl) ?_
                  refine lv_iload hx hb dX3_slip_117 (lv_at hl 2 rfl) ?_
                  refine ro_calli (va_runS (As := [.int (set &&& (bitsI (cntD F) N))]) (rest := [.long (lN (sumN (csN P (hasI (set &&& bitsI (cntD F) N)) (hasI (wrbD D F v N)) 8) k))]) ⟨hx, hb, hml, hown, hts⟩ (c_J6_bitCount_0f7a4 l G (set &&& (bitsI (cntD F) N)) ) (va_cwS 1 hts gX3_slip_J6_bitCount_0f7a4 rfl rfl rfl (by decide +kernel) ⟨Nat.le_of_ble_eq_true rfl, Nat.le_of_ble_eq_true rfl⟩) (ro_pre hK (fun k q h => by simp at h)) rfl rfl hl.1 rfl (lv_room (Nat.le_of_ble_eq_true rfl)) dX3_slip_119 ⟨Nat.zero_le _, Nat.zero_le _⟩) (fun r_12 hr_12 => ?_)
                  refine lz_top (y := bcI (set &&& (bitsI (cntD F) N))) hr_12 ?_
                  refine lz_top (y := nI E) (hE) ?_
                  refine ro_calll (va_runS (As := [.int (nI E)]) (rest := [.long (lN (sumN (csN P (hasI (set &&& bitsI (cntD F) N)) (hasI (wrbD D F v N)) 8) k))]) ⟨hx, hb, hml, hown, hts⟩ (c_X3_powerOfTen l G E (hE8)) (cwS 1 hts gX3_slip_X3_powerOfTen rfl rfl rfl (by decide +kernel) ⟨Nat.le_of_ble_eq_true rfl, Nat.le_of_ble_eq_true rfl⟩) (ro_pre hK (fun k q h => by simp at h)) rfl rfl hl.1 rfl (lv_room (Nat.le_of_ble_eq_true rfl)) dX3_slip_122 ⟨Nat.zero_le _, Nat.zero_le _⟩) (fun r_13 hr_13 => ?_)
                  refine lz_topl (y := powL E) hr_13 ?_
                  refine lv_iload hx hb dX3_slip_125 (lv_at hl 7 rfl) ?_
                  refine ro_calll (va_runS (As := [.long (lN (sumN (csN P (hasI (set &&& bitsI (cntD F) N)) (hasI (wrbD D F v N)) 8) k)), .long (powL E), .int what]) (rest := []) ⟨hx, hb, hml, hown, hts⟩ (c_X3_partInLowestTerms l G (lN (sumN (csN P (hasI (set &&& bitsI (cntD F) N)) (hasI (wrbD D F v N)) 8) k)) (powL E) what ) (cwS 3 hts gX3_slip_X3_partInLowestTerms rfl rfl rfl (by decide +kernel) ⟨Nat.le_of_ble_eq_true rfl, Nat.le_of_ble_eq_true rfl⟩) (ro_pre hK (fun k q h => by simp at h)) rfl rfl hl.1 rfl (lv_room (Nat.le_of_ble_eq_true rfl)) dX3_slip_127 ⟨Nat.zero_le _, Nat.zero_le _⟩) (fun r_14 hr_14 => ?_)
                  refine lz_topl (y := if what = 0 then (lowL (lN (sumN (csN P (hasI (set &&& bitsI (cntD F) N)) (hasI (wrbD D F v N)) 8) k)) (powL E) 8).1 else (lowL (lN (sumN (csN P (hasI (set &&& bitsI (cntD F) N)) (hasI (wrbD D F v N)) 8) k)) (powL E) 8).2) hr_14 ?_
                  exact rw_lret (S := Unit) (G := G) (Wd := fun _ : Unit => (lzX x q S ++ (lzDoor G (q 6) qh D F ++ (lzL G (q 12) 9 (arrW cs (csN P (hasI (set &&& bitsI (cntD F) N)) (hasI (wrbD D F v N)) 8)))))) () hx hb hr hlk dX3_slip_130 hS (hP) (by rw [hk3])
                · skip
                  have c_94' := Int32.not_lt.mp c_94
                  have hk8 : k ≤ 8 := (nI_leI (b := 8) (by omega) (by decide)).mp c_94'
                  refine lv_lload hx hb dX3_slip_97 (lv_at hl 0 rfl) ?_
                  refine lv_aload_n hx hb dX3_slip_99 rfl (lv_at hl 3 rfl) ?_
                  refine lz_get (G := G) (ci := 3) (v := .ref (q 12)) (C := RX3) (T := TX3) (N := 13) hx hb hu_wsX30 (fun _ h9 => h9) hown hK hP 0 rfl rfl 12 (by decide) hw4 rfl rfl dX3_slip_100 ?_
                  refine lv_iload hx hb dX3_slip_103 (lv_at hl 1 rfl) ?_
                  refine lz_lald (f := arrW cs (csN P (hasI (set &&& (bitsI (cntD F) N))) (hasI (wrbD D F v N)) 8)) hx hb hK hP 12 rfl k (by omega) (Nat.le_of_ble_eq_true rfl) dX3_slip_105 ?_
                  refine lv_ladd hx hb dX3_slip_106 ?_
                  refine lv_topl (fun x_15 ex_15 => ?_)
                  refine lv_lstore (lv' := [(6, .long x_15), (8, .int (nI k)), (5, .int (set &&& (bitsI (cntD F) N))), (0, .ref x), (1, .int (nI v)), (2, .int set), (3, .int (nI P)), (4, .int what)]) hx hb dX3_slip_107 hl (by decide) rfl (fun ls hl => ?_)
                  refine lv_iinc (v := nI (k + 1)) (lv' := [(8, .int (nI (k + 1))), (6, .long x_15), (5, .int (set &&& (bitsI (cntD F) N))), (0, .ref x), (1, .int (nI v)), (2, .int set), (3, .int (nI P)), (4, .int what)]) hx hb dX3_slip_109 hl (k := 1) rfl (nI_1 _) (by decide) rfl (fun ls hl => ?_)
                  refine lv_goto (tgt := 78) hx hb dX3_slip_112 (by decide) ?_
                  obtain rfl : x_15 = lN (sumN (csN P (hasI (set &&& bitsI (cntD F) N)) (hasI (wrbD D F v N)) 8) (k + 1)) := by rw [ex_15]; unfold arrW; rw [if_pos (by omega), lN_add]; rfl
                  exact ih_78 (k + 1) (by omega) (by omega) _ _ hP hD hS _ (lv_sub hl [1, 0, 2, 3, 4, 5, 6, 7] rfl)
          rw [show (0 : Int64) = lN (sumN (csN P (hasI (set &&& bitsI (cntD F) N)) (hasI (wrbD D F v N)) 8) 0) from rfl] at hl
          exact J_78 _ 0 (by omega) (Nat.lt_succ_self _) _ _ hP hD hS _ (lv_sub hl [1, 0, 2, 3, 4, 5, 6, 7] rfl)
        · skip
          have c_39 := b2_z hr_4 c_39
          exact Bool.noConfusion (hw.symm.trans c_39)
