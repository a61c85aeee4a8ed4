set_option maxHeartbeats 4000000 in
set_option maxRecDepth 100000 in
theorem c_X3_shares_bad (l : Launch) (G : lzG) (x : Nat) (q : Nat → Nat) (S : Nat → Int32) (qh : Nat → Nat) (D : Nat → Int32) (F : Nat → Nat → Int32) (a b c : Int32) (hbad : (inR a 0 (D 2 - 1) && inR b 0 7) = false) : Met l yX3_shares wsX3_shares ({ frames := 2, cells := 0, slots := 0, locals := 43 }) (va_Pc [.ref x, .int a, .int b, .int c] (roP G (lzX x q S ++ lzDoor G (q 6) qh D F))) (vp_Si (fun r => r = -1000001)) 0 0 (fun _ => False) := by
  refine ro_start (cc := cX3_shares) (maxL := 7) (ret := (some .int)) (by decide) rfl (Nat.le_of_ble_eq_true rfl) ?_
  intro pp ee ss mm bl me cd hx hb hr hlk hml hts hown hP hK ls hl
  have hown : ss.vm.findClass RX3 = some mm.cls := hown
  have hw1 := hts (.fieldLink RX3 38 "LampSquares" "here" "LLampSquares$Door;") (List.mem_of_getElem? (i := 1) rfl)
  have hw2 := hts (.constant RX3 81 (-1000001)) (List.mem_of_getElem? (i := 2) rfl)
  have hu_wsX30 : ∀ w ∈ wsX30, w.before ([.ref x, .int a, .int b, .int c] : List Value).toArray ss = true := fun w h9 => hts w (List.mem_cons_of_mem _ (List.mem_append_left _ (List.mem_append_right _ h9)))
  have hl : lv_has ls 7 [(0, .ref x), (1, .int a), (2, .int b), (3, .int c)] := hl
  refine lv_aload_n hx hb dX3_shares_0 rfl (lv_at hl 0 rfl) ?_
  refine lz_get (G := G) (ci := 3) (v := .ref (q 6)) (C := RX3) (T := TX3) (N := 13) hx hb hu_wsX30 (fun _ h9 => h9) hown hK hP 0 rfl rfl 6 (by decide) hw1 rfl rfl dX3_shares_1 ?_
  refine lv_iload_n hx hb dX3_shares_4 rfl (lv_at hl 1 rfl) ?_
  have hPc := hP.sub (ws' := lzDoor G (q 6) qh D F) [1, 2, 3, 4, 5, 6, 7, 8, 9, 10, 11] rfl
  refine ro_calli (va_runV (As := [.int a]) (rest := []) ⟨hx, hb, hml, hown, hts⟩ (c_X1_isSquare l G (q 6) qh D F a ) (cwV 1 hts gX3_shares_X1_isSquare rfl rfl rfl (by decide +kernel) ⟨Nat.le_of_ble_eq_true rfl, Nat.le_of_ble_eq_true rfl⟩) (ro_preV hK hPc hP (ci := 1) (q0 := 1) rfl rfl) rfl rfl hl.1 rfl (lv_room (Nat.le_of_ble_eq_true rfl)) dX3_shares_5 ⟨Nat.zero_le _, Nat.zero_le _⟩) (fun r_1 hr_1 => ?_)
  refine lv_if_eq (tgt := 18) hx hb dX3_shares_8 (by decide) (fun c_8 => ?_) (fun c_8 => ?_)
  · skip
    have c_8 := b2_z hr_1 c_8
    refine lv_ldc hx hb hown hw2 dX3_shares_18 ?_
    exact ro_iret hx hb hr hlk dX3_shares_20 (rfl)
  · skip
    have c_8 := b2_n hr_1 c_8
    refine lv_iload_n hx hb dX3_shares_11 rfl (lv_at hl 2 rfl) ?_
    refine ro_calli (va_runS (As := [.int b]) (rest := []) ⟨hx, hb, hml, hown, hts⟩ (c_X3_isRow l G b ) (cwS 1 hts gX3_shares_X3_isRow rfl rfl rfl (by decide +kernel) ⟨Nat.le_of_ble_eq_true rfl, Nat.le_of_ble_eq_true rfl⟩) (ro_pre hK (fun k q h => by simp at h)) rfl rfl hl.1 rfl (lv_room (Nat.le_of_ble_eq_true rfl)) dX3_shares_12 ⟨Nat.zero_le _, Nat.zero_le _⟩) (fun r_2 hr_2 => ?_)
    refine lv_if_ne (tgt := 21) hx hb dX3_shares_15 (by decide) (fun c_15 => ?_) (fun c_15 => ?_)
    · skip
      have c_15 := b2_n hr_2 c_15
      exact Bool.noConfusion (hbad.symm.trans (by rw [c_8, c_15] <;> rfl))
    · skip
      have c_15 := b2_z hr_2 c_15
      refine lv_ldc hx hb hown hw2 dX3_shares_18 ?_
      exact ro_iret hx hb hr hlk dX3_shares_20 (rfl)
set_option maxHeartbeats 4000000 in
set_option maxRecDepth 100000 in
theorem c_X3_shares_no (l : Launch) (G : lzG) (x : Nat) (q : Nat → Nat) (S ln : Nat → Int32) (qh : Nat → Nat) (D : Nat → Int32) (F : Nat → Nat → Int32) (rr : Nat) (s N : Nat) (i : Int32) (hrw : rr < 8) (hN : D 2 = nI N) (hN8 : N ≤ 8) (hs : s < N) (hno : ¬ lookV (ln rr) i (D 3) = 0) : Met l yX3_shares wsX3_shares ({ frames := 2, cells := 0, slots := 0, locals := 46 }) (va_Pc [.ref x, .int (nI s), .int (nI rr), .int i] (rwP G (lzX x q S ++ (lzI G (q 2) 8 ln ++ (lzDoor G (q 6) qh D F))))) (va_Qi (S := Unit) (fun (r : Int32) (_ : Unit) => r = lookV (ln rr) i (D 3)) (rwB G (fun _ : Unit => (lzX x q (upd S 3 (lookF (ln rr) i (D 3))) ++ (lzI G (q 2) 8 ln ++ (lzDoor G (q 6) qh D F))))) (lzA (lzX x q S ++ (lzI G (q 2) 8 ln ++ (lzDoor G (q 6) qh D F))))) 0 0 (lzA (lzX x q S ++ (lzI G (q 2) 8 ln ++ (lzDoor G (q 6) qh D F)))) := by
  have hA : inR (nI rr) 0 7 = true := inR_row hrw
  have hB : inR (nI s) 0 (D 2 - 1) = true := inR_ok hN hs (by omega)
  refine rw_start (S := Unit) (cc := cX3_shares) (maxL := 7) (ret := (some .int)) (by decide) rfl (Nat.le_of_ble_eq_true rfl) ?_
  intro pp ee ss mm bl me cd A hx hb hr hlk hml hts hown hP hK hD hAe hS ls hl
  have hA0 : ∀ zz : Nat, lzA (lzX x q S ++ (lzI G (q 2) 8 ln ++ (lzDoor G (q 6) qh D F))) zz → A zz := fun zz h9 => by rw [hAe]; exact h9
  rw [← hAe]
  clear hAe
  have hown : ss.vm.findClass RX3 = some mm.cls := hown
  have hw1 := hts (.fieldLink RX3 38 "LampSquares" "here" "LLampSquares$Door;") (List.mem_of_getElem? (i := 1) rfl)
  have hw3 := hts (.fieldLink RX3 246 "LampSquares$Door" "visitors" "I") (List.mem_of_getElem? (i := 3) rfl)
  have hu_wsX10 : ∀ w ∈ wsX10, w.before ([.ref x, .int (nI s), .int (nI rr), .int i] : List Value).toArray ss = true := fun w h9 => hts w (List.mem_cons_of_mem _ (List.mem_append_right _ h9))
  have hu_wsX30 : ∀ w ∈ wsX30, w.before ([.ref x, .int (nI s), .int (nI rr), .int i] : List Value).toArray ss = true := fun w h9 => hts w (List.mem_cons_of_mem _ (List.mem_append_left _ (List.mem_append_right _ h9)))
  have hl : lv_has ls 7 [(0, .ref x), (1, .int (nI s)), (2, .int (nI rr)), (3, .int i)] := hl
  refine lv_aload_n hx hb dX3_shares_0 rfl (lv_at hl 0 rfl) ?_
  refine lz_get (G := G) (ci := 3) (v := .ref (q 6)) (C := RX3) (T := TX3) (N := 13) hx hb hu_wsX30 (fun _ h9 => h9) hown hK hP 0 rfl rfl 6 (by decide) hw1 rfl rfl dX3_shares_1 ?_
  refine lv_iload_n hx hb dX3_shares_4 rfl (lv_at hl 1 rfl) ?_
  have hPc := hP.sub (ws' := lzDoor G (q 6) qh D F) [2, 3, 4, 5, 6, 7, 8, 9, 10, 11, 12] rfl
  refine ro_calli (va_runV (As := [.int (nI s)]) (rest := []) ⟨hx, hb, hml, hown, hts⟩ (c_X1_isSquare l G (q 6) qh D F (nI s) ) (cwV 1 hts gX3_shares_X1_isSquare rfl rfl rfl (by decide +kernel) ⟨Nat.le_of_ble_eq_true rfl, Nat.le_of_ble_eq_true rfl⟩) (ro_preV hK hPc hP (ci := 1) (q0 := 2) rfl rfl) rfl rfl hl.1 rfl (lv_room (Nat.le_of_ble_eq_true rfl)) dX3_shares_5 ⟨Nat.zero_le _, Nat.zero_le _⟩) (fun r_1 hr_1 => ?_)
  refine lv_if_eq (tgt := 18) hx hb dX3_shares_8 (by decide) (fun c_8 => ?_) (fun c_8 => ?_)
  · skip
    have c_8 := b2_z hr_1 c_8
    exact Bool.noConfusion (hB.symm.trans c_8)
  · skip
    have c_8 := b2_n hr_1 c_8
    refine lv_iload_n hx hb dX3_shares_11 rfl (lv_at hl 2 rfl) ?_
    refine ro_calli (va_runS (As := [.int (nI rr)]) (rest := []) ⟨hx, hb, hml, hown, hts⟩ (c_X3_isRow l G (nI rr) ) (cwS 1 hts gX3_shares_X3_isRow rfl rfl rfl (by decide +kernel) ⟨Nat.le_of_ble_eq_true rfl, Nat.le_of_ble_eq_true rfl⟩) (ro_pre hK (fun k q h => by simp at h)) rfl rfl hl.1 rfl (lv_room (Nat.le_of_ble_eq_true rfl)) dX3_shares_12 ⟨Nat.zero_le _, Nat.zero_le _⟩) (fun r_2 hr_2 => ?_)
    refine lv_if_ne (tgt := 21) hx hb dX3_shares_15 (by decide) (fun c_15 => ?_) (fun c_15 => ?_)
    · skip
      have c_15 := b2_n hr_2 c_15
      refine lv_aload_n hx hb dX3_shares_21 rfl (lv_at hl 0 rfl) ?_
      refine lv_iload_n hx hb dX3_shares_22 rfl (lv_at hl 2 rfl) ?_
      refine lv_iload_n hx hb dX3_shares_23 rfl (lv_at hl 3 rfl) ?_
      refine lv_aload_n hx hb dX3_shares_24 rfl (lv_at hl 0 rfl) ?_
      refine lz_get (G := G) (ci := 3) (v := .ref (q 6)) (C := RX3) (T := TX3) (N := 13) hx hb hu_wsX30 (fun _ h9 => h9) hown hK hP 0 rfl rfl 6 (by decide) hw1 rfl rfl dX3_shares_25 ?_
      refine lz_get (G := G) (ci := 1) (v := .int (D 3)) (C := RX1) (T := TX1) (N := 14) hx hb hu_wsX10 (fun _ h9 => h9) hown hK hP 2 rfl rfl 3 (by decide) hw3 rfl rfl dX3_shares_28 ?_
      have hPc := hP.sub (ws' := (lzX x q S ++ lzI G (q 2) 8 ln)) [0, 1] rfl
      have hDc := hD.sub (ws' := (lzX x q S ++ lzI G (q 2) 8 ln)) [0, 1] (by decide) rfl
      have hFc : ∀ zz : Nat, lzA (lzX x q S ++ lzI G (q 2) 8 ln) zz → A zz := lz_free hD [0, 1] rfl
      refine va_calli (va_runV (As := [.int (nI rr), .int i, .int (D 3)]) (rest := []) ⟨hx, hb, hml, hown, hts⟩ (c_X3_lookAt l G x q S ln rr i (D 3) (hrw)) (cwV 3 hts gX3_shares_X3_lookAt rfl rfl rfl (by decide +kernel) ⟨Nat.le_of_ble_eq_true rfl, Nat.le_of_ble_eq_true rfl⟩) (rw_preV hK hPc hDc hP (ci := 3) (q0 := 0) rfl rfl) rfl rfl hl.1 rfl (lv_room (Nat.le_of_ble_eq_true rfl)) dX3_shares_31 ⟨Nat.zero_le _, Nat.zero_le _⟩) hS (fun q _ h => hFc q h) hFc (fun r_3 u_4 t9 H1 locs ht hvm hr_3 hB hz1 hk1 hS => ?_)
      replace hB : va_P G.1 lzC _ t9.heap := hB
      rw [ht] at hB
      obtain ⟨hP, hD⟩ := lz_join (wc := (lzX x q S ++ lzI G (q 2) 8 ln)) (wr := ([(q 6, .inr (1, [.int (D 0), .int (D 1), .int (D 2), .int (D 3), .ref (qh 4), .ref (qh 5), .ref (qh 6), .ref (qh 7), .ref (qh 8), .ref (qh 9), .ref (qh 10), .ref (qh 11), .ref (qh 12), .ref (qh 13)])), (qh 4, .inl (G.2 0, 8, .inl (F 4))), (qh 5, .inl (G.2 0, 8, .inl (F 5))), (qh 6, .inl (G.2 0, 8, .inl (F 6))), (qh 7, .inl (G.2 0, 8, .inl (F 7))), (qh 8, .inl (G.2 0, 8, .inl (F 8))), (qh 9, .inl (G.2 0, 5, .inl (F 9))), (qh 10, .inl (G.2 0, 5, .inl (F 10))), (qh 11, .inl (G.2 0, 5, .inl (F 11))), (qh 12, .inl (G.2 0, 5, .inl (F 12))), (qh 13, .inl (G.2 0, 5, .inl (F 13)))] : va_W)) (w1 := (lzX x q (upd S 3 (lookF (ln rr) i (D 3))) ++ lzI G (q 2) 8 ln)) hP hD [0, 1] [2, 3, 4, 5, 6, 7, 8, 9, 10, 11, 12] rfl rfl (by decide) (by decide) rfl hk1 hB
      replace hP := hP.sub (ws' := (lzX x q (upd S 3 (lookF (ln rr) i (D 3))) ++ (lzI G (q 2) 8 ln ++ (lzDoor G (q 6) qh D F)))) [11, 12, 0, 1, 2, 3, 4, 5, 6, 7, 8, 9, 10] rfl
      replace hD := hD.sub (ws' := (lzX x q (upd S 3 (lookF (ln rr) i (D 3))) ++ (lzI G (q 2) 8 ln ++ (lzDoor G (q 6) qh D F)))) [11, 12, 0, 1, 2, 3, 4, 5, 6, 7, 8, 9, 10] (by decide) rfl
      clear ht hvm hB hz1 hk1
      generalize H1 = H at hP hS ⊢
      refine lz_top (y := lookV (ln rr) i (D 3)) hr_3 ?_
      refine lv_istore (lv' := [(4, .int (lookV (ln rr) i (D 3))), (0, .ref x), (1, .int (nI s)), (2, .int (nI rr)), (3, .int i)]) hx hb dX3_shares_34 hl (by decide) rfl (fun ls hl => ?_)
      refine lv_iload hx hb dX3_shares_36 (lv_at hl 0 rfl) ?_
      refine lv_if_eq (tgt := 44) hx hb dX3_shares_38 (by decide) (fun c_38 => ?_) (fun c_38 => ?_)
      · skip
        exact absurd c_38 hno
      · skip
        refine lv_iload hx hb dX3_shares_41 (lv_at hl 0 rfl) ?_
        exact rw_iret (S := Unit) (G := G) (Wd := fun _ : Unit => (lzX x q (upd S 3 (lookF (ln rr) i (D 3))) ++ (lzI G (q 2) 8 ln ++ (lzDoor G (q 6) qh D F)))) () hx hb hr hlk dX3_shares_43 hS (hP) (rfl)
    · skip
      have c_15 := b2_z hr_2 c_15
      exact Bool.noConfusion (hA.symm.trans c_15)
set_option maxHeartbeats 4000000 in
set_option maxRecDepth 100000 in
theorem c_X3_shares_ok (l : Launch) (G : lzG) (x : Nat) (q : Nat → Nat) (S ln : Nat → Int32) (qh : Nat → Nat) (D : Nat → Int32) (F : Nat → Nat → Int32) (ih : Nat → Nat) (rr : Nat) (g : Nat → Int32) (s : Nat) (i N M : Nat) (hrw : rr < 8) (hs : s < N) (hN : D 2 = nI N) (hN8 : N ≤ 8) (hM : D 3 = nI M) (hM5 : M ≤ 5) (hno : lookV (ln rr) (nI i) (D 3) = 0) (hi40 : i + M ≤ 40) : Met l yX3_shares wsX3_shares ({ frames := 3, cells := 0, slots := 0, locals := 72 }) (va_Pc [.ref x, .int (nI s), .int (nI rr), .int (nI i)] (rwP G (lzX x q S ++ (lzI G (q 2) 8 ln ++ (lzDoor G (q 6) qh D F ++ (lzQ G 4 (q 0) 8 (fun i => some (ih i)) ++ (lzI G (ih rr) 40 g))))))) (va_Qi (S := Unit) (fun (r : Int32) (_ : Unit) => r = shrC F g s i M 10) (rwB G (fun _ : Unit => (lzX x q (upd S 3 (lookF (ln rr) (nI i) (D 3))) ++ (lzI G (q 2) 8 ln ++ (lzDoor G (q 6) qh D F ++ (lzQ G 4 (q 0) 8 (fun i => some (ih i)) ++ (lzI G (ih rr) 40 g))))))) (lzA (lzX x q S ++ (lzI G (q 2) 8 ln ++ (lzDoor G (q 6) qh D F ++ (lzQ G 4 (q 0) 8 (fun i => some (ih i)) ++ (lzI G (ih rr) 40 g))))))) 0 0 (lzA (lzX x q S ++ (lzI G (q 2) 8 ln ++ (lzDoor G (q 6) qh D F ++ (lzQ G 4 (q 0) 8 (fun i => some (ih i)) ++ (lzI G (ih rr) 40 g)))))) := by
  have hA : inR (nI rr) 0 7 = true := inR_row hrw
  have hB : inR (nI s) 0 (D 2 - 1) = true := inR_ok hN hs (by omega)
  refine rw_start (S := Unit) (cc := cX3_shares) (maxL := 7) (ret := (some .int)) (by decide) rfl (Nat.le_of_ble_eq_true rfl) ?_
  intro pp ee ss mm bl me cd A hx hb hr hlk hml hts hown hP hK hD hAe hS ls hl
  have hA0 : ∀ zz : Nat, lzA (lzX x q S ++ (lzI G (q 2) 8 ln ++ (lzDoor G (q 6) qh D F ++ (lzQ G 4 (q 0) 8 (fun i => some (ih i)) ++ (lzI G (ih rr) 40 g))))) zz → A zz := fun zz h9 => by rw [hAe]; exact h9
  rw [← hAe]
  clear hAe
  have hown : ss.vm.findClass RX3 = some mm.cls := hown
  have hw1 := hts (.fieldLink RX3 38 "LampSquares" "here" "LLampSquares$Door;") (List.mem_of_getElem? (i := 1) rfl)
  have hw3 := hts (.fieldLink RX3 246 "LampSquares$Door" "visitors" "I") (List.mem_of_getElem? (i := 3) rfl)
  have hw4 := hts (.fieldLink RX3 197 "LampSquares$Door" "kindOf" "[I") (List.mem_of_getElem? (i := 4) rfl)
  have hw5 := hts (.fieldLink RX3 11 "LampSquares" "items" "[[I") (List.mem_of_getElem? (i := 5) rfl)
  have hu_wsX10 : ∀ w ∈ wsX10, w.before ([.ref x, .int (nI s), .int (nI rr), .int (nI i)] : List Value).toArray ss = true := fun w h9 => hts w (List.mem_cons_of_mem _ (List.mem_append_right _ h9))
  have hu_wsX30 : ∀ w ∈ wsX30, w.before ([.ref x, .int (nI s), .int (nI rr), .int (nI i)] : List Value).toArray ss = true := fun w h9 => hts w (List.mem_cons_of_mem _ (List.mem_append_left _ (List.mem_append_right _ h9)))
  have hl : lv_has ls 7 [(0, .ref x), (1, .int (nI s)), (2, .int (nI rr)), (3, .int (nI i))] := hl
  refine lv_aload_n hx hb dX3_shares_0 rfl (lv_at hl 0 rfl) ?_
  refine lz_get (G := G) (ci := 3) (v := .ref (q 6)) (C := RX3) (T := TX3) (N := 13) hx hb hu_wsX30 (fun _ h9 => h9) hown hK hP 0 rfl rfl 6 (by decide) hw1 rfl rfl dX3_shares_1 ?_
  refine lv_iload_n hx hb dX3_shares_4 rfl (lv_at hl 1 rfl) ?_
  have hPc := hP.sub (ws' := lzDoor G (q 6) qh D F) [2, 3, 4, 5, 6, 7, 8, 9, 10, 11, 12] rfl
  refine ro_calli (va_runV (As := [.int (nI s)]) (rest := []) ⟨hx, hb, hml, hown, hts⟩ (c_X1_isSquare l G (q 6) qh D F (nI s) ) (cwV 1 hts gX3_shares_X1_isSquare rfl rfl rfl (by decide +kernel) ⟨Nat.le_of_ble_eq_true rfl, Nat.le_of_ble_eq_true rfl⟩) (ro_preV hK hPc hP (ci := 1) (q0 := 2) rfl rfl) rfl rfl hl.1 rfl (lv_room (Nat.le_of_ble_eq_true rfl)) dX3_shares_5 ⟨Nat.zero_le _, Nat.zero_le _⟩) (fun r_1 hr_1 => ?_)
  refine lv_if_eq (tgt := 18) hx hb dX3_shares_8 (by decide) (fun c_8 => ?_) (fun c_8 => ?_)
  · skip
    have c_8 := b2_z hr_1 c_8
    exact Bool.noConfusion (hB.symm.trans c_8)
  · skip
    have c_8 := b2_n hr_1 c_8
    refine lv_iload_n hx hb dX3_shares_11 rfl (lv_at hl 2 rfl) ?_
    refine ro_calli (va_runS (As := [.int (nI rr)]) (rest := []) ⟨hx, hb, hml, hown, hts⟩ (c_X3_isRow l G (nI rr) ) (cwS 1 hts gX3_shares_X3_isRow rfl rfl rfl (by decide +kernel) ⟨Nat.le_of_ble_eq_true rfl, Nat.le_of_ble_eq_true rfl⟩) (ro_pre hK (fun k q h => by simp at h)) rfl rfl hl.1 rfl (lv_room (Nat.le_of_ble_eq_true rfl)) dX3_shares_12 ⟨Nat.zero_le _, Nat.zero_le _⟩) (fun r_2 hr_2 => ?_)
    refine lv_if_ne (tgt := 21) hx hb dX3_shares_15 (by decide) (fun c_15 => ?_) (fun c_15 => ?_)
    · skip
      have c_15 := b2_n hr_2 c_15
      refine lv_aload_n hx hb dX3_shares_21 rfl (lv_at hl 0 rfl) ?_
      refine lv_iload_n hx hb dX3_shares_22 rfl (lv_at hl 2 rfl) ?_
      refine lv_iload_n hx hb dX3_shares_23 rfl (lv_at hl 3 rfl) ?_
      refine lv_aload_n hx hb dX3_shares_24 rfl (lv_at hl 0 rfl) ?_
      refine lz_get (G := G) (ci := 3) (v := .ref (q 6)) (C := RX3) (T := TX3) (N := 13) hx hb hu_wsX30 (fun _ h9 => h9) hown hK hP 0 rfl rfl 6 (by decide) hw1 rfl rfl dX3_shares_25 ?_
      refine lz_get (G := G) (ci := 1) (v := .int (D 3)) (C := RX1) (T := TX1) (N := 14) hx hb hu_wsX10 (fun _ h9 => h9) hown hK hP 2 rfl rfl 3 (by decide) hw3 rfl rfl dX3_shares_28 ?_
      have hPc := hP.sub (ws' := (lzX x q S ++ lzI G (q 2) 8 ln)) [0, 1] rfl
      have hDc := hD.sub (ws' := (lzX x q S ++ lzI G (q 2) 8 ln)) [0, 1] (by decide) rfl
      have hFc : ∀ zz : Nat, lzA (lzX x q S ++ lzI G (q 2) 8 ln) zz → A zz := lz_free hD [0, 1] rfl
      refine va_calli (va_runV (As := [.int (nI rr), .int (nI i), .int (D 3)]) (rest := []) ⟨hx, hb, hml, hown, hts⟩ (c_X3_lookAt l G x q S ln rr (nI i) (D 3) (hrw)) (cwV 3 hts gX3_shares_X3_lookAt rfl rfl rfl (by decide +kernel) ⟨Nat.le_of_ble_eq_true rfl, Nat.le_of_ble_eq_true rfl⟩) (rw_preV hK hPc hDc hP (ci := 3) (q0 := 0) rfl rfl) rfl rfl hl.1 rfl (lv_room (Nat.le_of_ble_eq_true rfl)) dX3_shares_31 ⟨Nat.zero_le _, Nat.zero_le _⟩) hS (fun q _ h => hFc q h) hFc (fun r_3 u_4 t9 H1 locs ht hvm hr_3 hB hz1 hk1 hS => ?_)
      replace hB : va_P G.1 lzC _ t9.heap := hB
      rw [ht] at hB
      obtain ⟨hP, hD⟩ := lz_join (wc := (lzX x q S ++ lzI G (q 2) 8 ln)) (wr := ([(q 6, .inr (1, [.int (D 0), .int (D 1), .int (D 2), .int (D 3), .ref (qh 4), .ref (qh 5), .ref (qh 6), .ref (qh 7), .ref (qh 8), .ref (qh 9), .ref (qh 10), .ref (qh 11), .ref (qh 12), .ref (qh 13)])), (qh 4, .inl (G.2 0, 8, .inl (F 4))), (qh 5, .inl (G.2 0, 8, .inl (F 5))), (qh 6, .inl (G.2 0, 8, .inl (F 6))), (qh 7, .inl (G.2 0, 8, .inl (F 7))), (qh 8, .inl (G.2 0, 8, .inl (F 8))), (qh 9, .inl (G.2 0, 5, .inl (F 9))), (qh 10, .inl (G.2 0, 5, .inl (F 10))), (qh 11, .inl (G.2 0, 5, .inl (F 11))), (qh 12, .inl (G.2 0, 5, .inl (F 12))), (qh 13, .inl (G.2 0, 5, .inl (F 13))), (q 0, .inl (G.2 4, 8, .inr (.inr (.inr (.inr (fun i => some (ih i))))))), ((ih rr), .inl (G.2 0, 40, .inl g))] : va_W)) (w1 := (lzX x q (upd S 3 (lookF (ln rr) (nI i) (D 3))) ++ lzI G (q 2) 8 ln)) hP hD [0, 1] [2, 3, 4, 5, 6, 7, 8, 9, 10, 11, 12, 13, 14] rfl rfl (by decide) (by decide) rfl hk1 hB
      replace hP := hP.sub (ws' := (lzX x q (upd S 3 (lookF (ln rr) (nI i) (D 3))) ++ (lzI G (q 2) 8 ln ++ (lzDoor G (q 6) qh D F ++ (lzQ G 4 (q 0) 8 (fun i => some (ih i)) ++ (lzI G (ih rr) 40 g)))))) [13, 14, 0, 1, 2, 3, 4, 5, 6, 7, 8, 9, 10, 11, 12] rfl
      replace hD := hD.sub (ws' := (lzX x q (upd S 3 (lookF (ln rr) (nI i) (D 3))) ++ (lzI G (q 2) 8 ln ++ (lzDoor G (q 6) qh D F ++ (lzQ G 4 (q 0) 8 (fun i => some (ih i)) ++ (lzI G (ih rr) 40 g)))))) [13, 14, 0, 1, 2, 3, 4, 5, 6, 7, 8, 9, 10, 11, 12] (by decide) rfl
      clear ht hvm hB hz1 hk1
      generalize H1 = H at hP hS ⊢
      refine lz_top (y := lookV (ln rr) (nI i) (D 3)) hr_3 ?_
      refine lv_istore (lv' := [(4, .int (lookV (ln rr) (nI i) (D 3))), (0, .ref x), (1, .int (nI s)), (2, .int (nI rr)), (3, .int (nI i))]) hx hb dX3_shares_34 hl (by decide) rfl (fun ls hl => ?_)
      refine lv_iload hx hb dX3_shares_36 (lv_at hl 0 rfl) ?_
      refine lv_if_eq (tgt := 44) hx hb dX3_shares_38 (by decide) (fun c_38 => ?_) (fun c_38 => ?_)
      · skip
        refine lv_iconst (v := 0) hx hb dX3_shares_44 (by decide) ?_
        refine lv_istore (lv' := [(5, .int 0), (4, .int (lookV (ln rr) (nI i) (D 3))), (0, .ref x), (1, .int (nI s)), (2, .int (nI rr)), (3, .int (nI i))]) hx hb dX3_shares_45 hl (by decide) rfl (fun ls hl => ?_)
        refine lv_iconst (v := 0) hx hb dX3_shares_47 (by decide) ?_
        refine lv_istore (lv' := [(6, .int 0), (5, .int 0), (4, .int (lookV (ln rr) (nI i) (D 3))), (0, .ref x), (1, .int (nI s)), (2, .int (nI rr)), (3, .int (nI i))]) hx hb dX3_shares_48 hl (by decide) rfl (fun ls hl => ?_)
        have J_50 : ∀ (n9 : Nat), ∀ (k : Nat), (k ≤ 10) → 10 - k < n9 → ∀ (H : Heap) (locs : List Loc), va_P G.1 lzC (lzX x q (upd S 3 (lookF (ln rr) (nI i) (D 3))) ++ (lzI G (q 2) 8 ln ++ (lzDoor G (q 6) qh D F ++ (lzQ G 4 (q 0) 8 (fun i => some (ih i)) ++ (lzI G (ih rr) 40 g))))) H → va_D A (lzX x q (upd S 3 (lookF (ln rr) (nI i) (D 3))) ++ (lzI G (q 2) 8 ln ++ (lzDoor G (q 6) qh D F ++ (lzQ G 4 (q 0) 8 (fun i => some (ih i)) ++ (lzI G (ih rr) 40 g))))) → va_S A ss.heap H locs → ∀ ls : Array Slot, lv_has ls 7 [(5, .int (shrC F g s i M k)), (6, .int (nI k)), (4, .int (lookV (ln rr) (nI i) (D 3))), (0, .ref x), (1, .int (nI s)), (2, .int (nI rr)), (3, .int (nI i))] → W pp l ee ({ frames := 3, cells := 0, slots := 0, locals := 72 }) ss mm ([.ref x, .int (nI s), .int (nI rr), .int (nI i)] : List Value).toArray bl me cd H locs 0 0 (MQ bl (va_Qi (S := Unit) (fun (r : Int32) (_ : Unit) => r = shrC F g s i M 10) (rwB G (fun _ : Unit => (lzX x q (upd S 3 (lookF (ln rr) (nI i) (D 3))) ++ (lzI G (q 2) 8 ln ++ (lzDoor G (q 6) qh D F ++ (lzQ G 4 (q 0) 8 (fun i => some (ih i)) ++ (lzI G (ih rr) 40 g))))))) A) ([.ref x, .int (nI s), .int (nI rr), .int (nI i)] : List Value).toArray ss 0 0 A) (F0 mm 50 ls []) := by
          intro n9
          induction n9 with
          | zero => intro k hk hn; exact absurd hn (Nat.not_lt_zero _)
          | succ n9 ih_50 =>
            intro k hk hn_50 H locs hP hD hS ls hl
            refine lv_iload hx hb dX3_shares_50 (lv_at hl 1 rfl) ?_
            refine lv_bipush (v := 9) hx hb dX3_shares_52 (by decide) ?_
            refine lv_icmp_gt (tgt := 100) hx hb dX3_shares_54 (by decide) (fun c_54 => ?_) (fun c_54 => ?_)
            · skip
              have c_54' := Int32.not_le.mpr c_54
              have hk2 : 10 ≤ k := by have h9 : ¬ nI k ≤ 9 := fun h8 => absurd h8 (Int32.not_le.mpr c_54); have := mt (nI_leI (b := 9) (by omega) (by decide)).mpr h9; omega
              have hk3 : k = 10 := by omega
              refine lv_iload hx hb dX3_shares_100 (lv_at hl 0 rfl) ?_
              exact rw_iret (S := Unit) (G := G) (Wd := fun _ : Unit => (lzX x q (upd S 3 (lookF (ln rr) (nI i) (D 3))) ++ (lzI G (q 2) 8 ln ++ (lzDoor G (q 6) qh D F ++ (lzQ G 4 (q 0) 8 (fun i => some (ih i)) ++ (lzI G (ih rr) 40 g)))))) () hx hb hr hlk dX3_shares_102 hS (hP) (by rw [hk3])
            · skip
              have c_54' := Int32.not_lt.mp c_54
              have hk2 : k < 10 := by have h9 : nI k ≤ 9 := c_54'; have := (nI_leI (b := 9) (by omega) (by decide)).mp h9; omega
              refine lv_aload_n hx hb dX3_shares_57 rfl (lv_at hl 3 rfl) ?_
              refine lz_get (G := G) (ci := 3) (v := .ref (q 6)) (C := RX3) (T := TX3) (N := 13) hx hb hu_wsX30 (fun _ h9 => h9) hown hK hP 0 rfl rfl 6 (by decide) hw1 rfl rfl dX3_shares_58 ?_
              refine lv_aload_n hx hb dX3_shares_61 rfl (lv_at hl 3 rfl) ?_
              refine lz_get (G := G) (ci := 3) (v := .ref (q 6)) (C := RX3) (T := TX3) (N := 13) hx hb hu_wsX30 (fun _ h9 => h9) hown hK hP 0 rfl rfl 6 (by decide) hw1 rfl rfl dX3_shares_62 ?_
              refine lz_get (G := G) (ci := 1) (v := .ref (qh 4)) (C := RX1) (T := TX1) (N := 14) hx hb hu_wsX10 (fun _ h9 => h9) hown hK hP 2 rfl rfl 4 (by decide) hw4 rfl rfl dX3_shares_65 ?_
              refine lv_iload_n hx hb dX3_shares_68 rfl (lv_at hl 4 rfl) ?_
              refine lz_iald (f := F 4) hx hb hK hP 3 rfl s (by omega) (Nat.le_of_ble_eq_true rfl) dX3_shares_69 ?_
              refine lv_iload hx hb dX3_shares_70 (lv_at hl 1 rfl) ?_
              refine lv_aload_n hx hb dX3_shares_72 rfl (lv_at hl 3 rfl) ?_
              refine lz_get (G := G) (ci := 3) (v := .ref (q 0)) (C := RX3) (T := TX3) (N := 13) hx hb hu_wsX30 (fun _ h9 => h9) hown hK hP 0 rfl rfl 0 (by decide) hw5 rfl rfl dX3_shares_73 ?_
              refine lv_iload_n hx hb dX3_shares_76 rfl (lv_at hl 5 rfl) ?_
              refine lz_aaldI (f := fun i => some (ih i)) hx hb hK hP 13 rfl rr (ih rr) rfl (by omega) (Nat.le_of_ble_eq_true rfl) dX3_shares_77 ?_
              refine lv_iload_n hx hb dX3_shares_78 rfl (lv_at hl 6 rfl) ?_
              have hPc := hP.sub (ws' := (lzDoor G (q 6) qh D F ++ lzI G (ih rr) 40 g)) [2, 3, 4, 5, 6, 7, 8, 9, 10, 11, 12, 14] rfl
              refine ro_calli (va_runV (As := [.int ((F 4) s), .int (nI k), .ref (ih rr), .int (nI i)]) (rest := []) ⟨hx, hb, hml, hown, hts⟩ (c_X1_isClickedSo l G (q 6) qh D F (ih rr) g ((F 4) s) (nI k) i M (hM) (hM5) (by omega)) (cwV 4 hts gX3_shares_X1_isClickedSo rfl rfl rfl (by decide +kernel) ⟨Nat.le_of_ble_eq_true rfl, Nat.le_of_ble_eq_true rfl⟩) (ro_preV hK hPc hP (ci := 1) (q0 := 2) rfl rfl) rfl rfl hl.1 rfl (lv_room (Nat.le_of_ble_eq_true rfl)) dX3_shares_79 ⟨Nat.zero_le _, Nat.zero_le _⟩) (fun r_5 hr_5 => ?_)
              refine lv_if_eq (tgt := 94) hx hb dX3_shares_82 (by decide) (fun c_82 => ?_) (fun c_82 => ?_)
              · skip
                have c_82 := b2_z hr_5 c_82
                refine lv_iinc (v := nI (k + 1)) (lv' := [(6, .int (nI (k + 1))), (5, .int (shrC F g s i M k)), (4, .int (lookV (ln rr) (nI i) (D 3))), (0, .ref x), (1, .int (nI s)), (2, .int (nI rr)), (3, .int (nI i))]) hx hb dX3_shares_94 hl (k := 1) rfl (nI_1 _) (by decide) rfl (fun ls hl => ?_)
                refine lv_goto (tgt := 50) hx hb dX3_shares_97 (by decide) ?_
                rw [show (shrC F g s i M k : Int32) = shrC F g s i M (k + 1) from by have hq := c_82; change allCV F g i _ _ _ = _ at hq; simp [shrC, kndC, whoC, carC, bitsI, hq]] at hl
                exact ih_50 (k + 1) (by omega) (by omega) _ _ hP hD hS _ (lv_sub hl [1, 0, 2, 3, 4, 5, 6] rfl)
              · skip
                have c_82 := b2_n hr_5 c_82
                refine lv_iload hx hb dX3_shares_85 (lv_at hl 0 rfl) ?_
                refine lv_iconst (v := 1) hx hb dX3_shares_87 (by decide) ?_
                refine lv_iload hx hb dX3_shares_88 (lv_at hl 1 rfl) ?_
                refine lv_ishl hx hb dX3_shares_90 ?_
                refine lv_ior hx hb dX3_shares_91 ?_
                refine lv_topi (fun x_6 ex_6 => ?_)
                refine lv_istore (lv' := [(5, .int x_6), (6, .int (nI k)), (4, .int (lookV (ln rr) (nI i) (D 3))), (0, .ref x), (1, .int (nI s)), (2, .int (nI rr)), (3, .int (nI i))]) hx hb dX3_shares_92 hl (by decide) rfl (fun ls hl => ?_)
                refine lv_iinc (v := nI (k + 1)) (lv' := [(6, .int (nI (k + 1))), (5, .int x_6), (4, .int (lookV (ln rr) (nI i) (D 3))), (0, .ref x), (1, .int (nI s)), (2, .int (nI rr)), (3, .int (nI i))]) hx hb dX3_shares_94 hl (k := 1) rfl (nI_1 _) (by decide) rfl (fun ls hl => ?_)
                refine lv_goto (tgt := 50) hx hb dX3_shares_97 (by decide) ?_
                obtain rfl : x_6 = shrC F g s i M (k + 1) := by rw [ex_6]; have hq := c_82; change allCV F g i _ _ _ = _ at hq; simp [shrC, kndC, whoC, carC, bitsI, hq]
                exact ih_50 (k + 1) (by omega) (by omega) _ _ hP hD hS _ (lv_sub hl [1, 0, 2, 3, 4, 5, 6] rfl)
        rw [show (0 : Int32) = shrC F g s i M 0 from rfl] at hl
        exact J_50 _ 0 (by omega) (Nat.lt_succ_self _) _ _ hP hD hS _ (lv_sub hl [1, 0, 2, 3, 4, 5, 6] rfl)
      · skip
        exact absurd hno c_38
    · skip
      have c_15 := b2_z hr_2 c_15
      exact Bool.noConfusion (hA.symm.trans c_15)
set_option maxHeartbeats 4000000 in
set_option maxRecDepth 100000 in
theorem c_X3_kinds_bad (l : Launch) (G : lzG) (x : Nat) (q : Nat → Nat) (S : Nat → Int32) (qh : Nat → Nat) (D : Nat → Int32) (F : Nat → Nat → Int32) (a b c : Int32) (hbad : (inR a 0 (D 2 - 1) && inR b 0 7) = false) : Met l yX3_kinds wsX3_kinds ({ frames := 2, cells := 0, slots := 0, locals := 43 }) (va_Pc [.ref x, .int a, .int b, .int c] (roP G (lzX x q S ++ lzDoor G (q 6) qh D F))) (vp_Si (fun r => r = -1000001)) 0 0 (fun _ => False) := by
  refine ro_start (cc := cX3_kinds) (maxL := 7) (ret := (some .int)) (by decide) rfl (Nat.le_of_ble_eq_true rfl) ?_
  intro pp ee ss mm bl me cd hx hb hr hlk hml hts hown hP hK ls hl
  have hown : ss.vm.findClass RX3 = some mm.cls := hown
  have hw1 := hts (.fieldLink RX3 38 "LampSquares" "here" "LLampSquares$Door;") (List.mem_of_getElem? (i := 1) rfl)
  have hw2 := hts (.constant RX3 81 (-1000001)) (List.mem_of_getElem? (i := 2) rfl)
  have hu_wsX30 : ∀ w ∈ wsX30, w.before ([.ref x, .int a, .int b, .int c] : List Value).toArray ss = true := fun w h9 => hts w (List.mem_cons_of_mem _ (List.mem_append_left _ (List.mem_append_right _ h9)))
  have hl : lv_has ls 7 [(0, .ref x), (1, .int a), (2, .int b), (3, .int c)] := hl
  refine lv_aload_n hx hb dX3_kinds_0 rfl (lv_at hl 0 rfl) ?_
  refine lz_get (G := G) (ci := 3) (v := .ref (q 6)) (C := RX3) (T := TX3) (N := 13) hx hb hu_wsX30 (fun _ h9 => h9) hown hK hP 0 rfl rfl 6 (by decide) hw1 rfl rfl dX3_kinds_1 ?_
  refine lv_iload_n hx hb dX3_kinds_4 rfl (lv_at hl 1 rfl) ?_
  have hPc := hP.sub (ws' := lzDoor G (q 6) qh D F) [1, 2, 3, 4, 5, 6, 7, 8, 9, 10, 11] rfl
  refine ro_calli (va_runV (As := [.int a]) (rest := []) ⟨hx, hb, hml, hown, hts⟩ (c_X1_isSquare l G (q 6) qh D F a ) (cwV 1 hts gX3_kinds_X1_isSquare rfl rfl rfl (by decide +kernel) ⟨Nat.le_of_ble_eq_true rfl, Nat.le_of_ble_eq_true rfl⟩) (ro_preV hK hPc hP (ci := 1) (q0 := 1) rfl rfl) rfl rfl hl.1 rfl (lv_room (Nat.le_of_ble_eq_true rfl)) dX3_kinds_5 ⟨Nat.zero_le _, Nat.zero_le _⟩) (fun r_1 hr_1 => ?_)
  refine lv_if_eq (tgt := 18) hx hb dX3_kinds_8 (by decide) (fun c_8 => ?_) (fun c_8 => ?_)
  · skip
    have c_8 := b2_z hr_1 c_8
    refine lv_ldc hx hb hown hw2 dX3_kinds_18 ?_
    exact ro_iret hx hb hr hlk dX3_kinds_20 (rfl)
  · skip
    have c_8 := b2_n hr_1 c_8
    refine lv_iload_n hx hb dX3_kinds_11 rfl (lv_at hl 2 rfl) ?_
    refine ro_calli (va_runS (As := [.int b]) (rest := []) ⟨hx, hb, hml, hown, hts⟩ (c_X3_isRow l G b ) (cwS 1 hts gX3_kinds_X3_isRow rfl rfl rfl (by decide +kernel) ⟨Nat.le_of_ble_eq_true rfl, Nat.le_of_ble_eq_true rfl⟩) (ro_pre hK (fun k q h => by simp at h)) rfl rfl hl.1 rfl (lv_room (Nat.le_of_ble_eq_true rfl)) dX3_kinds_12 ⟨Nat.zero_le _, Nat.zero_le _⟩) (fun r_2 hr_2 => ?_)
    refine lv_if_ne (tgt := 21) hx hb dX3_kinds_15 (by decide) (fun c_15 => ?_) (fun c_15 => ?_)
    · skip
      have c_15 := b2_n hr_2 c_15
      exact Bool.noConfusion (hbad.symm.trans (by rw [c_8, c_15] <;> rfl))
    · skip
      have c_15 := b2_z hr_2 c_15
      refine lv_ldc hx hb hown hw2 dX3_kinds_18 ?_
      exact ro_iret hx hb hr hlk dX3_kinds_20 (rfl)
set_option maxHeartbeats 4000000 in
set_option maxRecDepth 100000 in
theorem c_X3_kinds_no (l : Launch) (G : lzG) (x : Nat) (q : Nat → Nat) (S ln : Nat → Int32) (qh : Nat → Nat) (D : Nat → Int32) (F : Nat → Nat → Int32) (rr : Nat) (s N : Nat) (i : Int32) (hrw : rr < 8) (hN : D 2 = nI N) (hN8 : N ≤ 8) (hs : s < N) (hno : ¬ lookV (ln rr) i (D 3) = 0) : Met l yX3_kinds wsX3_kinds ({ frames := 2, cells := 0, slots := 0, locals := 46 }) (va_Pc [.ref x, .int (nI s), .int (nI rr), .int i] (rwP G (lzX x q S ++ (lzI G (q 2) 8 ln ++ (lzDoor G (q 6) qh D F))))) (va_Qi (S := Unit) (fun (r : Int32) (_ : Unit) => r = lookV (ln rr) i (D 3)) (rwB G (fun _ : Unit => (lzX x q (upd S 3 (lookF (ln rr) i (D 3))) ++ (lzI G (q 2) 8 ln ++ (lzDoor G (q 6) qh D F))))) (lzA (lzX x q S ++ (lzI G (q 2) 8 ln ++ (lzDoor G (q 6) qh D F))))) 0 0 (lzA (lzX x q S ++ (lzI G (q 2) 8 ln ++ (lzDoor G (q 6) qh D F)))) := by
  have hA : inR (nI rr) 0 7 = true := inR_row hrw
  have hB : inR (nI s) 0 (D 2 - 1) = true := inR_ok hN hs (by omega)
  refine rw_start (S := Unit) (cc := cX3_kinds) (maxL := 7) (ret := (some .int)) (by decide) rfl (Nat.le_of_ble_eq_true rfl) ?_
  intro pp ee ss mm bl me cd A hx hb hr hlk hml hts hown hP hK hD hAe hS ls hl
  have hA0 : ∀ zz : Nat, lzA (lzX x q S ++ (lzI G (q 2) 8 ln ++ (lzDoor G (q 6) qh D F))) zz → A zz := fun zz h9 => by rw [hAe]; exact h9
  rw [← hAe]
  clear hAe
  have hown : ss.vm.findClass RX3 = some mm.cls := hown
  have hw1 := hts (.fieldLink RX3 38 "LampSquares" "here" "LLampSquares$Door;") (List.mem_of_getElem? (i := 1) rfl)
  have hw3 := hts (.fieldLink RX3 246 "LampSquares$Door" "visitors" "I") (List.mem_of_getElem? (i := 3) rfl)
  have hu_wsX10 : ∀ w ∈ wsX10, w.before ([.ref x, .int (nI s), .int (nI rr), .int i] : List Value).toArray ss = true := fun w h9 => hts w (List.mem_cons_of_mem _ (List.mem_append_right _ h9))
  have hu_wsX30 : ∀ w ∈ wsX30, w.before ([.ref x, .int (nI s), .int (nI rr), .int i] : List Value).toArray ss = true := fun w h9 => hts w (List.mem_cons_of_mem _ (List.mem_append_left _ (List.mem_append_right _ h9)))
  have hl : lv_has ls 7 [(0, .ref x), (1, .int (nI s)), (2, .int (nI rr)), (3, .int i)] := hl
  refine lv_aload_n hx hb dX3_kinds_0 rfl (lv_at hl 0 rfl) ?_
  refine lz_get (G := G) (ci := 3) (v := .ref (q 6)) (C := RX3) (T := TX3) (N := 13) hx hb hu_wsX30 (fun _ h9 => h9) hown hK hP 0 rfl rfl 6 (by decide) hw1 rfl rfl dX3_kinds_1 ?_
  refine lv_iload_n hx hb dX3_kinds_4 rfl (lv_at hl 1 rfl) ?_
  have hPc := hP.sub (ws' := lzDoor G (q 6) qh D F) [2, 3, 4, 5, 6, 7, 8, 9, 10, 11, 12] rfl
  refine ro_calli (va_runV (As := [.int (nI s)]) (rest := []) ⟨hx, hb, hml, hown, hts⟩ (c_X1_isSquare l G (q 6) qh D F (nI s) ) (cwV 1 hts gX3_kinds_X1_isSquare rfl rfl rfl (by decide +kernel) ⟨Nat.le_of_ble_eq_true rfl, Nat.le_of_ble_eq_true rfl⟩) (ro_preV hK hPc hP (ci := 1) (q0 := 2) rfl rfl) rfl rfl hl.1 rfl (lv_room (Nat.le_of_ble_eq_true rfl)) dX3_kinds_5 ⟨Nat.zero_le _, Nat.zero_le _⟩) (fun r_1 hr_1 => ?_)
  refine lv_if_eq (tgt := 18) hx hb dX3_kinds_8 (by decide) (fun c_8 => ?_) (fun c_8 => ?_)
  · skip
    have c_8 := b2_z hr_1 c_8
    exact Bool.noConfusion (hB.symm.trans c_8)
  · skip
    have c_8 := b2_n hr_1 c_8
    refine lv_iload_n hx hb dX3_kinds_11 rfl (lv_at hl 2 rfl) ?_
    refine ro_calli (va_runS (As := [.int (nI rr)]) (rest := []) ⟨hx, hb, hml, hown, hts⟩ (c_X3_isRow l G (nI rr) ) (cwS 1 hts gX3_kinds_X3_isRow rfl rfl rfl (by decide +kernel) ⟨Nat.le_of_ble_eq_true rfl, Nat.le_of_ble_eq_true rfl⟩) (ro_pre hK (fun k q h => by simp at h)) rfl rfl hl.1 rfl (lv_room (Nat.le_of_ble_eq_true rfl)) dX3_kinds_12 ⟨Nat.zero_le _, Nat.zero_le _⟩) (fun r_2 hr_2 => ?_)
    refine lv_if_ne (tgt := 21) hx hb dX3_kinds_15 (by decide) (fun c_15 => ?_) (fun c_15 => ?_)
    · skip
      have c_15 := b2_n hr_2 c_15
      refine lv_aload_n hx hb dX3_kinds_21 rfl (lv_at hl 0 rfl) ?_
      refine lv_iload_n hx hb dX3_kinds_22 rfl (lv_at hl 2 rfl) ?_
      refine lv_iload_n hx hb dX3_kinds_23 rfl (lv_at hl 3 rfl) ?_
      refine lv_aload_n hx hb dX3_kinds_24 rfl (lv_at hl 0 rfl) ?_
      refine lz_get (G := G) (ci := 3) (v := .ref (q 6)) (C := RX3) (T := TX3) (N := 13) hx hb hu_wsX30 (fun _ h9 => h9) hown hK hP 0 rfl rfl 6 (by decide) hw1 rfl rfl dX3_kinds_25 ?_
      refine lz_get (G := G) (ci := 1) (v := .int (D 3)) (C := RX1) (T := TX1) (N := 14) hx hb hu_wsX10 (fun _ h9 => h9) hown hK hP 2 rfl rfl 3 (by decide) hw3 rfl rfl dX3_kinds_28 ?_
      have hPc := hP.sub (ws' := (lzX x q S ++ lzI G (q 2) 8 ln)) [0, 1] rfl
      have hDc := hD.sub (ws' := (lzX x q S ++ lzI G (q 2) 8 ln)) [0, 1] (by decide) rfl
      have hFc : ∀ zz : Nat, lzA (lzX x q S ++ lzI G (q 2) 8 ln) zz → A zz := lz_free hD [0, 1] rfl
      refine va_calli (va_runV (As := [.int (nI rr), .int i, .int (D 3)]) (rest := []) ⟨hx, hb, hml, hown, hts⟩ (c_X3_lookAt l G x q S ln rr i (D 3) (hrw)) (cwV 3 hts gX3_kinds_X3_lookAt rfl rfl rfl (by decide +kernel) ⟨Nat.le_of_ble_eq_true rfl, Nat.le_of_ble_eq_true rfl⟩) (rw_preV hK hPc hDc hP (ci := 3) (q0 := 0) rfl rfl) rfl rfl hl.1 rfl (lv_room (Nat.le_of_ble_eq_true rfl)) dX3_kinds_31 ⟨Nat.zero_le _, Nat.zero_le _⟩) hS (fun q _ h => hFc q h) hFc (fun r_3 u_4 t9 H1 locs ht hvm hr_3 hB hz1 hk1 hS => ?_)
      replace hB : va_P G.1 lzC _ t9.heap := hB
      rw [ht] at hB
      obtain ⟨hP, hD⟩ := lz_join (wc := (lzX x q S ++ lzI G (q 2) 8 ln)) (wr := ([(q 6, .inr (1, [.int (D 0), .int (D 1), .int (D 2), .int (D 3), .ref (qh 4), .ref (qh 5), .ref (qh 6), .ref (qh 7), .ref (qh 8), .ref (qh 9), .ref (qh 10), .ref (qh 11), .ref (qh 12), .ref (qh 13)])), (qh 4, .inl (G.2 0, 8, .inl (F 4))), (qh 5, .inl (G.2 0, 8, .inl (F 5))), (qh 6, .inl (G.2 0, 8, .inl (F 6))), (qh 7, .inl (G.2 0, 8, .inl (F 7))), (qh 8, .inl (G.2 0, 8, .inl (F 8))), (qh 9, .inl (G.2 0, 5, .inl (F 9))), (qh 10, .inl (G.2 0, 5, .inl (F 10))), (qh 11, .inl (G.2 0, 5, .inl (F 11))), (qh 12, .inl (G.2 0, 5, .inl (F 12))), (qh 13, .inl (G.2 0, 5, .inl (F 13)))] : va_W)) (w1 := (lzX x q (upd S 3 (lookF (ln rr) i (D 3))) ++ lzI G (q 2) 8 ln)) hP hD [0, 1] [2, 3, 4, 5, 6, 7, 8, 9, 10, 11, 12] rfl rfl (by decide) (by decide) rfl hk1 hB
      replace hP := hP.sub (ws' := (lzX x q (upd S 3 (lookF (ln rr) i (D 3))) ++ (lzI G (q 2) 8 ln ++ (lzDoor G (q 6) qh D F)))) [11, 12, 0, 1, 2, 3, 4, 5, 6, 7, 8, 9, 10] rfl
      replace hD := hD.sub (ws' := (lzX x q (upd S 3 (lookF (ln rr) i (D 3))) ++ (lzI G (q 2) 8 ln ++ (lzDoor G (q 6) qh D F)))) [11, 12, 0, 1, 2, 3, 4, 5, 6, 7, 8, 9, 10] (by decide) rfl
      clear ht hvm hB hz1 hk1
      generalize H1 = H at hP hS ⊢
      refine lz_top (y := lookV (ln rr) i (D 3)) hr_3 ?_
      refine lv_istore (lv' := [(4, .int (lookV (ln rr) i (D 3))), (0, .ref x), (1, .int (nI s)), (2, .int (nI rr)), (3, .int i)]) hx hb dX3_kinds_34 hl (by decide) rfl (fun ls hl => ?_)
      refine lv_iload hx hb dX3_kinds_36 (lv_at hl 0 rfl) ?_
      refine lv_if_eq (tgt := 44) hx hb dX3_kinds_38 (by decide) (fun c_38 => ?_) (fun c_38 => ?_)
      · skip
        exact absurd c_38 hno
      · skip
        refine lv_iload hx hb dX3_kinds_41 (lv_at hl 0 rfl) ?_
        exact rw_iret (S := Unit) (G := G) (Wd := fun _ : Unit => (lzX x q (upd S 3 (lookF (ln rr) i (D 3))) ++ (lzI G (q 2) 8 ln ++ (lzDoor G (q 6) qh D F)))) () hx hb hr hlk dX3_kinds_43 hS (hP) (rfl)
    · skip
      have c_15 := b2_z hr_2 c_15
      exact Bool.noConfusion (hA.symm.trans c_15)
set_option maxHeartbeats 4000000 in
set_option maxRecDepth 100000 in
theorem c_X3_kinds_ok (l : Launch) (G : lzG) (x : Nat) (q : Nat → Nat) (S ln : Nat → Int32) (qh : Nat → Nat) (D : Nat → Int32) (F : Nat → Nat → Int32) (ih : Nat → Nat) (rr : Nat) (g : Nat → Int32) (s : Nat) (i N M : Nat) (hrw : rr < 8) (hs : s < N) (hN : D 2 = nI N) (hN8 : N ≤ 8) (hM : D 3 = nI M) (hM5 : M ≤ 5) (hno : lookV (ln rr) (nI i) (D 3) = 0) (hi40 : i + M ≤ 40) : Met l yX3_kinds wsX3_kinds ({ frames := 3, cells := 0, slots := 0, locals := 72 }) (va_Pc [.ref x, .int (nI s), .int (nI rr), .int (nI i)] (rwP G (lzX x q S ++ (lzI G (q 2) 8 ln ++ (lzDoor G (q 6) qh D F ++ (lzQ G 4 (q 0) 8 (fun i => some (ih i)) ++ (lzI G (ih rr) 40 g))))))) (va_Qi (S := Unit) (fun (r : Int32) (_ : Unit) => r = kndC F g s i M 6) (rwB G (fun _ : Unit => (lzX x q (upd S 3 (lookF (ln rr) (nI i) (D 3))) ++ (lzI G (q 2) 8 ln ++ (lzDoor G (q 6) qh D F ++ (lzQ G 4 (q 0) 8 (fun i => some (ih i)) ++ (lzI G (ih rr) 40 g))))))) (lzA (lzX x q S ++ (lzI G (q 2) 8 ln ++ (lzDoor G (q 6) qh D F ++ (lzQ G 4 (q 0) 8 (fun i => some (ih i)) ++ (lzI G (ih rr) 40 g))))))) 0 0 (lzA (lzX x q S ++ (lzI G (q 2) 8 ln ++ (lzDoor G (q 6) qh D F ++ (lzQ G 4 (q 0) 8 (fun i => some (ih i)) ++ (lzI G (ih rr) 40 g)))))) := by
  have hA : inR (nI rr) 0 7 = true := inR_row hrw
  have hB : inR (nI s) 0 (D 2 - 1) = true := inR_ok hN hs (by omega)
  refine rw_start (S := Unit) (cc := cX3_kinds) (maxL := 7) (ret := (some .int)) (by decide) rfl (Nat.le_of_ble_eq_true rfl) ?_
  intro pp ee ss mm bl me cd A hx hb hr hlk hml hts hown hP hK hD hAe hS ls hl
  have hA0 : ∀ zz : Nat, lzA (lzX x q S ++ (lzI G (q 2) 8 ln ++ (lzDoor G (q 6) qh D F ++ (lzQ G 4 (q 0) 8 (fun i => some (ih i)) ++ (lzI G (ih rr) 40 g))))) zz → A zz := fun zz h9 => by rw [hAe]; exact h9
  rw [← hAe]
  clear hAe
  have hown : ss.vm.findClass RX3 = some mm.cls := hown
  have hw1 := hts (.fieldLink RX3 38 "LampSquares" "here" "LLampSquares$Door;") (List.mem_of_getElem? (i := 1) rfl)
  have hw3 := hts (.fieldLink RX3 246 "LampSquares$Door" "visitors" "I") (List.mem_of_getElem? (i := 3) rfl)
  have hw4 := hts (.fieldLink RX3 164 "LampSquares$Door" "shareOf" "[I") (List.mem_of_getElem? (i := 4) rfl)
  have hw5 := hts (.fieldLink RX3 11 "LampSquares" "items" "[[I") (List.mem_of_getElem? (i := 5) rfl)
  have hu_wsX10 : ∀ w ∈ wsX10, w.before ([.ref x, .int (nI s), .int (nI rr), .int (nI i)] : List Value).toArray ss = true := fun w h9 => hts w (List.mem_cons_of_mem _ (List.mem_append_right _ h9))
  have hu_wsX30 : ∀ w ∈ wsX30, w.before ([.ref x, .int (nI s), .int (nI rr), .int (nI i)] : List Value).toArray ss = true := fun w h9 => hts w (List.mem_cons_of_mem _ (List.mem_append_left _ (List.mem_append_right _ h9)))
  have hl : lv_has ls 7 [(0, .ref x), (1, .int (nI s)), (2, .int (nI rr)), (3, .int (nI i))] := hl
  refine lv_aload_n hx hb dX3_kinds_0 rfl (lv_at hl 0 rfl) ?_
  refine lz_get (G := G) (ci := 3) (v := .ref (q 6)) (C := RX3) (T := TX3) (N := 13) hx hb hu_wsX30 (fun _ h9 => h9) hown hK hP 0 rfl rfl 6 (by decide) hw1 rfl rfl dX3_kinds_1 ?_
  refine lv_iload_n hx hb dX3_kinds_4 rfl (lv_at hl 1 rfl) ?_
  have hPc := hP.sub (ws' := lzDoor G (q 6) qh D F) [2, 3, 4, 5, 6, 7, 8, 9, 10, 11, 12] rfl
  refine ro_calli (va_runV (As := [.int (nI s)]) (rest := []) ⟨hx, hb, hml, hown, hts⟩ (c_X1_isSquare l G (q 6) qh D F (nI s) ) (cwV 1 hts gX3_kinds_X1_isSquare rfl rfl rfl (by decide +kernel) ⟨Nat.le_of_ble_eq_true rfl, Nat.le_of_ble_eq_true rfl⟩) (ro_preV hK hPc hP (ci := 1) (q0 := 2) rfl rfl) rfl rfl hl.1 rfl (lv_room (Nat.le_of_ble_eq_true rfl)) dX3_kinds_5 ⟨Nat.zero_le _, Nat.zero_le _⟩) (fun r_1 hr_1 => ?_)
  refine lv_if_eq (tgt := 18) hx hb dX3_kinds_8 (by decide) (fun c_8 => ?_) (fun c_8 => ?_)
  · skip
    have c_8 := b2_z hr_1 c_8
    exact Bool.noConfusion (hB.symm.trans c_8)
  · skip
    have c_8 := b2_n hr_1 c_8
    refine lv_iload_n hx hb dX3_kinds_11 rfl (lv_at hl 2 rfl) ?_
    refine ro_calli (va_runS (As := [.int (nI rr)]) (rest := []) ⟨hx, hb, hml, hown, hts⟩ (c_X3_isRow l G (nI rr) ) (cwS 1 hts gX3_kinds_X3_isRow rfl rfl rfl (by decide +kernel) ⟨Nat.le_of_ble_eq_true rfl, Nat.le_of_ble_eq_true rfl⟩) (ro_pre hK (fun k q h => by simp at h)) rfl rfl hl.1 rfl (lv_room (Nat.le_of_ble_eq_true rfl)) dX3_kinds_12 ⟨Nat.zero_le _, Nat.zero_le _⟩) (fun r_2 hr_2 => ?_)
    refine lv_if_ne (tgt := 21) hx hb dX3_kinds_15 (by decide) (fun c_15 => ?_) (fun c_15 => ?_)
    · skip
      have c_15 := b2_n hr_2 c_15
      refine lv_aload_n hx hb dX3_kinds_21 rfl (lv_at hl 0 rfl) ?_
      refine lv_iload_n hx hb dX3_kinds_22 rfl (lv_at hl 2 rfl) ?_
      refine lv_iload_n hx hb dX3_kinds_23 rfl (lv_at hl 3 rfl) ?_
      refine lv_aload_n hx hb dX3_kinds_24 rfl (lv_at hl 0 rfl) ?_
      refine lz_get (G := G) (ci := 3) (v := .ref (q 6)) (C := RX3) (T := TX3) (N := 13) hx hb hu_wsX30 (fun _ h9 => h9) hown hK hP 0 rfl rfl 6 (by decide) hw1 rfl rfl dX3_kinds_25 ?_
      refine lz_get (G := G) (ci := 1) (v := .int (D 3)) (C := RX1) (T := TX1) (N := 14) hx hb hu_wsX10 (fun _ h9 => h9) hown hK hP 2 rfl rfl 3 (by decide) hw3 rfl rfl dX3_kinds_28 ?_
      have hPc := hP.sub (ws' := (lzX x q S ++ lzI G (q 2) 8 ln)) [0, 1] rfl
      have hDc := hD.sub (ws' := (lzX x q S ++ lzI G (q 2) 8 ln)) [0, 1] (by decide) rfl
      have hFc : ∀ zz : Nat, lzA (lzX x q S ++ lzI G (q 2) 8 ln) zz → A zz := lz_free hD [0, 1] rfl
      refine va_calli (va_runV (As := [.int (nI rr), .int (nI i), .int (D 3)]) (rest := []) ⟨hx, hb, hml, hown, hts⟩ (c_X3_lookAt l G x q S ln rr (nI i) (D 3) (hrw)) (cwV 3 hts gX3_kinds_X3_lookAt rfl rfl rfl (by decide +kernel) ⟨Nat.le_of_ble_eq_true rfl, Nat.le_of_ble_eq_true rfl⟩) (rw_preV hK hPc hDc hP (ci := 3) (q0 := 0) rfl rfl) rfl rfl hl.1 rfl (lv_room (Nat.le_of_ble_eq_true rfl)) dX3_kinds_31 ⟨Nat.zero_le _, Nat.zero_le _⟩) hS (fun q _ h => hFc q h) hFc (fun r_3 u_4 t9 H1 locs ht hvm hr_3 hB hz1 hk1 hS => ?_)
      replace hB : va_P G.1 lzC _ t9.heap := hB
      rw [ht] at hB
      obtain ⟨hP, hD⟩ := lz_join (wc := (lzX x q S ++ lzI G (q 2) 8 ln)) (wr := ([(q 6, .inr (1, [.int (D 0), .int (D 1), .int (D 2), .int (D 3), .ref (qh 4), .ref (qh 5), .ref (qh 6), .ref (qh 7), .ref (qh 8), .ref (qh 9), .ref (qh 10), .ref (qh 11), .ref (qh 12), .ref (qh 13)])), (qh 4, .inl (G.2 0, 8, .inl (F 4))), (qh 5, .inl (G.2 0, 8, .inl (F 5))), (qh 6, .inl (G.2 0, 8, .inl (F 6))), (qh 7, .inl (G.2 0, 8, .inl (F 7))), (qh 8, .inl (G.2 0, 8, .inl (F 8))), (qh 9, .inl (G.2 0, 5, .inl (F 9))), (qh 10, .inl (G.2 0, 5, .inl (F 10))), (qh 11, .inl (G.2 0, 5, .inl (F 11))), (qh 12, .inl (G.2 0, 5, .inl (F 12))), (qh 13, .inl (G.2 0, 5, .inl (F 13))), (q 0, .inl (G.2 4, 8, .inr (.inr (.inr (.inr (fun i => some (ih i))))))), ((ih rr), .inl (G.2 0, 40, .inl g))] : va_W)) (w1 := (lzX x q (upd S 3 (lookF (ln rr) (nI i) (D 3))) ++ lzI G (q 2) 8 ln)) hP hD [0, 1] [2, 3, 4, 5, 6, 7, 8, 9, 10, 11, 12, 13, 14] rfl rfl (by decide) (by decide) rfl hk1 hB
      replace hP := hP.sub (ws' := (lzX x q (upd S 3 (lookF (ln rr) (nI i) (D 3))) ++ (lzI G (q 2) 8 ln ++ (lzDoor G (q 6) qh D F ++ (lzQ G 4 (q 0) 8 (fun i => some (ih i)) ++ (lzI G (ih rr) 40 g)))))) [13, 14, 0, 1, 2, 3, 4, 5, 6, 7, 8, 9, 10, 11, 12] rfl
      replace hD := hD.sub (ws' := (lzX x q (upd S 3 (lookF (ln rr) (nI i) (D 3))) ++ (lzI G (q 2) 8 ln ++ (lzDoor G (q 6) qh D F ++ (lzQ G 4 (q 0) 8 (fun i => some (ih i)) ++ (lzI G (ih rr) 40 g)))))) [13, 14, 0, 1, 2, 3, 4, 5, 6, 7, 8, 9, 10, 11, 12] (by decide) rfl
      clear ht hvm hB hz1 hk1
      generalize H1 = H at hP hS ⊢
      refine lz_top (y := lookV (ln rr) (nI i) (D 3)) hr_3 ?_
      refine lv_istore (lv' := [(4, .int (lookV (ln rr) (nI i) (D 3))), (0, .ref x), (1, .int (nI s)), (2, .int (nI rr)), (3, .int (nI i))]) hx hb dX3_kinds_34 hl (by decide) rfl (fun ls hl => ?_)
      refine lv_iload hx hb dX3_kinds_36 (lv_at hl 0 rfl) ?_
      refine lv_if_eq (tgt := 44) hx hb dX3_kinds_38 (by decide) (fun c_38 => ?_) (fun c_38 => ?_)
      · skip
        refine lv_iconst (v := 0) hx hb dX3_kinds_44 (by decide) ?_
        refine lv_istore (lv' := [(5, .int 0), (4, .int (lookV (ln rr) (nI i) (D 3))), (0, .ref x), (1, .int (nI s)), (2, .int (nI rr)), (3, .int (nI i))]) hx hb dX3_kinds_45 hl (by decide) rfl (fun ls hl => ?_)
        refine lv_iconst (v := 1) hx hb dX3_kinds_47 (by decide) ?_
        refine lv_istore (lv' := [(6, .int 1), (5, .int 0), (4, .int (lookV (ln rr) (nI i) (D 3))), (0, .ref x), (1, .int (nI s)), (2, .int (nI rr)), (3, .int (nI i))]) hx hb dX3_kinds_48 hl (by decide) rfl (fun ls hl => ?_)
        have J_50 : ∀ (n9 : Nat), ∀ (k : Nat), (k ≤ 6) → (1 ≤ k) → 6 - k < n9 → ∀ (H : Heap) (locs : List Loc), va_P G.1 lzC (lzX x q (upd S 3 (lookF (ln rr) (nI i) (D 3))) ++ (lzI G (q 2) 8 ln ++ (lzDoor G (q 6) qh D F ++ (lzQ G 4 (q 0) 8 (fun i => some (ih i)) ++ (lzI G (ih rr) 40 g))))) H → va_D A (lzX x q (upd S 3 (lookF (ln rr) (nI i) (D 3))) ++ (lzI G (q 2) 8 ln ++ (lzDoor G (q 6) qh D F ++ (lzQ G 4 (q 0) 8 (fun i => some (ih i)) ++ (lzI G (ih rr) 40 g))))) → va_S A ss.heap H locs → ∀ ls : Array Slot, lv_has ls 7 [(5, .int (kndC F g s i M k)), (6, .int (nI k)), (4, .int (lookV (ln rr) (nI i) (D 3))), (0, .ref x), (1, .int (nI s)), (2, .int (nI rr)), (3, .int (nI i))] → W pp l ee ({ frames := 3, cells := 0, slots := 0, locals := 72 }) ss mm ([.ref x, .int (nI s), .int (nI rr), .int (nI i)] : List Value).toArray bl me cd H locs 0 0 (MQ bl (va_Qi (S := Unit) (fun (r : Int32) (_ : Unit) => r = kndC F g s i M 6) (rwB G (fun _ : Unit => (lzX x q (upd S 3 (lookF (ln rr) (nI i) (D 3))) ++ (lzI G (q 2) 8 ln ++ (lzDoor G (q 6) qh D F ++ (lzQ G 4 (q 0) 8 (fun i => some (ih i)) ++ (lzI G (ih rr) 40 g))))))) A) ([.ref x, .int (nI s), .int (nI rr), .int (nI i)] : List Value).toArray ss 0 0 A) (F0 mm 50 ls []) := by
          intro n9
          induction n9 with
          | zero => intro k hk hk1 hn; exact absurd hn (Nat.not_lt_zero _)
          | succ n9 ih_50 =>
            intro k hk hk1 hn_50 H locs hP hD hS ls hl
            refine lv_iload hx hb dX3_kinds_50 (lv_at hl 1 rfl) ?_
            refine lv_iconst (v := 5) hx hb dX3_kinds_52 (by decide) ?_
            refine lv_icmp_gt (tgt := 99) hx hb dX3_kinds_53 (by decide) (fun c_53 => ?_) (fun c_53 => ?_)
            · skip
              have c_53' := Int32.not_le.mpr c_53
              have hk2 : 6 ≤ k := by have h9 : ¬ nI k ≤ 5 := fun h8 => absurd h8 (Int32.not_le.mpr c_53); have := mt (nI_leI (b := 5) (by omega) (by decide)).mpr h9; omega
              have hk3 : k = 6 := by omega
              refine lv_iload hx hb dX3_kinds_99 (lv_at hl 0 rfl) ?_
              exact rw_iret (S := Unit) (G := G) (Wd := fun _ : Unit => (lzX x q (upd S 3 (lookF (ln rr) (nI i) (D 3))) ++ (lzI G (q 2) 8 ln ++ (lzDoor G (q 6) qh D F ++ (lzQ G 4 (q 0) 8 (fun i => some (ih i)) ++ (lzI G (ih rr) 40 g)))))) () hx hb hr hlk dX3_kinds_101 hS (hP) (by rw [hk3])
            · skip
              have c_53' := Int32.not_lt.mp c_53
              have hk2 : k < 6 := by have h9 : nI k ≤ 5 := c_53'; have := (nI_leI (b := 5) (by omega) (by decide)).mp h9; omega
              have hk0 : ¬ k = 0 := by omega
              refine lv_aload_n hx hb dX3_kinds_56 rfl (lv_at hl 3 rfl) ?_
              refine lz_get (G := G) (ci := 3) (v := .ref (q 6)) (C := RX3) (T := TX3) (N := 13) hx hb hu_wsX30 (fun _ h9 => h9) hown hK hP 0 rfl rfl 6 (by decide) hw1 rfl rfl dX3_kinds_57 ?_
              refine lv_iload hx hb dX3_kinds_60 (lv_at hl 1 rfl) ?_
              refine lv_aload_n hx hb dX3_kinds_62 rfl (lv_at hl 3 rfl) ?_
              refine lz_get (G := G) (ci := 3) (v := .ref (q 6)) (C := RX3) (T := TX3) (N := 13) hx hb hu_wsX30 (fun _ h9 => h9) hown hK hP 0 rfl rfl 6 (by decide) hw1 rfl rfl dX3_kinds_63 ?_
              refine lz_get (G := G) (ci := 1) (v := .ref (qh 5)) (C := RX1) (T := TX1) (N := 14) hx hb hu_wsX10 (fun _ h9 => h9) hown hK hP 2 rfl rfl 5 (by decide) hw4 rfl rfl dX3_kinds_66 ?_
              refine lv_iload_n hx hb dX3_kinds_69 rfl (lv_at hl 4 rfl) ?_
              refine lz_iald (f := F 5) hx hb hK hP 4 rfl s (by omega) (Nat.le_of_ble_eq_true rfl) dX3_kinds_70 ?_
              refine lv_aload_n hx hb dX3_kinds_71 rfl (lv_at hl 3 rfl) ?_
              refine lz_get (G := G) (ci := 3) (v := .ref (q 0)) (C := RX3) (T := TX3) (N := 13) hx hb hu_wsX30 (fun _ h9 => h9) hown hK hP 0 rfl rfl 0 (by decide) hw5 rfl rfl dX3_kinds_72 ?_
              refine lv_iload_n hx hb dX3_kinds_75 rfl (lv_at hl 5 rfl) ?_
              refine lz_aaldI (f := fun i => some (ih i)) hx hb hK hP 13 rfl rr (ih rr) rfl (by omega) (Nat.le_of_ble_eq_true rfl) dX3_kinds_76 ?_
              refine lv_iload_n hx hb dX3_kinds_77 rfl (lv_at hl 6 rfl) ?_
              have hPc := hP.sub (ws' := (lzDoor G (q 6) qh D F ++ lzI G (ih rr) 40 g)) [2, 3, 4, 5, 6, 7, 8, 9, 10, 11, 12, 14] rfl
              refine ro_calli (va_runV (As := [.int (nI k), .int ((F 5) s), .ref (ih rr), .int (nI i)]) (rest := []) ⟨hx, hb, hml, hown, hts⟩ (c_X1_isClickedSo l G (q 6) qh D F (ih rr) g (nI k) ((F 5) s) i M (hM) (hM5) (by omega)) (cwV 4 hts gX3_kinds_X1_isClickedSo rfl rfl rfl (by decide +kernel) ⟨Nat.le_of_ble_eq_true rfl, Nat.le_of_ble_eq_true rfl⟩) (ro_preV hK hPc hP (ci := 1) (q0 := 2) rfl rfl) rfl rfl hl.1 rfl (lv_room (Nat.le_of_ble_eq_true rfl)) dX3_kinds_78 ⟨Nat.zero_le _, Nat.zero_le _⟩) (fun r_5 hr_5 => ?_)
              refine lv_if_eq (tgt := 93) hx hb dX3_kinds_81 (by decide) (fun c_81 => ?_) (fun c_81 => ?_)
              · skip
                have c_81 := b2_z hr_5 c_81
                refine lv_iinc (v := nI (k + 1)) (lv' := [(6, .int (nI (k + 1))), (5, .int (kndC F g s i M k)), (4, .int (lookV (ln rr) (nI i) (D 3))), (0, .ref x), (1, .int (nI s)), (2, .int (nI rr)), (3, .int (nI i))]) hx hb dX3_kinds_93 hl (k := 1) rfl (nI_1 _) (by decide) rfl (fun ls hl => ?_)
                refine lv_goto (tgt := 50) hx hb dX3_kinds_96 (by decide) ?_
                rw [show (kndC F g s i M k : Int32) = kndC F g s i M (k + 1) from by have hq := c_81; change allCV F g i _ _ _ = _ at hq; simp [shrC, kndC, whoC, carC, bitsI, hq, hk0]] at hl
                exact ih_50 (k + 1) (by omega) (by omega) (by omega) _ _ hP hD hS _ (lv_sub hl [1, 0, 2, 3, 4, 5, 6] rfl)
              · skip
                have c_81 := b2_n hr_5 c_81
                refine lv_iload hx hb dX3_kinds_84 (lv_at hl 0 rfl) ?_
                refine lv_iconst (v := 1) hx hb dX3_kinds_86 (by decide) ?_
                refine lv_iload hx hb dX3_kinds_87 (lv_at hl 1 rfl) ?_
                refine lv_ishl hx hb dX3_kinds_89 ?_
                refine lv_ior hx hb dX3_kinds_90 ?_
                refine lv_topi (fun x_6 ex_6 => ?_)
                refine lv_istore (lv' := [(5, .int x_6), (6, .int (nI k)), (4, .int (lookV (ln rr) (nI i) (D 3))), (0, .ref x), (1, .int (nI s)), (2, .int (nI rr)), (3, .int (nI i))]) hx hb dX3_kinds_91 hl (by decide) rfl (fun ls hl => ?_)
                refine lv_iinc (v := nI (k + 1)) (lv' := [(6, .int (nI (k + 1))), (5, .int x_6), (4, .int (lookV (ln rr) (nI i) (D 3))), (0, .ref x), (1, .int (nI s)), (2, .int (nI rr)), (3, .int (nI i))]) hx hb dX3_kinds_93 hl (k := 1) rfl (nI_1 _) (by decide) rfl (fun ls hl => ?_)
                refine lv_goto (tgt := 50) hx hb dX3_kinds_96 (by decide) ?_
                obtain rfl : x_6 = kndC F g s i M (k + 1) := by rw [ex_6]; have hq := c_81; change allCV F g i _ _ _ = _ at hq; simp [shrC, kndC, whoC, carC, bitsI, hq, hk0]
                exact ih_50 (k + 1) (by omega) (by omega) (by omega) _ _ hP hD hS _ (lv_sub hl [1, 0, 2, 3, 4, 5, 6] rfl)
        rw [show (0 : Int32) = kndC F g s i M 1 from by simp [kndC, bitsI]] at hl
        exact J_50 _ 1 (by omega) (by omega) (Nat.lt_succ_self _) _ _ hP hD hS _ (lv_sub hl [1, 0, 2, 3, 4, 5, 6] rfl)
      · skip
        exact absurd hno c_38
    · skip
      have c_15 := b2_z hr_2 c_15
      exact Bool.noConfusion (hA.symm.trans c_15)
set_option maxHeartbeats 4000000 in
set_option maxRecDepth 100000 in
theorem c_X3_who_bad (l : Launch) (G : lzG) (x : Nat) (q : Nat → Nat) (S : Nat → Int32) (qh : Nat → Nat) (D : Nat → Int32) (F : Nat → Nat → Int32) (a b : Int32) (hR : (decide (0 < D 2) && decide (0 < D 3)) = true) (hbad : (inR a 0 7) = false) : Met l yX3_who wsX3_who ({ frames := 2, cells := 0, slots := 0, locals := 42 }) (va_Pc [.ref x, .int a, .int b] (roP G (lzX x q S ++ lzDoor G (q 6) qh D F))) (vp_Si (fun r => r = -1000001)) 0 0 (fun _ => False) := by
  refine ro_start (cc := cX3_who) (maxL := 6) (ret := (some .int)) (by decide) rfl (Nat.le_of_ble_eq_true rfl) ?_
  intro pp ee ss mm bl me cd hx hb hr hlk hml hts hown hP hK ls hl
  have hown : ss.vm.findClass RX3 = some mm.cls := hown
  have hw1 := hts (.fieldLink RX3 38 "LampSquares" "here" "LLampSquares$Door;") (List.mem_of_getElem? (i := 1) rfl)
  have hw3 := hts (.constant RX3 81 (-1000001)) (List.mem_of_getElem? (i := 3) rfl)
  have hu_wsX30 : ∀ w ∈ wsX30, w.before ([.ref x, .int a, .int b] : List Value).toArray ss = true := fun w h9 => hts w (List.mem_cons_of_mem _ (List.mem_append_left _ (List.mem_append_right _ h9)))
  have hl : lv_has ls 6 [(0, .ref x), (1, .int a), (2, .int b)] := hl
  refine lv_aload_n hx hb dX3_who_0 rfl (lv_at hl 0 rfl) ?_
  refine lz_get (G := G) (ci := 3) (v := .ref (q 6)) (C := RX3) (T := TX3) (N := 13) hx hb hu_wsX30 (fun _ h9 => h9) hown hK hP 0 rfl rfl 6 (by decide) hw1 rfl rfl dX3_who_1 ?_
  have hPc := hP.sub (ws' := lzDoor G (q 6) qh D F) [1, 2, 3, 4, 5, 6, 7, 8, 9, 10, 11] rfl
  refine ro_calli (va_runV (As := []) (rest := []) ⟨hx, hb, hml, hown, hts⟩ (c_X1_isRead l G (q 6) qh D F ) (cwV 0 hts gX3_who_X1_isRead rfl rfl rfl (by decide +kernel) ⟨Nat.le_of_ble_eq_true rfl, Nat.le_of_ble_eq_true rfl⟩) (ro_preV hK hPc hP (ci := 1) (q0 := 1) rfl rfl) rfl rfl hl.1 rfl (lv_room (Nat.le_of_ble_eq_true rfl)) dX3_who_4 ⟨Nat.zero_le _, Nat.zero_le _⟩) (fun r_1 hr_1 => ?_)
  refine lv_if_ne (tgt := 13) hx hb dX3_who_7 (by decide) (fun c_7 => ?_) (fun c_7 => ?_)
  · skip
    have c_7 := b2_n hr_1 c_7
    refine lv_iload_n hx hb dX3_who_13 rfl (lv_at hl 1 rfl) ?_
    refine ro_calli (va_runS (As := [.int a]) (rest := []) ⟨hx, hb, hml, hown, hts⟩ (c_X3_isRow l G a ) (cwS 1 hts gX3_who_X3_isRow rfl rfl rfl (by decide +kernel) ⟨Nat.le_of_ble_eq_true rfl, Nat.le_of_ble_eq_true rfl⟩) (ro_pre hK (fun k q h => by simp at h)) rfl rfl hl.1 rfl (lv_room (Nat.le_of_ble_eq_true rfl)) dX3_who_14 ⟨Nat.zero_le _, Nat.zero_le _⟩) (fun r_2 hr_2 => ?_)
    refine lv_if_ne (tgt := 23) hx hb dX3_who_17 (by decide) (fun c_17 => ?_) (fun c_17 => ?_)
    · skip
      have c_17 := b2_n hr_2 c_17
      exact Bool.noConfusion (hbad.symm.trans c_17)
    · skip
      have c_17 := b2_z hr_2 c_17
      refine lv_ldc hx hb hown hw3 dX3_who_20 ?_
      exact ro_iret hx hb hr hlk dX3_who_22 (rfl)
  · skip
    have c_7 := b2_z hr_1 c_7
    exact Bool.noConfusion (hR.symm.trans c_7)
set_option maxHeartbeats 4000000 in
set_option maxRecDepth 100000 in
theorem c_X3_who_state (l : Launch) (G : lzG) (x : Nat) (q : Nat → Nat) (S : Nat → Int32) (qh : Nat → Nat) (D : Nat → Int32) (F : Nat → Nat → Int32) (a b : Int32) (hR : (decide (0 < D 2) && decide (0 < D 3)) = false) : Met l yX3_who wsX3_who ({ frames := 1, cells := 0, slots := 0, locals := 20 }) (va_Pc [.ref x, .int a, .int b] (roP G (lzX x q S ++ lzDoor G (q 6) qh D F))) (vp_Si (fun r => r = -1000002)) 0 0 (fun _ => False) := by
  refine ro_start (cc := cX3_who) (maxL := 6) (ret := (some .int)) (by decide) rfl (Nat.le_of_ble_eq_true rfl) ?_
  intro pp ee ss mm bl me cd hx hb hr hlk hml hts hown hP hK ls hl
  have hown : ss.vm.findClass RX3 = some mm.cls := hown
  have hw1 := hts (.fieldLink RX3 38 "LampSquares" "here" "LLampSquares$Door;") (List.mem_of_getElem? (i := 1) rfl)
  have hw2 := hts (.constant RX3 137 (-1000002)) (List.mem_of_getElem? (i := 2) rfl)
  have hu_wsX30 : ∀ w ∈ wsX30, w.before ([.ref x, .int a, .int b] : List Value).toArray ss = true := fun w h9 => hts w (List.mem_cons_of_mem _ (List.mem_append_left _ (List.mem_append_right _ h9)))
  have hl : lv_has ls 6 [(0, .ref x), (1, .int a), (2, .int b)] := hl
  refine lv_aload_n hx hb dX3_who_0 rfl (lv_at hl 0 rfl) ?_
  refine lz_get (G := G) (ci := 3) (v := .ref (q 6)) (C := RX3) (T := TX3) (N := 13) hx hb hu_wsX30 (fun _ h9 => h9) hown hK hP 0 rfl rfl 6 (by decide) hw1 rfl rfl dX3_who_1 ?_
  have hPc := hP.sub (ws' := lzDoor G (q 6) qh D F) [1, 2, 3, 4, 5, 6, 7, 8, 9, 10, 11] rfl
  refine ro_calli (va_runV (As := []) (rest := []) ⟨hx, hb, hml, hown, hts⟩ (c_X1_isRead l G (q 6) qh D F ) (cwV 0 hts gX3_who_X1_isRead rfl rfl rfl (by decide +kernel) ⟨Nat.le_of_ble_eq_true rfl, Nat.le_of_ble_eq_true rfl⟩) (ro_preV hK hPc hP (ci := 1) (q0 := 1) rfl rfl) rfl rfl hl.1 rfl (lv_room (Nat.le_of_ble_eq_true rfl)) dX3_who_4 ⟨Nat.zero_le _, Nat.zero_le _⟩) (fun r_1 hr_1 => ?_)
  refine lv_if_ne (tgt := 13) hx hb dX3_who_7 (by decide) (fun c_7 => ?_) (fun c_7 => ?_)
  · skip
    have c_7 := b2_n hr_1 c_7
    exact Bool.noConfusion (hR.symm.trans c_7)
  · skip
    have c_7 := b2_z hr_1 c_7
    refine lv_ldc hx hb hown hw2 dX3_who_10 ?_
    exact ro_iret hx hb hr hlk dX3_who_12 (rfl)
set_option maxHeartbeats 4000000 in
set_option maxRecDepth 100000 in
theorem c_X3_who_no (l : Launch) (G : lzG) (x : Nat) (q : Nat → Nat) (S ln : Nat → Int32) (qh : Nat → Nat) (D : Nat → Int32) (F : Nat → Nat → Int32) (rr : Nat) (i : Int32) (hR : (decide (0 < D 2) && decide (0 < D 3)) = true) (hrw : rr < 8) (hno : ¬ lookV (ln rr) i (D 2) = 0) : Met l yX3_who wsX3_who ({ frames := 2, cells := 0, slots := 0, locals := 46 }) (va_Pc [.ref x, .int (nI rr), .int i] (rwP G (lzX x q S ++ (lzI G (q 2) 8 ln ++ (lzDoor G (q 6) qh D F))))) (va_Qi (S := Unit) (fun (r : Int32) (_ : Unit) => r = lookV (ln rr) i (D 2)) (rwB G (fun _ : Unit => (lzX x q (upd S 3 (lookF (ln rr) i (D 2))) ++ (lzI G (q 2) 8 ln ++ (lzDoor G (q 6) qh D F))))) (lzA (lzX x q S ++ (lzI G (q 2) 8 ln ++ (lzDoor G (q 6) qh D F))))) 0 0 (lzA (lzX x q S ++ (lzI G (q 2) 8 ln ++ (lzDoor G (q 6) qh D F)))) := by
  have hA : inR (nI rr) 0 7 = true := inR_row hrw
  refine rw_start (S := Unit) (cc := cX3_who) (maxL := 6) (ret := (some .int)) (by decide) rfl (Nat.le_of_ble_eq_true rfl) ?_
  intro pp ee ss mm bl me cd A hx hb hr hlk hml hts hown hP hK hD hAe hS ls hl
  have hA0 : ∀ zz : Nat, lzA (lzX x q S ++ (lzI G (q 2) 8 ln ++ (lzDoor G (q 6) qh D F))) zz → A zz := fun zz h9 => by rw [hAe]; exact h9
  rw [← hAe]
  clear hAe
  have hown : ss.vm.findClass RX3 = some mm.cls := hown
  have hw1 := hts (.fieldLink RX3 38 "LampSquares" "here" "LLampSquares$Door;") (List.mem_of_getElem? (i := 1) rfl)
  have hw4 := hts (.fieldLink RX3 131 "LampSquares$Door" "squares" "I") (List.mem_of_getElem? (i := 4) rfl)
  have hu_wsX10 : ∀ w ∈ wsX10, w.before ([.ref x, .int (nI rr), .int i] : List Value).toArray ss = true := fun w h9 => hts w (List.mem_cons_of_mem _ (List.mem_append_right _ h9))
  have hu_wsX30 : ∀ w ∈ wsX30, w.before ([.ref x, .int (nI rr), .int i] : List Value).toArray ss = true := fun w h9 => hts w (List.mem_cons_of_mem _ (List.mem_append_left _ (List.mem_append_right _ h9)))
  have hl : lv_has ls 6 [(0, .ref x), (1, .int (nI rr)), (2, .int i)] := hl
  refine lv_aload_n hx hb dX3_who_0 rfl (lv_at hl 0 rfl) ?_
  refine lz_get (G := G) (ci := 3) (v := .ref (q 6)) (C := RX3) (T := TX3) (N := 13) hx hb hu_wsX30 (fun _ h9 => h9) hown hK hP 0 rfl rfl 6 (by decide) hw1 rfl rfl dX3_who_1 ?_
  have hPc := hP.sub (ws' := lzDoor G (q 6) qh D F) [2, 3, 4, 5, 6, 7, 8, 9, 10, 11, 12] rfl
  refine ro_calli (va_runV (As := []) (rest := []) ⟨hx, hb, hml, hown, hts⟩ (c_X1_isRead l G (q 6) qh D F ) (cwV 0 hts gX3_who_X1_isRead rfl rfl rfl (by decide +kernel) ⟨Nat.le_of_ble_eq_true rfl, Nat.le_of_ble_eq_true rfl⟩) (ro_preV hK hPc hP (ci := 1) (q0 := 2) rfl rfl) rfl rfl hl.1 rfl (lv_room (Nat.le_of_ble_eq_true rfl)) dX3_who_4 ⟨Nat.zero_le _, Nat.zero_le _⟩) (fun r_1 hr_1 => ?_)
  refine lv_if_ne (tgt := 13) hx hb dX3_who_7 (by decide) (fun c_7 => ?_) (fun c_7 => ?_)
  · skip
    have c_7 := b2_n hr_1 c_7
    refine lv_iload_n hx hb dX3_who_13 rfl (lv_at hl 1 rfl) ?_
    refine ro_calli (va_runS (As := [.int (nI rr)]) (rest := []) ⟨hx, hb, hml, hown, hts⟩ (c_X3_isRow l G (nI rr) ) (cwS 1 hts gX3_who_X3_isRow rfl rfl rfl (by decide +kernel) ⟨Nat.le_of_ble_eq_true rfl, Nat.le_of_ble_eq_true rfl⟩) (ro_pre hK (fun k q h => by simp at h)) rfl rfl hl.1 rfl (lv_room (Nat.le_of_ble_eq_true rfl)) dX3_who_14 ⟨Nat.zero_le _, Nat.zero_le _⟩) (fun r_2 hr_2 => ?_)
    refine lv_if_ne (tgt := 23) hx hb dX3_who_17 (by decide) (fun c_17 => ?_) (fun c_17 => ?_)
    · skip
      have c_17 := b2_n hr_2 c_17
      refine lv_aload_n hx hb dX3_who_23 rfl (lv_at hl 0 rfl) ?_
      refine lv_iload_n hx hb dX3_who_24 rfl (lv_at hl 1 rfl) ?_
      refine lv_iload_n hx hb dX3_who_25 rfl (lv_at hl 2 rfl) ?_
      refine lv_aload_n hx hb dX3_who_26 rfl (lv_at hl 0 rfl) ?_
      refine lz_get (G := G) (ci := 3) (v := .ref (q 6)) (C := RX3) (T := TX3) (N := 13) hx hb hu_wsX30 (fun _ h9 => h9) hown hK hP 0 rfl rfl 6 (by decide) hw1 rfl rfl dX3_who_27 ?_
      refine lz_get (G := G) (ci := 1) (v := .int (D 2)) (C := RX1) (T := TX1) (N := 14) hx hb hu_wsX10 (fun _ h9 => h9) hown hK hP 2 rfl rfl 2 (by decide) hw4 rfl rfl dX3_who_30 ?_
      have hPc := hP.sub (ws' := (lzX x q S ++ lzI G (q 2) 8 ln)) [0, 1] rfl
      have hDc := hD.sub (ws' := (lzX x q S ++ lzI G (q 2) 8 ln)) [0, 1] (by decide) rfl
      have hFc : ∀ zz : Nat, lzA (lzX x q S ++ lzI G (q 2) 8 ln) zz → A zz := lz_free hD [0, 1] rfl
      refine va_calli (va_runV (As := [.int (nI rr), .int i, .int (D 2)]) (rest := []) ⟨hx, hb, hml, hown, hts⟩ (c_X3_lookAt l G x q S ln rr i (D 2) (hrw)) (cwV 3 hts gX3_who_X3_lookAt rfl rfl rfl (by decide +kernel) ⟨Nat.le_of_ble_eq_true rfl, Nat.le_of_ble_eq_true rfl⟩) (rw_preV hK hPc hDc hP (ci := 3) (q0 := 0) rfl rfl) rfl rfl hl.1 rfl (lv_room (Nat.le_of_ble_eq_true rfl)) dX3_who_33 ⟨Nat.zero_le _, Nat.zero_le _⟩) hS (fun q _ h => hFc q h) hFc (fun r_3 u_4 t9 H1 locs ht hvm hr_3 hB hz1 hk1 hS => ?_)
      replace hB : va_P G.1 lzC _ t9.heap := hB
      rw [ht] at hB
      obtain ⟨hP, hD⟩ := lz_join (wc := (lzX x q S ++ lzI G (q 2) 8 ln)) (wr := ([(q 6, .inr (1, [.int (D 0), .int (D 1), .int (D 2), .int (D 3), .ref (qh 4), .ref (qh 5), .ref (qh 6), .ref (qh 7), .ref (qh 8), .ref (qh 9), .ref (qh 10), .ref (qh 11), .ref (qh 12), .ref (qh 13)])), (qh 4, .inl (G.2 0, 8, .inl (F 4))), (qh 5, .inl (G.2 0, 8, .inl (F 5))), (qh 6, .inl (G.2 0, 8, .inl (F 6))), (qh 7, .inl (G.2 0, 8, .inl (F 7))), (qh 8, .inl (G.2 0, 8, .inl (F 8))), (qh 9, .inl (G.2 0, 5, .inl (F 9))), (qh 10, .inl (G.2 0, 5, .inl (F 10))), (qh 11, .inl (G.2 0, 5, .inl (F 11))), (qh 12, .inl (G.2 0, 5, .inl (F 12))), (qh 13, .inl (G.2 0, 5, .inl (F 13)))] : va_W)) (w1 := (lzX x q (upd S 3 (lookF (ln rr) i (D 2))) ++ lzI G (q 2) 8 ln)) hP hD [0, 1] [2, 3, 4, 5, 6, 7, 8, 9, 10, 11, 12] rfl rfl (by decide) (by decide) rfl hk1 hB
      replace hP := hP.sub (ws' := (lzX x q (upd S 3 (lookF (ln rr) i (D 2))) ++ (lzI G (q 2) 8 ln ++ (lzDoor G (q 6) qh D F)))) [11, 12, 0, 1, 2, 3, 4, 5, 6, 7, 8, 9, 10] rfl
      replace hD := hD.sub (ws' := (lzX x q (upd S 3 (lookF (ln rr) i (D 2))) ++ (lzI G (q 2) 8 ln ++ (lzDoor G (q 6) qh D F)))) [11, 12, 0, 1, 2, 3, 4, 5, 6, 7, 8, 9, 10] (by decide) rfl
      clear ht hvm hB hz1 hk1
      generalize H1 = H at hP hS ⊢
      refine lz_top (y := lookV (ln rr) i (D 2)) hr_3 ?_
      refine lv_istore_n (lv' := [(3, .int (lookV (ln rr) i (D 2))), (0, .ref x), (1, .int (nI rr)), (2, .int i)]) hx hb dX3_who_36 rfl hl (by decide) rfl (fun ls hl => ?_)
      refine lv_iload_n hx hb dX3_who_37 rfl (lv_at hl 0 rfl) ?_
      refine lv_if_eq (tgt := 43) hx hb dX3_who_38 (by decide) (fun c_38 => ?_) (fun c_38 => ?_)
      · skip
        exact absurd c_38 hno
      · skip
        refine lv_iload_n hx hb dX3_who_41 rfl (lv_at hl 0 rfl) ?_
        exact rw_iret (S := Unit) (G := G) (Wd := fun _ : Unit => (lzX x q (upd S 3 (lookF (ln rr) i (D 2))) ++ (lzI G (q 2) 8 ln ++ (lzDoor G (q 6) qh D F)))) () hx hb hr hlk dX3_who_42 hS (hP) (rfl)
    · skip
      have c_17 := b2_z hr_2 c_17
      exact Bool.noConfusion (hA.symm.trans c_17)
  · skip
    have c_7 := b2_z hr_1 c_7
    exact Bool.noConfusion (hR.symm.trans c_7)
set_option maxHeartbeats 4000000 in
set_option maxRecDepth 100000 in
theorem c_X3_who_ok (l : Launch) (G : lzG) (x : Nat) (q : Nat → Nat) (S ln : Nat → Int32) (qh : Nat → Nat) (D : Nat → Int32) (F : Nat → Nat → Int32) (ih : Nat → Nat) (rr : Nat) (g : Nat → Int32) (i N M : Nat) (hR : (decide (0 < D 2) && decide (0 < D 3)) = true) (hrw : rr < 8) (hN : D 2 = nI N) (hN8 : N ≤ 8) (hM : D 3 = nI M) (hM5 : M ≤ 5) (hno : lookV (ln rr) (nI i) (D 2) = 0) (hi40 : i + N ≤ 40) : Met l yX3_who wsX3_who ({ frames := 3, cells := 0, slots := 0, locals := 72 }) (va_Pc [.ref x, .int (nI rr), .int (nI i)] (rwP G (lzX x q S ++ (lzI G (q 2) 8 ln ++ (lzDoor G (q 6) qh D F ++ (lzQ G 4 (q 0) 8 (fun i => some (ih i)) ++ (lzI G (ih rr) 40 g))))))) (va_Qi (S := Unit) (fun (r : Int32) (_ : Unit) => r = whoC F g i N M) (rwB G (fun _ : Unit => (lzX x q (upd S 3 (lookF (ln rr) (nI i) (D 2))) ++ (lzI G (q 2) 8 ln ++ (lzDoor G (q 6) qh D F ++ (lzQ G 4 (q 0) 8 (fun i => some (ih i)) ++ (lzI G (ih rr) 40 g))))))) (lzA (lzX x q S ++ (lzI G (q 2) 8 ln ++ (lzDoor G (q 6) qh D F ++ (lzQ G 4 (q 0) 8 (fun i => some (ih i)) ++ (lzI G (ih rr) 40 g))))))) 0 0 (lzA (lzX x q S ++ (lzI G (q 2) 8 ln ++ (lzDoor G (q 6) qh D F ++ (lzQ G 4 (q 0) 8 (fun i => some (ih i)) ++ (lzI G (ih rr) 40 g)))))) := by
  have hA : inR (nI rr) 0 7 = true := inR_row hrw
  refine rw_start (S := Unit) (cc := cX3_who) (maxL := 6) (ret := (some .int)) (by decide) rfl (Nat.le_of_ble_eq_true rfl) ?_
  intro pp ee ss mm bl me cd A hx hb hr hlk hml hts hown hP hK hD hAe hS ls hl
  have hA0 : ∀ zz : Nat, lzA (lzX x q S ++ (lzI G (q 2) 8 ln ++ (lzDoor G (q 6) qh D F ++ (lzQ G 4 (q 0) 8 (fun i => some (ih i)) ++ (lzI G (ih rr) 40 g))))) zz → A zz := fun zz h9 => by rw [hAe]; exact h9
  rw [← hAe]
  clear hAe
  have hown : ss.vm.findClass RX3 = some mm.cls := hown
  have hw1 := hts (.fieldLink RX3 38 "LampSquares" "here" "LLampSquares$Door;") (List.mem_of_getElem? (i := 1) rfl)
  have hw4 := hts (.fieldLink RX3 131 "LampSquares$Door" "squares" "I") (List.mem_of_getElem? (i := 4) rfl)
  have hw5 := hts (.fieldLink RX3 246 "LampSquares$Door" "visitors" "I") (List.mem_of_getElem? (i := 5) rfl)
  have hw6 := hts (.fieldLink RX3 185 "LampSquares$Door" "careOf" "[I") (List.mem_of_getElem? (i := 6) rfl)
  have hw7 := hts (.fieldLink RX3 188 "LampSquares$Door" "earOf" "[I") (List.mem_of_getElem? (i := 7) rfl)
  have hw8 := hts (.fieldLink RX3 11 "LampSquares" "items" "[[I") (List.mem_of_getElem? (i := 8) rfl)
  have hu_wsX10 : ∀ w ∈ wsX10, w.before ([.ref x, .int (nI rr), .int (nI i)] : List Value).toArray ss = true := fun w h9 => hts w (List.mem_cons_of_mem _ (List.mem_append_right _ h9))
  have hu_wsX30 : ∀ w ∈ wsX30, w.before ([.ref x, .int (nI rr), .int (nI i)] : List Value).toArray ss = true := fun w h9 => hts w (List.mem_cons_of_mem _ (List.mem_append_left _ (List.mem_append_right _ h9)))
  have hl : lv_has ls 6 [(0, .ref x), (1, .int (nI rr)), (2, .int (nI i))] := hl
  refine lv_aload_n hx hb dX3_who_0 rfl (lv_at hl 0 rfl) ?_
  refine lz_get (G := G) (ci := 3) (v := .ref (q 6)) (C := RX3) (T := TX3) (N := 13) hx hb hu_wsX30 (fun _ h9 => h9) hown hK hP 0 rfl rfl 6 (by decide) hw1 rfl rfl dX3_who_1 ?_
  have hPc := hP.sub (ws' := lzDoor G (q 6) qh D F) [2, 3, 4, 5, 6, 7, 8, 9, 10, 11, 12] rfl
  refine ro_calli (va_runV (As := []) (rest := []) ⟨hx, hb, hml, hown, hts⟩ (c_X1_isRead l G (q 6) qh D F ) (cwV 0 hts gX3_who_X1_isRead rfl rfl rfl (by decide +kernel) ⟨Nat.le_of_ble_eq_true rfl, Nat.le_of_ble_eq_true rfl⟩) (ro_preV hK hPc hP (ci := 1) (q0 := 2) rfl rfl) rfl rfl hl.1 rfl (lv_room (Nat.le_of_ble_eq_true rfl)) dX3_who_4 ⟨Nat.zero_le _, Nat.zero_le _⟩) (fun r_1 hr_1 => ?_)
  refine lv_if_ne (tgt := 13) hx hb dX3_who_7 (by decide) (fun c_7 => ?_) (fun c_7 => ?_)
  · skip
    have c_7 := b2_n hr_1 c_7
    refine lv_iload_n hx hb dX3_who_13 rfl (lv_at hl 1 rfl) ?_
    refine ro_calli (va_runS (As := [.int (nI rr)]) (rest := []) ⟨hx, hb, hml, hown, hts⟩ (c_X3_isRow l G (nI rr) ) (cwS 1 hts gX3_who_X3_isRow rfl rfl rfl (by decide +kernel) ⟨Nat.le_of_ble_eq_true rfl, Nat.le_of_ble_eq_true rfl⟩) (ro_pre hK (fun k q h => by simp at h)) rfl rfl hl.1 rfl (lv_room (Nat.le_of_ble_eq_true rfl)) dX3_who_14 ⟨Nat.zero_le _, Nat.zero_le _⟩) (fun r_2 hr_2 => ?_)
    refine lv_if_ne (tgt := 23) hx hb dX3_who_17 (by decide) (fun c_17 => ?_) (fun c_17 => ?_)
    · skip
      have c_17 := b2_n hr_2 c_17
      refine lv_aload_n hx hb dX3_who_23 rfl (lv_at hl 0 rfl) ?_
      refine lv_iload_n hx hb dX3_who_24 rfl (lv_at hl 1 rfl) ?_
      refine lv_iload_n hx hb dX3_who_25 rfl (lv_at hl 2 rfl) ?_
      refine lv_aload_n hx hb dX3_who_26 rfl (lv_at hl 0 rfl) ?_
      refine lz_get (G := G) (ci := 3) (v := .ref (q 6)) (C := RX3) (T := TX3) (N := 13) hx hb hu_wsX30 (fun _ h9 => h9) hown hK hP 0 rfl rfl 6 (by decide) hw1 rfl rfl dX3_who_27 ?_
      refine lz_get (G := G) (ci := 1) (v := .int (D 2)) (C := RX1) (T := TX1) (N := 14) hx hb hu_wsX10 (fun _ h9 => h9) hown hK hP 2 rfl rfl 2 (by decide) hw4 rfl rfl dX3_who_30 ?_
      have hPc := hP.sub (ws' := (lzX x q S ++ lzI G (q 2) 8 ln)) [0, 1] rfl
      have hDc := hD.sub (ws' := (lzX x q S ++ lzI G (q 2) 8 ln)) [0, 1] (by decide) rfl
      have hFc : ∀ zz : Nat, lzA (lzX x q S ++ lzI G (q 2) 8 ln) zz → A zz := lz_free hD [0, 1] rfl
      refine va_calli (va_runV (As := [.int (nI rr), .int (nI i), .int (D 2)]) (rest := []) ⟨hx, hb, hml, hown, hts⟩ (c_X3_lookAt l G x q S ln rr (nI i) (D 2) (hrw)) (cwV 3 hts gX3_who_X3_lookAt rfl rfl rfl (by decide +kernel) ⟨Nat.le_of_ble_eq_true rfl, Nat.le_of_ble_eq_true rfl⟩) (rw_preV hK hPc hDc hP (ci := 3) (q0 := 0) rfl rfl) rfl rfl hl.1 rfl (lv_room (Nat.le_of_ble_eq_true rfl)) dX3_who_33 ⟨Nat.zero_le _, Nat.zero_le _⟩) hS (fun q _ h => hFc q h) hFc (fun r_3 u_4 t9 H1 locs ht hvm hr_3 hB hz1 hk1 hS => ?_)
      replace hB : va_P G.1 lzC _ t9.heap := hB
      rw [ht] at hB
      obtain ⟨hP, hD⟩ := lz_join (wc := (lzX x q S ++ lzI G (q 2) 8 ln)) (wr := ([(q 6, .inr (1, [.int (D 0), .int (D 1), .int (D 2), .int (D 3), .ref (qh 4), .ref (qh 5), .ref (qh 6), .ref (qh 7), .ref (qh 8), .ref (qh 9), .ref (qh 10), .ref (qh 11), .ref (qh 12), .ref (qh 13)])), (qh 4, .inl (G.2 0, 8, .inl (F 4))), (qh 5, .inl (G.2 0, 8, .inl (F 5))), (qh 6, .inl (G.2 0, 8, .inl (F 6))), (qh 7, .inl (G.2 0, 8, .inl (F 7))), (qh 8, .inl (G.2 0, 8, .inl (F 8))), (qh 9, .inl (G.2 0, 5, .inl (F 9))), (qh 10, .inl (G.2 0, 5, .inl (F 10))), (qh 11, .inl (G.2 0, 5, .inl (F 11))), (qh 12, .inl (G.2 0, 5, .inl (F 12))), (qh 13, .inl (G.2 0, 5, .inl (F 13))), (q 0, .inl (G.2 4, 8, .inr (.inr (.inr (.inr (fun i => some (ih i))))))), ((ih rr), .inl (G.2 0, 40, .inl g))] : va_W)) (w1 := (lzX x q (upd S 3 (lookF (ln rr) (nI i) (D 2))) ++ lzI G (q 2) 8 ln)) hP hD [0, 1] [2, 3, 4, 5, 6, 7, 8, 9, 10, 11, 12, 13, 14] rfl rfl (by decide) (by decide) rfl hk1 hB
      replace hP := hP.sub (ws' := (lzX x q (upd S 3 (lookF (ln rr) (nI i) (D 2))) ++ (lzI G (q 2) 8 ln ++ (lzDoor G (q 6) qh D F ++ (lzQ G 4 (q 0) 8 (fun i => some (ih i)) ++ (lzI G (ih rr) 40 g)))))) [13, 14, 0, 1, 2, 3, 4, 5, 6, 7, 8, 9, 10, 11, 12] rfl
      replace hD := hD.sub (ws' := (lzX x q (upd S 3 (lookF (ln rr) (nI i) (D 2))) ++ (lzI G (q 2) 8 ln ++ (lzDoor G (q 6) qh D F ++ (lzQ G 4 (q 0) 8 (fun i => some (ih i)) ++ (lzI G (ih rr) 40 g)))))) [13, 14, 0, 1, 2, 3, 4, 5, 6, 7, 8, 9, 10, 11, 12] (by decide) rfl
      clear ht hvm hB hz1 hk1
      generalize H1 = H at hP hS ⊢
      refine lz_top (y := lookV (ln rr) (nI i) (D 2)) hr_3 ?_
      refine lv_istore_n (lv' := [(3, .int (lookV (ln rr) (nI i) (D 2))), (0, .ref x), (1, .int (nI rr)), (2, .int (nI i))]) hx hb dX3_who_36 rfl hl (by decide) rfl (fun ls hl => ?_)
      refine lv_iload_n hx hb dX3_who_37 rfl (lv_at hl 0 rfl) ?_
      refine lv_if_eq (tgt := 43) hx hb dX3_who_38 (by decide) (fun c_38 => ?_) (fun c_38 => ?_)
      · skip
        refine lv_iconst (v := 0) hx hb dX3_who_43 (by decide) ?_
        refine lv_istore (lv' := [(4, .int 0), (3, .int (lookV (ln rr) (nI i) (D 2))), (0, .ref x), (1, .int (nI rr)), (2, .int (nI i))]) hx hb dX3_who_44 hl (by decide) rfl (fun ls hl => ?_)
        refine lv_iconst (v := 0) hx hb dX3_who_46 (by decide) ?_
        refine lv_istore (lv' := [(5, .int 0), (4, .int 0), (3, .int (lookV (ln rr) (nI i) (D 2))), (0, .ref x), (1, .int (nI rr)), (2, .int (nI i))]) hx hb dX3_who_47 hl (by decide) rfl (fun ls hl => ?_)
        have J_49 : ∀ (n9 : Nat), ∀ (k : Nat), (k ≤ M) → M - k < n9 → ∀ (H : Heap) (locs : List Loc), va_P G.1 lzC (lzX x q (upd S 3 (lookF (ln rr) (nI i) (D 2))) ++ (lzI G (q 2) 8 ln ++ (lzDoor G (q 6) qh D F ++ (lzQ G 4 (q 0) 8 (fun i => some (ih i)) ++ (lzI G (ih rr) 40 g))))) H → va_D A (lzX x q (upd S 3 (lookF (ln rr) (nI i) (D 2))) ++ (lzI G (q 2) 8 ln ++ (lzDoor G (q 6) qh D F ++ (lzQ G 4 (q 0) 8 (fun i => some (ih i)) ++ (lzI G (ih rr) 40 g))))) → va_S A ss.heap H locs → ∀ ls : Array Slot, lv_has ls 6 [(4, .int (whoC F g i N k)), (5, .int (nI k)), (3, .int (lookV (ln rr) (nI i) (D 2))), (0, .ref x), (1, .int (nI rr)), (2, .int (nI i))] → W pp l ee ({ frames := 3, cells := 0, slots := 0, locals := 72 }) ss mm ([.ref x, .int (nI rr), .int (nI i)] : List Value).toArray bl me cd H locs 0 0 (MQ bl (va_Qi (S := Unit) (fun (r : Int32) (_ : Unit) => r = whoC F g i N M) (rwB G (fun _ : Unit => (lzX x q (upd S 3 (lookF (ln rr) (nI i) (D 2))) ++ (lzI G (q 2) 8 ln ++ (lzDoor G (q 6) qh D F ++ (lzQ G 4 (q 0) 8 (fun i => some (ih i)) ++ (lzI G (ih rr) 40 g))))))) A) ([.ref x, .int (nI rr), .int (nI i)] : List Value).toArray ss 0 0 A) (F0 mm 49 ls []) := by
          intro n9
          induction n9 with
          | zero => intro k hk hn; exact absurd hn (Nat.not_lt_zero _)
          | succ n9 ih_49 =>
            intro k hk hn_49 H locs hP hD hS ls hl
            refine lv_iload hx hb dX3_who_49 (lv_at hl 1 rfl) ?_
            refine lv_aload_n hx hb dX3_who_51 rfl (lv_at hl 3 rfl) ?_
            refine lz_get (G := G) (ci := 3) (v := .ref (q 6)) (C := RX3) (T := TX3) (N := 13) hx hb hu_wsX30 (fun _ h9 => h9) hown hK hP 0 rfl rfl 6 (by decide) hw1 rfl rfl dX3_who_52 ?_
            refine lz_get (G := G) (ci := 1) (v := .int (D 3)) (C := RX1) (T := TX1) (N := 14) hx hb hu_wsX10 (fun _ h9 => h9) hown hK hP 2 rfl rfl 3 (by decide) hw5 rfl rfl dX3_who_55 ?_
            refine lv_icmp_ge (tgt := 113) hx hb dX3_who_58 (by decide) (fun c_58 => ?_) (fun c_58 => ?_)
            · skip
              have c_58' := Int32.not_lt.mpr c_58
              have hk2 : M ≤ k := lz_ge hM c_58 (by omega) (by omega)
              have hk3 : k = M := by omega
              refine lv_iload hx hb dX3_who_113 (lv_at hl 0 rfl) ?_
              exact rw_iret (S := Unit) (G := G) (Wd := fun _ : Unit => (lzX x q (upd S 3 (lookF (ln rr) (nI i) (D 2))) ++ (lzI G (q 2) 8 ln ++ (lzDoor G (q 6) qh D F ++ (lzQ G 4 (q 0) 8 (fun i => some (ih i)) ++ (lzI G (ih rr) 40 g)))))) () hx hb hr hlk dX3_who_115 hS (hP) (by rw [hk3])
            · skip
              have c_58' := Int32.not_le.mp c_58
              have hk2 : k < M := lz_lt hM c_58 (by omega) (by omega)
              refine lv_aload_n hx hb dX3_who_61 rfl (lv_at hl 3 rfl) ?_
              refine lz_get (G := G) (ci := 3) (v := .ref (q 6)) (C := RX3) (T := TX3) (N := 13) hx hb hu_wsX30 (fun _ h9 => h9) hown hK hP 0 rfl rfl 6 (by decide) hw1 rfl rfl dX3_who_62 ?_
              refine lv_aload_n hx hb dX3_who_65 rfl (lv_at hl 3 rfl) ?_
              refine lz_get (G := G) (ci := 3) (v := .ref (q 6)) (C := RX3) (T := TX3) (N := 13) hx hb hu_wsX30 (fun _ h9 => h9) hown hK hP 0 rfl rfl 6 (by decide) hw1 rfl rfl dX3_who_66 ?_
              refine lz_get (G := G) (ci := 1) (v := .ref (qh 9)) (C := RX1) (T := TX1) (N := 14) hx hb hu_wsX10 (fun _ h9 => h9) hown hK hP 2 rfl rfl 9 (by decide) hw6 rfl rfl dX3_who_69 ?_
              refine lv_iload hx hb dX3_who_72 (lv_at hl 1 rfl) ?_
              refine lz_iald (f := F 9) hx hb hK hP 8 rfl k (by omega) (Nat.le_of_ble_eq_true rfl) dX3_who_74 ?_
              refine lv_aload_n hx hb dX3_who_75 rfl (lv_at hl 3 rfl) ?_
              refine lz_get (G := G) (ci := 3) (v := .ref (q 6)) (C := RX3) (T := TX3) (N := 13) hx hb hu_wsX30 (fun _ h9 => h9) hown hK hP 0 rfl rfl 6 (by decide) hw1 rfl rfl dX3_who_76 ?_
              refine lz_get (G := G) (ci := 1) (v := .ref (qh 10)) (C := RX1) (T := TX1) (N := 14) hx hb hu_wsX10 (fun _ h9 => h9) hown hK hP 2 rfl rfl 10 (by decide) hw7 rfl rfl dX3_who_79 ?_
              refine lv_iload hx hb dX3_who_82 (lv_at hl 1 rfl) ?_
              refine lz_iald (f := F 10) hx hb hK hP 9 rfl k (by omega) (Nat.le_of_ble_eq_true rfl) dX3_who_84 ?_
              refine lv_aload_n hx hb dX3_who_85 rfl (lv_at hl 3 rfl) ?_
              refine lz_get (G := G) (ci := 3) (v := .ref (q 0)) (C := RX3) (T := TX3) (N := 13) hx hb hu_wsX30 (fun _ h9 => h9) hown hK hP 0 rfl rfl 0 (by decide) hw8 rfl rfl dX3_who_86 ?_
              refine lv_iload_n hx hb dX3_who_89 rfl (lv_at hl 4 rfl) ?_
              refine lz_aaldI (f := fun i => some (ih i)) hx hb hK hP 13 rfl rr (ih rr) rfl (by omega) (Nat.le_of_ble_eq_true rfl) dX3_who_90 ?_
              refine lv_iload_n hx hb dX3_who_91 rfl (lv_at hl 5 rfl) ?_
              have hPc := hP.sub (ws' := (lzDoor G (q 6) qh D F ++ lzI G (ih rr) 40 g)) [2, 3, 4, 5, 6, 7, 8, 9, 10, 11, 12, 14] rfl
              refine ro_calli (va_runV (As := [.int ((F 9) k), .int ((F 10) k), .ref (ih rr), .int (nI i)]) (rest := []) ⟨hx, hb, hml, hown, hts⟩ (c_X1_wouldClickSo l G (q 6) qh D F (ih rr) g ((F 9) k) ((F 10) k) i N (hN) (hN8) (by omega)) (cwV 4 hts gX3_who_X1_wouldClickSo rfl rfl rfl (by decide +kernel) ⟨Nat.le_of_ble_eq_true rfl, Nat.le_of_ble_eq_true rfl⟩) (ro_preV hK hPc hP (ci := 1) (q0 := 2) rfl rfl) rfl rfl hl.1 rfl (lv_room (Nat.le_of_ble_eq_true rfl)) dX3_who_92 ⟨Nat.zero_le _, Nat.zero_le _⟩) (fun r_5 hr_5 => ?_)
              refine lv_if_eq (tgt := 107) hx hb dX3_who_95 (by decide) (fun c_95 => ?_) (fun c_95 => ?_)
              · skip
                have c_95 := b2_z hr_5 c_95
                refine lv_iinc (v := nI (k + 1)) (lv' := [(5, .int (nI (k + 1))), (4, .int (whoC F g i N k)), (3, .int (lookV (ln rr) (nI i) (D 2))), (0, .ref x), (1, .int (nI rr)), (2, .int (nI i))]) hx hb dX3_who_107 hl (k := 1) rfl (nI_1 _) (by decide) rfl (fun ls hl => ?_)
                refine lv_goto (tgt := 49) hx hb dX3_who_110 (by decide) ?_
                rw [show (whoC F g i N k : Int32) = whoC F g i N (k + 1) from by have hq := c_95; change allCS F g i _ _ _ = _ at hq; simp [whoC, bitsI, hq]] at hl
                exact ih_49 (k + 1) (by omega) (by omega) _ _ hP hD hS _ (lv_sub hl [1, 0, 2, 3, 4, 5] rfl)
              · skip
                have c_95 := b2_n hr_5 c_95
                refine lv_iload hx hb dX3_who_98 (lv_at hl 0 rfl) ?_
                refine lv_iconst (v := 1) hx hb dX3_who_100 (by decide) ?_
                refine lv_iload hx hb dX3_who_101 (lv_at hl 1 rfl) ?_
                refine lv_ishl hx hb dX3_who_103 ?_
                refine lv_ior hx hb dX3_who_104 ?_
                refine lv_topi (fun x_6 ex_6 => ?_)
                refine lv_istore (lv' := [(4, .int x_6), (5, .int (nI k)), (3, .int (lookV (ln rr) (nI i) (D 2))), (0, .ref x), (1, .int (nI rr)), (2, .int (nI i))]) hx hb dX3_who_105 hl (by decide) rfl (fun ls hl => ?_)
                refine lv_iinc (v := nI (k + 1)) (lv' := [(5, .int (nI (k + 1))), (4, .int x_6), (3, .int (lookV (ln rr) (nI i) (D 2))), (0, .ref x), (1, .int (nI rr)), (2, .int (nI i))]) hx hb dX3_who_107 hl (k := 1) rfl (nI_1 _) (by decide) rfl (fun ls hl => ?_)
                refine lv_goto (tgt := 49) hx hb dX3_who_110 (by decide) ?_
                obtain rfl : x_6 = whoC F g i N (k + 1) := by rw [ex_6]; have hq := c_95; change allCS F g i _ _ _ = _ at hq; simp [whoC, bitsI, hq]
                exact ih_49 (k + 1) (by omega) (by omega) _ _ hP hD hS _ (lv_sub hl [1, 0, 2, 3, 4, 5] rfl)
        exact J_49 _ 0 (by omega) (Nat.lt_succ_self _) _ _ hP hD hS _ (lv_sub hl [1, 0, 2, 3, 4, 5] rfl)
      · skip
        exact absurd hno c_38
    · skip
      have c_17 := b2_z hr_2 c_17
      exact Bool.noConfusion (hA.symm.trans c_17)
  · skip
    have c_7 := b2_z hr_1 c_7
    exact Bool.noConfusion (hR.symm.trans c_7)
set_option maxHeartbeats 4000000 in
set_option maxRecDepth 100000 in
theorem c_X3_cares_bad (l : Launch) (G : lzG) (x : Nat) (q : Nat → Nat) (S : Nat → Int32) (qh : Nat → Nat) (D : Nat → Int32) (F : Nat → Nat → Int32) (a b c : Int32) (hR : (decide (0 < D 2) && decide (0 < D 3)) = true) (hbad : (inR a 0 9 && inR b 0 7) = false) : Met l yX3_cares wsX3_cares ({ frames := 2, cells := 0, slots := 0, locals := 42 }) (va_Pc [.ref x, .int a, .int b, .int c] (roP G (lzX x q S ++ lzDoor G (q 6) qh D F))) (vp_Si (fun r => r = -1000001)) 0 0 (fun _ => False) := by
  refine ro_start (cc := cX3_cares) (maxL := 7) (ret := (some .int)) (by decide) rfl (Nat.le_of_ble_eq_true rfl) ?_
  intro pp ee ss mm bl me cd hx hb hr hlk hml hts hown hP hK ls hl
  have hown : ss.vm.findClass RX3 = some mm.cls := hown
  have hw1 := hts (.fieldLink RX3 38 "LampSquares" "here" "LLampSquares$Door;") (List.mem_of_getElem? (i := 1) rfl)
  have hw3 := hts (.constant RX3 81 (-1000001)) (List.mem_of_getElem? (i := 3) rfl)
  have hu_wsX30 : ∀ w ∈ wsX30, w.before ([.ref x, .int a, .int b, .int c] : List Value).toArray ss = true := fun w h9 => hts w (List.mem_cons_of_mem _ (List.mem_append_left _ (List.mem_append_right _ h9)))
  have hl : lv_has ls 7 [(0, .ref x), (1, .int a), (2, .int b), (3, .int c)] := hl
  refine lv_aload_n hx hb dX3_cares_0 rfl (lv_at hl 0 rfl) ?_
  refine lz_get (G := G) (ci := 3) (v := .ref (q 6)) (C := RX3) (T := TX3) (N := 13) hx hb hu_wsX30 (fun _ h9 => h9) hown hK hP 0 rfl rfl 6 (by decide) hw1 rfl rfl dX3_cares_1 ?_
  have hPc := hP.sub (ws' := lzDoor G (q 6) qh D F) [1, 2, 3, 4, 5, 6, 7, 8, 9, 10, 11] rfl
  refine ro_calli (va_runV (As := []) (rest := []) ⟨hx, hb, hml, hown, hts⟩ (c_X1_isRead l G (q 6) qh D F ) (cwV 0 hts gX3_cares_X1_isRead rfl rfl rfl (by decide +kernel) ⟨Nat.le_of_ble_eq_true rfl, Nat.le_of_ble_eq_true rfl⟩) (ro_preV hK hPc hP (ci := 1) (q0 := 1) rfl rfl) rfl rfl hl.1 rfl (lv_room (Nat.le_of_ble_eq_true rfl)) dX3_cares_4 ⟨Nat.zero_le _, Nat.zero_le _⟩) (fun r_1 hr_1 => ?_)
  refine lv_if_ne (tgt := 13) hx hb dX3_cares_7 (by decide) (fun c_7 => ?_) (fun c_7 => ?_)
  · skip
    have c_7 := b2_n hr_1 c_7
    refine lv_iload_n hx hb dX3_cares_13 rfl (lv_at hl 1 rfl) ?_
    refine lv_iconst (v := 0) hx hb dX3_cares_14 (by decide) ?_
    refine lv_bipush (v := 9) hx hb dX3_cares_15 (by decide) ?_
    refine ro_calli (va_runS (As := [.int a, .int 0, .int 9]) (rest := []) ⟨hx, hb, hml, hown, hts⟩ (c_X3_isIn l G a 0 9 ) (cwS 3 hts gX3_cares_X3_isIn rfl rfl rfl (by decide +kernel) ⟨Nat.le_of_ble_eq_true rfl, Nat.le_of_ble_eq_true rfl⟩) (ro_pre hK (fun k q h => by simp at h)) rfl rfl hl.1 rfl (lv_room (Nat.le_of_ble_eq_true rfl)) dX3_cares_17 ⟨Nat.zero_le _, Nat.zero_le _⟩) (fun r_2 hr_2 => ?_)
    refine lv_if_eq (tgt := 30) hx hb dX3_cares_20 (by decide) (fun c_20 => ?_) (fun c_20 => ?_)
    · skip
      have c_20 := b2_z hr_2 c_20
      refine lv_ldc hx hb hown hw3 dX3_cares_30 ?_
      exact ro_iret hx hb hr hlk dX3_cares_32 (rfl)
    · skip
      have c_20 := b2_n hr_2 c_20
      refine lv_iload_n hx hb dX3_cares_23 rfl (lv_at hl 2 rfl) ?_
      refine ro_calli (va_runS (As := [.int b]) (rest := []) ⟨hx, hb, hml, hown, hts⟩ (c_X3_isRow l G b ) (cwS 1 hts gX3_cares_X3_isRow rfl rfl rfl (by decide +kernel) ⟨Nat.le_of_ble_eq_true rfl, Nat.le_of_ble_eq_true rfl⟩) (ro_pre hK (fun k q h => by simp at h)) rfl rfl hl.1 rfl (lv_room (Nat.le_of_ble_eq_true rfl)) dX3_cares_24 ⟨Nat.zero_le _, Nat.zero_le _⟩) (fun r_3 hr_3 => ?_)
      refine lv_if_ne (tgt := 33) hx hb dX3_cares_27 (by decide) (fun c_27 => ?_) (fun c_27 => ?_)
      · skip
        have c_27 := b2_n hr_3 c_27
        exact Bool.noConfusion (hbad.symm.trans (by rw [c_20, c_27] <;> rfl))
      · skip
        have c_27 := b2_z hr_3 c_27
        refine lv_ldc hx hb hown hw3 dX3_cares_30 ?_
        exact ro_iret hx hb hr hlk dX3_cares_32 (rfl)
  · skip
    have c_7 := b2_z hr_1 c_7
    exact Bool.noConfusion (hR.symm.trans c_7)
set_option maxHeartbeats 4000000 in
set_option maxRecDepth 100000 in
theorem c_X3_cares_state (l : Launch) (G : lzG) (x : Nat) (q : Nat → Nat) (S : Nat → Int32) (qh : Nat → Nat) (D : Nat → Int32) (F : Nat → Nat → Int32) (a b c : Int32) (hR : (decide (0 < D 2) && decide (0 < D 3)) = false) : Met l yX3_cares wsX3_cares ({ frames := 1, cells := 0, slots := 0, locals := 20 }) (va_Pc [.ref x, .int a, .int b, .int c] (roP G (lzX x q S ++ lzDoor G (q 6) qh D F))) (vp_Si (fun r => r = -1000002)) 0 0 (fun _ => False) := by
  refine ro_start (cc := cX3_cares) (maxL := 7) (ret := (some .int)) (by decide) rfl (Nat.le_of_ble_eq_true rfl) ?_
  intro pp ee ss mm bl me cd hx hb hr hlk hml hts hown hP hK ls hl
  have hown : ss.vm.findClass RX3 = some mm.cls := hown
  have hw1 := hts (.fieldLink RX3 38 "LampSquares" "here" "LLampSquares$Door;") (List.mem_of_getElem? (i := 1) rfl)
  have hw2 := hts (.constant RX3 137 (-1000002)) (List.mem_of_getElem? (i := 2) rfl)
  have hu_wsX30 : ∀ w ∈ wsX30, w.before ([.ref x, .int a, .int b, .int c] : List Value).toArray ss = true := fun w h9 => hts w (List.mem_cons_of_mem _ (List.mem_append_left _ (List.mem_append_right _ h9)))
  have hl : lv_has ls 7 [(0, .ref x), (1, .int a), (2, .int b), (3, .int c)] := hl
  refine lv_aload_n hx hb dX3_cares_0 rfl (lv_at hl 0 rfl) ?_
  refine lz_get (G := G) (ci := 3) (v := .ref (q 6)) (C := RX3) (T := TX3) (N := 13) hx hb hu_wsX30 (fun _ h9 => h9) hown hK hP 0 rfl rfl 6 (by decide) hw1 rfl rfl dX3_cares_1 ?_
  have hPc := hP.sub (ws' := lzDoor G (q 6) qh D F) [1, 2, 3, 4, 5, 6, 7, 8, 9, 10, 11] rfl
  refine ro_calli (va_runV (As := []) (rest := []) ⟨hx, hb, hml, hown, hts⟩ (c_X1_isRead l G (q 6) qh D F ) (cwV 0 hts gX3_cares_X1_isRead rfl rfl rfl (by decide +kernel) ⟨Nat.le_of_ble_eq_true rfl, Nat.le_of_ble_eq_true rfl⟩) (ro_preV hK hPc hP (ci := 1) (q0 := 1) rfl rfl) rfl rfl hl.1 rfl (lv_room (Nat.le_of_ble_eq_true rfl)) dX3_cares_4 ⟨Nat.zero_le _, Nat.zero_le _⟩) (fun r_1 hr_1 => ?_)
  refine lv_if_ne (tgt := 13) hx hb dX3_cares_7 (by decide) (fun c_7 => ?_) (fun c_7 => ?_)
  · skip
    have c_7 := b2_n hr_1 c_7
    exact Bool.noConfusion (hR.symm.trans c_7)
  · skip
    have c_7 := b2_z hr_1 c_7
    refine lv_ldc hx hb hown hw2 dX3_cares_10 ?_
    exact ro_iret hx hb hr hlk dX3_cares_12 (rfl)
set_option maxHeartbeats 4000000 in
set_option maxRecDepth 100000 in
theorem c_X3_cares_no (l : Launch) (G : lzG) (x : Nat) (q : Nat → Nat) (S ln : Nat → Int32) (qh : Nat → Nat) (D : Nat → Int32) (F : Nat → Nat → Int32) (rr : Nat) (ear : Int32) (i : Int32) (hR : (decide (0 < D 2) && decide (0 < D 3)) = true) (hrw : rr < 8) (he : inR ear 0 9 = true) (hno : ¬ lookV (ln rr) i (D 2) = 0) : Met l yX3_cares wsX3_cares ({ frames := 2, cells := 0, slots := 0, locals := 46 }) (va_Pc [.ref x, .int ear, .int (nI rr), .int i] (rwP G (lzX x q S ++ (lzI G (q 2) 8 ln ++ (lzDoor G (q 6) qh D F))))) (va_Qi (S := Unit) (fun (r : Int32) (_ : Unit) => r = lookV (ln rr) i (D 2)) (rwB G (fun _ : Unit => (lzX x q (upd S 3 (lookF (ln rr) i (D 2))) ++ (lzI G (q 2) 8 ln ++ (lzDoor G (q 6) qh D F))))) (lzA (lzX x q S ++ (lzI G (q 2) 8 ln ++ (lzDoor G (q 6) qh D F))))) 0 0 (lzA (lzX x q S ++ (lzI G (q 2) 8 ln ++ (lzDoor G (q 6) qh D F)))) := by
  have hA : inR (nI rr) 0 7 = true := inR_row hrw
  refine rw_start (S := Unit) (cc := cX3_cares) (maxL := 7) (ret := (some .int)) (by decide) rfl (Nat.le_of_ble_eq_true rfl) ?_
  intro pp ee ss mm bl me cd A hx hb hr hlk hml hts hown hP hK hD hAe hS ls hl
  have hA0 : ∀ zz : Nat, lzA (lzX x q S ++ (lzI G (q 2) 8 ln ++ (lzDoor G (q 6) qh D F))) zz → A zz := fun zz h9 => by rw [hAe]; exact h9
  rw [← hAe]
  clear hAe
  have hown : ss.vm.findClass RX3 = some mm.cls := hown
  have hw1 := hts (.fieldLink RX3 38 "LampSquares" "here" "LLampSquares$Door;") (List.mem_of_getElem? (i := 1) rfl)
  have hw4 := hts (.fieldLink RX3 131 "LampSquares$Door" "squares" "I") (List.mem_of_getElem? (i := 4) rfl)
  have hu_wsX10 : ∀ w ∈ wsX10, w.before ([.ref x, .int ear, .int (nI rr), .int i] : List Value).toArray ss = true := fun w h9 => hts w (List.mem_cons_of_mem _ (List.mem_append_right _ h9))
  have hu_wsX30 : ∀ w ∈ wsX30, w.before ([.ref x, .int ear, .int (nI rr), .int i] : List Value).toArray ss = true := fun w h9 => hts w (List.mem_cons_of_mem _ (List.mem_append_left _ (List.mem_append_right _ h9)))
  have hl : lv_has ls 7 [(0, .ref x), (1, .int ear), (2, .int (nI rr)), (3, .int i)] := hl
  refine lv_aload_n hx hb dX3_cares_0 rfl (lv_at hl 0 rfl) ?_
  refine lz_get (G := G) (ci := 3) (v := .ref (q 6)) (C := RX3) (T := TX3) (N := 13) hx hb hu_wsX30 (fun _ h9 => h9) hown hK hP 0 rfl rfl 6 (by decide) hw1 rfl rfl dX3_cares_1 ?_
  have hPc := hP.sub (ws' := lzDoor G (q 6) qh D F) [2, 3, 4, 5, 6, 7, 8, 9, 10, 11, 12] rfl
  refine ro_calli (va_runV (As := []) (rest := []) ⟨hx, hb, hml, hown, hts⟩ (c_X1_isRead l G (q 6) qh D F ) (cwV 0 hts gX3_cares_X1_isRead rfl rfl rfl (by decide +kernel) ⟨Nat.le_of_ble_eq_true rfl, Nat.le_of_ble_eq_true rfl⟩) (ro_preV hK hPc hP (ci := 1) (q0 := 2) rfl rfl) rfl rfl hl.1 rfl (lv_room (Nat.le_of_ble_eq_true rfl)) dX3_cares_4 ⟨Nat.zero_le _, Nat.zero_le _⟩) (fun r_1 hr_1 => ?_)
  refine lv_if_ne (tgt := 13) hx hb dX3_cares_7 (by decide) (fun c_7 => ?_) (fun c_7 => ?_)
  · skip
    have c_7 := b2_n hr_1 c_7
    refine lv_iload_n hx hb dX3_cares_13 rfl (lv_at hl 1 rfl) ?_
    refine lv_iconst (v := 0) hx hb dX3_cares_14 (by decide) ?_
    refine lv_bipush (v := 9) hx hb dX3_cares_15 (by decide) ?_
    refine ro_calli (va_runS (As := [.int ear, .int 0, .int 9]) (rest := []) ⟨hx, hb, hml, hown, hts⟩ (c_X3_isIn l G ear 0 9 ) (cwS 3 hts gX3_cares_X3_isIn rfl rfl rfl (by decide +kernel) ⟨Nat.le_of_ble_eq_true rfl, Nat.le_of_ble_eq_true rfl⟩) (ro_pre hK (fun k q h => by simp at h)) rfl rfl hl.1 rfl (lv_room (Nat.le_of_ble_eq_true rfl)) dX3_cares_17 ⟨Nat.zero_le _, Nat.zero_le _⟩) (fun r_2 hr_2 => ?_)
    refine lv_if_eq (tgt := 30) hx hb dX3_cares_20 (by decide) (fun c_20 => ?_) (fun c_20 => ?_)
    · skip
      have c_20 := b2_z hr_2 c_20
      exact Bool.noConfusion (he.symm.trans c_20)
    · skip
      have c_20 := b2_n hr_2 c_20
      refine lv_iload_n hx hb dX3_cares_23 rfl (lv_at hl 2 rfl) ?_
      refine ro_calli (va_runS (As := [.int (nI rr)]) (rest := []) ⟨hx, hb, hml, hown, hts⟩ (c_X3_isRow l G (nI rr) ) (cwS 1 hts gX3_cares_X3_isRow rfl rfl rfl (by decide +kernel) ⟨Nat.le_of_ble_eq_true rfl, Nat.le_of_ble_eq_true rfl⟩) (ro_pre hK (fun k q h => by simp at h)) rfl rfl hl.1 rfl (lv_room (Nat.le_of_ble_eq_true rfl)) dX3_cares_24 ⟨Nat.zero_le _, Nat.zero_le _⟩) (fun r_3 hr_3 => ?_)
      refine lv_if_ne (tgt := 33) hx hb dX3_cares_27 (by decide) (fun c_27 => ?_) (fun c_27 => ?_)
      · skip
        have c_27 := b2_n hr_3 c_27
        refine lv_aload_n hx hb dX3_cares_33 rfl (lv_at hl 0 rfl) ?_
        refine lv_iload_n hx hb dX3_cares_34 rfl (lv_at hl 2 rfl) ?_
        refine lv_iload_n hx hb dX3_cares_35 rfl (lv_at hl 3 rfl) ?_
        refine lv_aload_n hx hb dX3_cares_36 rfl (lv_at hl 0 rfl) ?_
        refine lz_get (G := G) (ci := 3) (v := .ref (q 6)) (C := RX3) (T := TX3) (N := 13) hx hb hu_wsX30 (fun _ h9 => h9) hown hK hP 0 rfl rfl 6 (by decide) hw1 rfl rfl dX3_cares_37 ?_
        refine lz_get (G := G) (ci := 1) (v := .int (D 2)) (C := RX1) (T := TX1) (N := 14) hx hb hu_wsX10 (fun _ h9 => h9) hown hK hP 2 rfl rfl 2 (by decide) hw4 rfl rfl dX3_cares_40 ?_
        have hPc := hP.sub (ws' := (lzX x q S ++ lzI G (q 2) 8 ln)) [0, 1] rfl
        have hDc := hD.sub (ws' := (lzX x q S ++ lzI G (q 2) 8 ln)) [0, 1] (by decide) rfl
        have hFc : ∀ zz : Nat, lzA (lzX x q S ++ lzI G (q 2) 8 ln) zz → A zz := lz_free hD [0, 1] rfl
        refine va_calli (va_runV (As := [.int (nI rr), .int i, .int (D 2)]) (rest := []) ⟨hx, hb, hml, hown, hts⟩ (c_X3_lookAt l G x q S ln rr i (D 2) (hrw)) (cwV 3 hts gX3_cares_X3_lookAt rfl rfl rfl (by decide +kernel) ⟨Nat.le_of_ble_eq_true rfl, Nat.le_of_ble_eq_true rfl⟩) (rw_preV hK hPc hDc hP (ci := 3) (q0 := 0) rfl rfl) rfl rfl hl.1 rfl (lv_room (Nat.le_of_ble_eq_true rfl)) dX3_cares_43 ⟨Nat.zero_le _, Nat.zero_le _⟩) hS (fun q _ h => hFc q h) hFc (fun r_4 u_5 t9 H1 locs ht hvm hr_4 hB hz1 hk1 hS => ?_)
        replace hB : va_P G.1 lzC _ t9.heap := hB
        rw [ht] at hB
        obtain ⟨hP, hD⟩ := lz_join (wc := (lzX x q S ++ lzI G (q 2) 8 ln)) (wr := ([(q 6, .inr (1, [.int (D 0), .int (D 1), .int (D 2), .int (D 3), .ref (qh 4), .ref (qh 5), .ref (qh 6), .ref (qh 7), .ref (qh 8), .ref (qh 9), .ref (qh 10), .ref (qh 11), .ref (qh 12), .ref (qh 13)])), (qh 4, .inl (G.2 0, 8, .inl (F 4))), (qh 5, .inl (G.2 0, 8, .inl (F 5))), (qh 6, .inl (G.2 0, 8, .inl (F 6))), (qh 7, .inl (G.2 0, 8, .inl (F 7))), (qh 8, .inl (G.2 0, 8, .inl (F 8))), (qh 9, .inl (G.2 0, 5, .inl (F 9))), (qh 10, .inl (G.2 0, 5, .inl (F 10))), (qh 11, .inl (G.2 0, 5, .inl (F 11))), (qh 12, .inl (G.2 0, 5, .inl (F 12))), (qh 13, .inl (G.2 0, 5, .inl (F 13)))] : va_W)) (w1 := (lzX x q (upd S 3 (lookF (ln rr) i (D 2))) ++ lzI G (q 2) 8 ln)) hP hD [0, 1] [2, 3, 4, 5, 6, 7, 8, 9, 10, 11, 12] rfl rfl (by decide) (by decide) rfl hk1 hB
        replace hP := hP.sub (ws' := (lzX x q (upd S 3 (lookF (ln rr) i (D 2))) ++ (lzI G (q 2) 8 ln ++ (lzDoor G (q 6) qh D F)))) [11, 12, 0, 1, 2, 3, 4, 5, 6, 7, 8, 9, 10] rfl
        replace hD := hD.sub (ws' := (lzX x q (upd S 3 (lookF (ln rr) i (D 2))) ++ (lzI G (q 2) 8 ln ++ (lzDoor G (q 6) qh D F)))) [11, 12, 0, 1, 2, 3, 4, 5, 6, 7, 8, 9, 10] (by decide) rfl
        clear ht hvm hB hz1 hk1
        generalize H1 = H at hP hS ⊢
        refine lz_top (y := lookV (ln rr) i (D 2)) hr_4 ?_
        refine lv_istore (lv' := [(4, .int (lookV (ln rr) i (D 2))), (0, .ref x), (1, .int ear), (2, .int (nI rr)), (3, .int i)]) hx hb dX3_cares_46 hl (by decide) rfl (fun ls hl => ?_)
        refine lv_iload hx hb dX3_cares_48 (lv_at hl 0 rfl) ?_
        refine lv_if_eq (tgt := 56) hx hb dX3_cares_50 (by decide) (fun c_50 => ?_) (fun c_50 => ?_)
        · skip
          exact absurd c_50 hno
        · skip
          refine lv_iload hx hb dX3_cares_53 (lv_at hl 0 rfl) ?_
          exact rw_iret (S := Unit) (G := G) (Wd := fun _ : Unit => (lzX x q (upd S 3 (lookF (ln rr) i (D 2))) ++ (lzI G (q 2) 8 ln ++ (lzDoor G (q 6) qh D F)))) () hx hb hr hlk dX3_cares_55 hS (hP) (rfl)
      · skip
        have c_27 := b2_z hr_3 c_27
        exact Bool.noConfusion (hA.symm.trans c_27)
  · skip
    have c_7 := b2_z hr_1 c_7
    exact Bool.noConfusion (hR.symm.trans c_7)
set_option maxHeartbeats 4000000 in
set_option maxRecDepth 100000 in
theorem c_X3_cares_ok (l : Launch) (G : lzG) (x : Nat) (q : Nat → Nat) (S ln : Nat → Int32) (qh : Nat → Nat) (D : Nat → Int32) (F : Nat → Nat → Int32) (ih : Nat → Nat) (rr : Nat) (g : Nat → Int32) (ear : Int32) (i N M : Nat) (hR : (decide (0 < D 2) && decide (0 < D 3)) = true) (hrw : rr < 8) (he : inR ear 0 9 = true) (hN : D 2 = nI N) (hN8 : N ≤ 8) (hM : D 3 = nI M) (hM5 : M ≤ 5) (hno : lookV (ln rr) (nI i) (D 2) = 0) (hi40 : i + N ≤ 40) : Met l yX3_cares wsX3_cares ({ frames := 3, cells := 0, slots := 0, locals := 72 }) (va_Pc [.ref x, .int ear, .int (nI rr), .int (nI i)] (rwP G (lzX x q S ++ (lzI G (q 2) 8 ln ++ (lzDoor G (q 6) qh D F ++ (lzQ G 4 (q 0) 8 (fun i => some (ih i)) ++ (lzI G (ih rr) 40 g))))))) (va_Qi (S := Unit) (fun (r : Int32) (_ : Unit) => r = carC F g i N ear 10) (rwB G (fun _ : Unit => (lzX x q (upd S 3 (lookF (ln rr) (nI i) (D 2))) ++ (lzI G (q 2) 8 ln ++ (lzDoor G (q 6) qh D F ++ (lzQ G 4 (q 0) 8 (fun i => some (ih i)) ++ (lzI G (ih rr) 40 g))))))) (lzA (lzX x q S ++ (lzI G (q 2) 8 ln ++ (lzDoor G (q 6) qh D F ++ (lzQ G 4 (q 0) 8 (fun i => some (ih i)) ++ (lzI G (ih rr) 40 g))))))) 0 0 (lzA (lzX x q S ++ (lzI G (q 2) 8 ln ++ (lzDoor G (q 6) qh D F ++ (lzQ G 4 (q 0) 8 (fun i => some (ih i)) ++ (lzI G (ih rr) 40 g)))))) := by
  have hA : inR (nI rr) 0 7 = true := inR_row hrw
  refine rw_start (S := Unit) (cc := cX3_cares) (maxL := 7) (ret := (some .int)) (by decide) rfl (Nat.le_of_ble_eq_true rfl) ?_
  intro pp ee ss mm bl me cd A hx hb hr hlk hml hts hown hP hK hD hAe hS ls hl
  have hA0 : ∀ zz : Nat, lzA (lzX x q S ++ (lzI G (q 2) 8 ln ++ (lzDoor G (q 6) qh D F ++ (lzQ G 4 (q 0) 8 (fun i => some (ih i)) ++ (lzI G (ih rr) 40 g))))) zz → A zz := fun zz h9 => by rw [hAe]; exact h9
  rw [← hAe]
  clear hAe
  have hown : ss.vm.findClass RX3 = some mm.cls := hown
  have hw1 := hts (.fieldLink RX3 38 "LampSquares" "here" "LLampSquares$Door;") (List.mem_of_getElem? (i := 1) rfl)
  have hw4 := hts (.fieldLink RX3 131 "LampSquares$Door" "squares" "I") (List.mem_of_getElem? (i := 4) rfl)
  have hw5 := hts (.fieldLink RX3 11 "LampSquares" "items" "[[I") (List.mem_of_getElem? (i := 5) rfl)
  have hu_wsX10 : ∀ w ∈ wsX10, w.before ([.ref x, .int ear, .int (nI rr), .int (nI i)] : List Value).toArray ss = true := fun w h9 => hts w (List.mem_cons_of_mem _ (List.mem_append_right _ h9))
  have hu_wsX30 : ∀ w ∈ wsX30, w.before ([.ref x, .int ear, .int (nI rr), .int (nI i)] : List Value).toArray ss = true := fun w h9 => hts w (List.mem_cons_of_mem _ (List.mem_append_left _ (List.mem_append_right _ h9)))
  have hl : lv_has ls 7 [(0, .ref x), (1, .int ear), (2, .int (nI rr)), (3, .int (nI i))] := hl
  refine lv_aload_n hx hb dX3_cares_0 rfl (lv_at hl 0 rfl) ?_
  refine lz_get (G := G) (ci := 3) (v := .ref (q 6)) (C := RX3) (T := TX3) (N := 13) hx hb hu_wsX30 (fun _ h9 => h9) hown hK hP 0 rfl rfl 6 (by decide) hw1 rfl rfl dX3_cares_1 ?_
  have hPc := hP.sub (ws' := lzDoor G (q 6) qh D F) [2, 3, 4, 5, 6, 7, 8, 9, 10, 11, 12] rfl
  refine ro_calli (va_runV (As := []) (rest := []) ⟨hx, hb, hml, hown, hts⟩ (c_X1_isRead l G (q 6) qh D F ) (cwV 0 hts gX3_cares_X1_isRead rfl rfl rfl (by decide +kernel) ⟨Nat.le_of_ble_eq_true rfl, Nat.le_of_ble_eq_true rfl⟩) (ro_preV hK hPc hP (ci := 1) (q0 := 2) rfl rfl) rfl rfl hl.1 rfl (lv_room (Nat.le_of_ble_eq_true rfl)) dX3_cares_4 ⟨Nat.zero_le _, Nat.zero_le _⟩) (fun r_1 hr_1 => ?_)
  refine lv_if_ne (tgt := 13) hx hb dX3_cares_7 (by decide) (fun c_7 => ?_) (fun c_7 => ?_)
  · skip
    have c_7 := b2_n hr_1 c_7
    refine lv_iload_n hx hb dX3_cares_13 rfl (lv_at hl 1 rfl) ?_
    refine lv_iconst (v := 0) hx hb dX3_cares_14 (by decide) ?_
    refine lv_bipush (v := 9) hx hb dX3_cares_15 (by decide) ?_
    refine ro_calli (va_runS (As := [.int ear, .int 0, .int 9]) (rest := []) ⟨hx, hb, hml, hown, hts⟩ (c_X3_isIn l G ear 0 9 ) (cwS 3 hts gX3_cares_X3_isIn rfl rfl rfl (by decide +kernel) ⟨Nat.le_of_ble_eq_true rfl, Nat.le_of_ble_eq_true rfl⟩) (ro_pre hK (fun k q h => by simp at h)) rfl rfl hl.1 rfl (lv_room (Nat.le_of_ble_eq_true rfl)) dX3_cares_17 ⟨Nat.zero_le _, Nat.zero_le _⟩) (fun r_2 hr_2 => ?_)
    refine lv_if_eq (tgt := 30) hx hb dX3_cares_20 (by decide) (fun c_20 => ?_) (fun c_20 => ?_)
    · skip
      have c_20 := b2_z hr_2 c_20
      exact Bool.noConfusion (he.symm.trans c_20)
    · skip
      have c_20 := b2_n hr_2 c_20
      refine lv_iload_n hx hb dX3_cares_23 rfl (lv_at hl 2 rfl) ?_
      refine ro_calli (va_runS (As := [.int (nI rr)]) (rest := []) ⟨hx, hb, hml, hown, hts⟩ (c_X3_isRow l G (nI rr) ) (cwS 1 hts gX3_cares_X3_isRow rfl rfl rfl (by decide +kernel) ⟨Nat.le_of_ble_eq_true rfl, Nat.le_of_ble_eq_true rfl⟩) (ro_pre hK (fun k q h => by simp at h)) rfl rfl hl.1 rfl (lv_room (Nat.le_of_ble_eq_true rfl)) dX3_cares_24 ⟨Nat.zero_le _, Nat.zero_le _⟩) (fun r_3 hr_3 => ?_)
      refine lv_if_ne (tgt := 33) hx hb dX3_cares_27 (by decide) (fun c_27 => ?_) (fun c_27 => ?_)
      · skip
        have c_27 := b2_n hr_3 c_27
        refine lv_aload_n hx hb dX3_cares_33 rfl (lv_at hl 0 rfl) ?_
        refine lv_iload_n hx hb dX3_cares_34 rfl (lv_at hl 2 rfl) ?_
        refine lv_iload_n hx hb dX3_cares_35 rfl (lv_at hl 3 rfl) ?_
        refine lv_aload_n hx hb dX3_cares_36 rfl (lv_at hl 0 rfl) ?_
        refine lz_get (G := G) (ci := 3) (v := .ref (q 6)) (C := RX3) (T := TX3) (N := 13) hx hb hu_wsX30 (fun _ h9 => h9) hown hK hP 0 rfl rfl 6 (by decide) hw1 rfl rfl dX3_cares_37 ?_
        refine lz_get (G := G) (ci := 1) (v := .int (D 2)) (C := RX1) (T := TX1) (N := 14) hx hb hu_wsX10 (fun _ h9 => h9) hown hK hP 2 rfl rfl 2 (by decide) hw4 rfl rfl dX3_cares_40 ?_
        have hPc := hP.sub (ws' := (lzX x q S ++ lzI G (q 2) 8 ln)) [0, 1] rfl
        have hDc := hD.sub (ws' := (lzX x q S ++ lzI G (q 2) 8 ln)) [0, 1] (by decide) rfl
        have hFc : ∀ zz : Nat, lzA (lzX x q S ++ lzI G (q 2) 8 ln) zz → A zz := lz_free hD [0, 1] rfl
        refine va_calli (va_runV (As := [.int (nI rr), .int (nI i), .int (D 2)]) (rest := []) ⟨hx, hb, hml, hown, hts⟩ (c_X3_lookAt l G x q S ln rr (nI i) (D 2) (hrw)) (cwV 3 hts gX3_cares_X3_lookAt rfl rfl rfl (by decide +kernel) ⟨Nat.le_of_ble_eq_true rfl, Nat.le_of_ble_eq_true rfl⟩) (rw_preV hK hPc hDc hP (ci := 3) (q0 := 0) rfl rfl) rfl rfl hl.1 rfl (lv_room (Nat.le_of_ble_eq_true rfl)) dX3_cares_43 ⟨Nat.zero_le _, Nat.zero_le _⟩) hS (fun q _ h => hFc q h) hFc (fun r_4 u_5 t9 H1 locs ht hvm hr_4 hB hz1 hk1 hS => ?_)
        replace hB : va_P G.1 lzC _ t9.heap := hB
        rw [ht] at hB
        obtain ⟨hP, hD⟩ := lz_join (wc := (lzX x q S ++ lzI G (q 2) 8 ln)) (wr := ([(q 6, .inr (1, [.int (D 0), .int (D 1), .int (D 2), .int (D 3), .ref (qh 4), .ref (qh 5), .ref (qh 6), .ref (qh 7), .ref (qh 8), .ref (qh 9), .ref (qh 10), .ref (qh 11), .ref (qh 12), .ref (qh 13)])), (qh 4, .inl (G.2 0, 8, .inl (F 4))), (qh 5, .inl (G.2 0, 8, .inl (F 5))), (qh 6, .inl (G.2 0, 8, .inl (F 6))), (qh 7, .inl (G.2 0, 8, .inl (F 7))), (qh 8, .inl (G.2 0, 8, .inl (F 8))), (qh 9, .inl (G.2 0, 5, .inl (F 9))), (qh 10, .inl (G.2 0, 5, .inl (F 10))), (qh 11, .inl (G.2 0, 5, .inl (F 11))), (qh 12, .inl (G.2 0, 5, .inl (F 12))), (qh 13, .inl (G.2 0, 5, .inl (F 13))), (q 0, .inl (G.2 4, 8, .inr (.inr (.inr (.inr (fun i => some (ih i))))))), ((ih rr), .inl (G.2 0, 40, .inl g))] : va_W)) (w1 := (lzX x q (upd S 3 (lookF (ln rr) (nI i) (D 2))) ++ lzI G (q 2) 8 ln)) hP hD [0, 1] [2, 3, 4, 5, 6, 7, 8, 9, 10, 11, 12, 13, 14] rfl rfl (by decide) (by decide) rfl hk1 hB
        replace hP := hP.sub (ws' := (lzX x q (upd S 3 (lookF (ln rr) (nI i) (D 2))) ++ (lzI G (q 2) 8 ln ++ (lzDoor G (q 6) qh D F ++ (lzQ G 4 (q 0) 8 (fun i => some (ih i)) ++ (lzI G (ih rr) 40 g)))))) [13, 14, 0, 1, 2, 3, 4, 5, 6, 7, 8, 9, 10, 11, 12] rfl
        replace hD := hD.sub (ws' := (lzX x q (upd S 3 (lookF (ln rr) (nI i) (D 2))) ++ (lzI G (q 2) 8 ln ++ (lzDoor G (q 6) qh D F ++ (lzQ G 4 (q 0) 8 (fun i => some (ih i)) ++ (lzI G (ih rr) 40 g)))))) [13, 14, 0, 1, 2, 3, 4, 5, 6, 7, 8, 9, 10, 11, 12] (by decide) rfl
        clear ht hvm hB hz1 hk1
        generalize H1 = H at hP hS ⊢
        refine lz_top (y := lookV (ln rr) (nI i) (D 2)) hr_4 ?_
        refine lv_istore (lv' := [(4, .int (lookV (ln rr) (nI i) (D 2))), (0, .ref x), (1, .int ear), (2, .int (nI rr)), (3, .int (nI i))]) hx hb dX3_cares_46 hl (by decide) rfl (fun ls hl => ?_)
        refine lv_iload hx hb dX3_cares_48 (lv_at hl 0 rfl) ?_
        refine lv_if_eq (tgt := 56) hx hb dX3_cares_50 (by decide) (fun c_50 => ?_) (fun c_50 => ?_)
        · skip
          refine lv_iconst (v := 0) hx hb dX3_cares_56 (by decide) ?_
          refine lv_istore (lv' := [(5, .int 0), (4, .int (lookV (ln rr) (nI i) (D 2))), (0, .ref x), (1, .int ear), (2, .int (nI rr)), (3, .int (nI i))]) hx hb dX3_cares_57 hl (by decide) rfl (fun ls hl => ?_)
          refine lv_iconst (v := 0) hx hb dX3_cares_59 (by decide) ?_
          refine lv_istore (lv' := [(6, .int 0), (5, .int 0), (4, .int (lookV (ln rr) (nI i) (D 2))), (0, .ref x), (1, .int ear), (2, .int (nI rr)), (3, .int (nI i))]) hx hb dX3_cares_60 hl (by decide) rfl (fun ls hl => ?_)
          have J_62 : ∀ (n9 : Nat), ∀ (k : Nat), (k ≤ 10) → 10 - k < n9 → ∀ (H : Heap) (locs : List Loc), va_P G.1 lzC (lzX x q (upd S 3 (lookF (ln rr) (nI i) (D 2))) ++ (lzI G (q 2) 8 ln ++ (lzDoor G (q 6) qh D F ++ (lzQ G 4 (q 0) 8 (fun i => some (ih i)) ++ (lzI G (ih rr) 40 g))))) H → va_D A (lzX x q (upd S 3 (lookF (ln rr) (nI i) (D 2))) ++ (lzI G (q 2) 8 ln ++ (lzDoor G (q 6) qh D F ++ (lzQ G 4 (q 0) 8 (fun i => some (ih i)) ++ (lzI G (ih rr) 40 g))))) → va_S A ss.heap H locs → ∀ ls : Array Slot, lv_has ls 7 [(5, .int (carC F g i N ear k)), (6, .int (nI k)), (4, .int (lookV (ln rr) (nI i) (D 2))), (0, .ref x), (1, .int ear), (2, .int (nI rr)), (3, .int (nI i))] → W pp l ee ({ frames := 3, cells := 0, slots := 0, locals := 72 }) ss mm ([.ref x, .int ear, .int (nI rr), .int (nI i)] : List Value).toArray bl me cd H locs 0 0 (MQ bl (va_Qi (S := Unit) (fun (r : Int32) (_ : Unit) => r = carC F g i N ear 10) (rwB G (fun _ : Unit => (lzX x q (upd S 3 (lookF (ln rr) (nI i) (D 2))) ++ (lzI G (q 2) 8 ln ++ (lzDoor G (q 6) qh D F ++ (lzQ G 4 (q 0) 8 (fun i => some (ih i)) ++ (lzI G (ih rr) 40 g))))))) A) ([.ref x, .int ear, .int (nI rr), .int (nI i)] : List Value).toArray ss 0 0 A) (F0 mm 62 ls []) := by
            intro n9
            induction n9 with
            | zero => intro k hk hn; exact absurd hn (Nat.not_lt_zero _)
            | succ n9 ih_62 =>
              intro k hk hn_62 H locs hP hD hS ls hl
              refine lv_iload hx hb dX3_cares_62 (lv_at hl 1 rfl) ?_
              refine lv_bipush (v := 9) hx hb dX3_cares_64 (by decide) ?_
              refine lv_icmp_gt (tgt := 104) hx hb dX3_cares_66 (by decide) (fun c_66 => ?_) (fun c_66 => ?_)
              · skip
                have c_66' := Int32.not_le.mpr c_66
                have hk2 : 10 ≤ k := by have h9 : ¬ nI k ≤ 9 := fun h8 => absurd h8 (Int32.not_le.mpr c_66); have := mt (nI_leI (b := 9) (by omega) (by decide)).mpr h9; omega
                have hk3 : k = 10 := by omega
                refine lv_iload hx hb dX3_cares_104 (lv_at hl 0 rfl) ?_
                exact rw_iret (S := Unit) (G := G) (Wd := fun _ : Unit => (lzX x q (upd S 3 (lookF (ln rr) (nI i) (D 2))) ++ (lzI G (q 2) 8 ln ++ (lzDoor G (q 6) qh D F ++ (lzQ G 4 (q 0) 8 (fun i => some (ih i)) ++ (lzI G (ih rr) 40 g)))))) () hx hb hr hlk dX3_cares_106 hS (hP) (by rw [hk3])
              · skip
                have c_66' := Int32.not_lt.mp c_66
                have hk2 : k < 10 := by have h9 : nI k ≤ 9 := c_66'; have := (nI_leI (b := 9) (by omega) (by decide)).mp h9; omega
                refine lv_aload_n hx hb dX3_cares_69 rfl (lv_at hl 3 rfl) ?_
                refine lz_get (G := G) (ci := 3) (v := .ref (q 6)) (C := RX3) (T := TX3) (N := 13) hx hb hu_wsX30 (fun _ h9 => h9) hown hK hP 0 rfl rfl 6 (by decide) hw1 rfl rfl dX3_cares_70 ?_
                refine lv_iload hx hb dX3_cares_73 (lv_at hl 1 rfl) ?_
                refine lv_iload_n hx hb dX3_cares_75 rfl (lv_at hl 4 rfl) ?_
                refine lv_aload_n hx hb dX3_cares_76 rfl (lv_at hl 3 rfl) ?_
                refine lz_get (G := G) (ci := 3) (v := .ref (q 0)) (C := RX3) (T := TX3) (N := 13) hx hb hu_wsX30 (fun _ h9 => h9) hown hK hP 0 rfl rfl 0 (by decide) hw5 rfl rfl dX3_cares_77 ?_
                refine lv_iload_n hx hb dX3_cares_80 rfl (lv_at hl 5 rfl) ?_
                refine lz_aaldI (f := fun i => some (ih i)) hx hb hK hP 13 rfl rr (ih rr) rfl (by omega) (Nat.le_of_ble_eq_true rfl) dX3_cares_81 ?_
                refine lv_iload_n hx hb dX3_cares_82 rfl (lv_at hl 6 rfl) ?_
                have hPc := hP.sub (ws' := (lzDoor G (q 6) qh D F ++ lzI G (ih rr) 40 g)) [2, 3, 4, 5, 6, 7, 8, 9, 10, 11, 12, 14] rfl
                refine ro_calli (va_runV (As := [.int (nI k), .int ear, .ref (ih rr), .int (nI i)]) (rest := []) ⟨hx, hb, hml, hown, hts⟩ (c_X1_wouldClickSo l G (q 6) qh D F (ih rr) g (nI k) ear i N (hN) (hN8) (by omega)) (cwV 4 hts gX3_cares_X1_wouldClickSo rfl rfl rfl (by decide +kernel) ⟨Nat.le_of_ble_eq_true rfl, Nat.le_of_ble_eq_true rfl⟩) (ro_preV hK hPc hP (ci := 1) (q0 := 2) rfl rfl) rfl rfl hl.1 rfl (lv_room (Nat.le_of_ble_eq_true rfl)) dX3_cares_83 ⟨Nat.zero_le _, Nat.zero_le _⟩) (fun r_6 hr_6 => ?_)
                refine lv_if_eq (tgt := 98) hx hb dX3_cares_86 (by decide) (fun c_86 => ?_) (fun c_86 => ?_)
                · skip
                  have c_86 := b2_z hr_6 c_86
                  refine lv_iinc (v := nI (k + 1)) (lv' := [(6, .int (nI (k + 1))), (5, .int (carC F g i N ear k)), (4, .int (lookV (ln rr) (nI i) (D 2))), (0, .ref x), (1, .int ear), (2, .int (nI rr)), (3, .int (nI i))]) hx hb dX3_cares_98 hl (k := 1) rfl (nI_1 _) (by decide) rfl (fun ls hl => ?_)
                  refine lv_goto (tgt := 62) hx hb dX3_cares_101 (by decide) ?_
                  rw [show (carC F g i N ear k : Int32) = carC F g i N ear (k + 1) from by have hq := c_86; change allCS F g i _ _ _ = _ at hq; simp [shrC, kndC, whoC, carC, bitsI, hq]] at hl
                  exact ih_62 (k + 1) (by omega) (by omega) _ _ hP hD hS _ (lv_sub hl [1, 0, 2, 3, 4, 5, 6] rfl)
                · skip
                  have c_86 := b2_n hr_6 c_86
                  refine lv_iload hx hb dX3_cares_89 (lv_at hl 0 rfl) ?_
                  refine lv_iconst (v := 1) hx hb dX3_cares_91 (by decide) ?_
                  refine lv_iload hx hb dX3_cares_92 (lv_at hl 1 rfl) ?_
                  refine lv_ishl hx hb dX3_cares_94 ?_
                  refine lv_ior hx hb dX3_cares_95 ?_
                  refine lv_topi (fun x_7 ex_7 => ?_)
                  refine lv_istore (lv' := [(5, .int x_7), (6, .int (nI k)), (4, .int (lookV (ln rr) (nI i) (D 2))), (0, .ref x), (1, .int ear), (2, .int (nI rr)), (3, .int (nI i))]) hx hb dX3_cares_96 hl (by decide) rfl (fun ls hl => ?_)
                  refine lv_iinc (v := nI (k + 1)) (lv' := [(6, .int (nI (k + 1))), (5, .int x_7), (4, .int (lookV (ln rr) (nI i) (D 2))), (0, .ref x), (1, .int ear), (2, .int (nI rr)), (3, .int (nI i))]) hx hb dX3_cares_98 hl (k := 1) rfl (nI_1 _) (by decide) rfl (fun ls hl => ?_)
                  refine lv_goto (tgt := 62) hx hb dX3_cares_101 (by decide) ?_
                  obtain rfl : x_7 = carC F g i N ear (k + 1) := by rw [ex_7]; have hq := c_86; change allCS F g i _ _ _ = _ at hq; simp [shrC, kndC, whoC, carC, bitsI, hq]
                  exact ih_62 (k + 1) (by omega) (by omega) _ _ hP hD hS _ (lv_sub hl [1, 0, 2, 3, 4, 5, 6] rfl)
          rw [show (0 : Int32) = carC F g i N ear 0 from rfl] at hl
          exact J_62 _ 0 (by omega) (Nat.lt_succ_self _) _ _ hP hD hS _ (lv_sub hl [1, 0, 2, 3, 4, 5, 6] rfl)
        · skip
          exact absurd hno c_50
      · skip
        have c_27 := b2_z hr_3 c_27
        exact Bool.noConfusion (hA.symm.trans c_27)
  · skip
    have c_7 := b2_z hr_1 c_7
    exact Bool.noConfusion (hR.symm.trans c_7)
set_option maxHeartbeats 4000000 in
set_option maxRecDepth 100000 in
theorem c_X3_image_bad (l : Launch) (G : lzG) (x : Nat) (q : Nat → Nat) (S : Nat → Int32) (qh : Nat → Nat) (D : Nat → Int32) (F : Nat → Nat → Int32) (mh : Nat → Nat) (mq : Nat → Nat → Nat) (im : Nat) (DI : Nat → Int32) (FI : Nat → Nat → Int32) (a : Int32) (hbad : inR a 0 1 = false) : Met l yX3_image wsX3_image ({ frames := 1, cells := 0, slots := 0, locals := 22 }) (va_Pc [.ref x, .int a] (roP G (lzX x q S ++ (lzDoor G (q 6) qh D F ++ (lzQ G 3 (q 9) 2 (fun i => some (mh i)) ++ (lzDoor G (mh im) (mq im) DI FI)))))) (vp_Si (fun r => r = -1000001)) 0 0 (fun _ => False) := by
  refine ro_start (cc := cX3_image) (maxL := 2) (ret := (some .int)) (by decide) rfl (Nat.le_of_ble_eq_true rfl) ?_
  intro pp ee ss mm bl me cd hx hb hr hlk hml hts hown hP hK ls hl
  have hown : ss.vm.findClass RX3 = some mm.cls := hown
  have hw1 := hts (.constant RX3 81 (-1000001)) (List.mem_of_getElem? (i := 1) rfl)
  have hl : lv_has ls 2 [(0, .ref x), (1, .int a)] := hl
  refine lv_iload_n hx hb dX3_image_0 rfl (lv_at hl 1 rfl) ?_
  refine lv_iconst (v := 0) hx hb dX3_image_1 (by decide) ?_
  refine lv_iconst (v := 1) hx hb dX3_image_2 (by decide) ?_
  refine ro_calli (va_runS (As := [.int a, .int 0, .int 1]) (rest := []) ⟨hx, hb, hml, hown, hts⟩ (c_X3_isIn l G a 0 1 ) (cwS 3 hts gX3_image_X3_isIn rfl rfl rfl (by decide +kernel) ⟨Nat.le_of_ble_eq_true rfl, Nat.le_of_ble_eq_true rfl⟩) (ro_pre hK (fun k q h => by simp at h)) rfl rfl hl.1 rfl (lv_room (Nat.le_of_ble_eq_true rfl)) dX3_image_3 ⟨Nat.zero_le _, Nat.zero_le _⟩) (fun r_1 hr_1 => ?_)
  refine lv_if_ne (tgt := 12) hx hb dX3_image_6 (by decide) (fun c_6 => ?_) (fun c_6 => ?_)
  · skip
    have c_6 := b2_n hr_1 c_6
    exact Bool.noConfusion (hbad.symm.trans c_6)
  · skip
    have c_6 := b2_z hr_1 c_6
    refine lv_ldc hx hb hown hw1 dX3_image_9 ?_
    exact ro_iret hx hb hr hlk dX3_image_11 (rfl)
set_option maxHeartbeats 4000000 in
set_option maxRecDepth 100000 in
theorem c_X3_restore_bad (l : Launch) (G : lzG) (x : Nat) (q : Nat → Nat) (S : Nat → Int32) (qh : Nat → Nat) (D : Nat → Int32) (F : Nat → Nat → Int32) (mh : Nat → Nat) (mq : Nat → Nat → Nat) (im : Nat) (DI : Nat → Int32) (FI : Nat → Nat → Int32) (a : Int32) (hbad : inR a 0 1 = false) : Met l yX3_restore wsX3_restore ({ frames := 1, cells := 0, slots := 0, locals := 22 }) (va_Pc [.ref x, .int a] (roP G (lzX x q S ++ (lzDoor G (q 6) qh D F ++ (lzQ G 3 (q 9) 2 (fun i => some (mh i)) ++ (lzDoor G (mh im) (mq im) DI FI)))))) (vp_Si (fun r => r = -1000001)) 0 0 (fun _ => False) := by
  refine ro_start (cc := cX3_restore) (maxL := 2) (ret := (some .int)) (by decide) rfl (Nat.le_of_ble_eq_true rfl) ?_
  intro pp ee ss mm bl me cd hx hb hr hlk hml hts hown hP hK ls hl
  have hown : ss.vm.findClass RX3 = some mm.cls := hown
  have hw1 := hts (.constant RX3 81 (-1000001)) (List.mem_of_getElem? (i := 1) rfl)
  have hl : lv_has ls 2 [(0, .ref x), (1, .int a)] := hl
  refine lv_iload_n hx hb dX3_restore_0 rfl (lv_at hl 1 rfl) ?_
  refine lv_iconst (v := 0) hx hb dX3_restore_1 (by decide) ?_
  refine lv_iconst (v := 1) hx hb dX3_restore_2 (by decide) ?_
  refine ro_calli (va_runS (As := [.int a, .int 0, .int 1]) (rest := []) ⟨hx, hb, hml, hown, hts⟩ (c_X3_isIn l G a 0 1 ) (cwS 3 hts gX3_restore_X3_isIn rfl rfl rfl (by decide +kernel) ⟨Nat.le_of_ble_eq_true rfl, Nat.le_of_ble_eq_true rfl⟩) (ro_pre hK (fun k q h => by simp at h)) rfl rfl hl.1 rfl (lv_room (Nat.le_of_ble_eq_true rfl)) dX3_restore_3 ⟨Nat.zero_le _, Nat.zero_le _⟩) (fun r_1 hr_1 => ?_)
  refine lv_if_ne (tgt := 12) hx hb dX3_restore_6 (by decide) (fun c_6 => ?_) (fun c_6 => ?_)
  · skip
    have c_6 := b2_n hr_1 c_6
    exact Bool.noConfusion (hbad.symm.trans c_6)
  · skip
    have c_6 := b2_z hr_1 c_6
    refine lv_ldc hx hb hown hw1 dX3_restore_9 ?_
    exact ro_iret hx hb hr hlk dX3_restore_11 (rfl)
set_option maxHeartbeats 4000000 in
set_option maxRecDepth 100000 in
theorem c_X3_image_state (l : Launch) (G : lzG) (x : Nat) (q : Nat → Nat) (S : Nat → Int32) (qh : Nat → Nat) (D : Nat → Int32) (F : Nat → Nat → Int32) (mh : Nat → Nat) (mq : Nat → Nat → Nat) (im : Nat) (DI : Nat → Int32) (FI : Nat → Nat → Int32) (him : im < 2) (hR : (decide (0 < D 2) && decide (0 < D 3)) = false) : Met l yX3_image wsX3_image ({ frames := 1, cells := 0, slots := 0, locals := 22 }) (va_Pc [.ref x, .int (nI im)] (roP G (lzX x q S ++ (lzDoor G (q 6) qh D F ++ (lzQ G 3 (q 9) 2 (fun i => some (mh i)) ++ (lzDoor G (mh im) (mq im) DI FI)))))) (vp_Si (fun r => r = -1000002)) 0 0 (fun _ => False) := by
  have hA : inR (nI im) 0 1 = true := (by decide +kernel : ∀ k, k < 2 → inR (nI k) 0 1 = true) im him
  refine ro_start (cc := cX3_image) (maxL := 2) (ret := (some .int)) (by decide) rfl (Nat.le_of_ble_eq_true rfl) ?_
  intro pp ee ss mm bl me cd hx hb hr hlk hml hts hown hP hK ls hl
  have hown : ss.vm.findClass RX3 = some mm.cls := hown
  have hw2 := hts (.fieldLink RX3 38 "LampSquares" "here" "LLampSquares$Door;") (List.mem_of_getElem? (i := 2) rfl)
  have hw3 := hts (.constant RX3 137 (-1000002)) (List.mem_of_getElem? (i := 3) rfl)
  have hu_wsX30 : ∀ w ∈ wsX30, w.before ([.ref x, .int (nI im)] : List Value).toArray ss = true := fun w h9 => hts w (List.mem_cons_of_mem _ (List.mem_append_left _ (List.mem_append_right _ h9)))
  have hl : lv_has ls 2 [(0, .ref x), (1, .int (nI im))] := hl
  refine lv_iload_n hx hb dX3_image_0 rfl (lv_at hl 1 rfl) ?_
  refine lv_iconst (v := 0) hx hb dX3_image_1 (by decide) ?_
  refine lv_iconst (v := 1) hx hb dX3_image_2 (by decide) ?_
  refine ro_calli (va_runS (As := [.int (nI im), .int 0, .int 1]) (rest := []) ⟨hx, hb, hml, hown, hts⟩ (c_X3_isIn l G (nI im) 0 1 ) (cwS 3 hts gX3_image_X3_isIn rfl rfl rfl (by decide +kernel) ⟨Nat.le_of_ble_eq_true rfl, Nat.le_of_ble_eq_true rfl⟩) (ro_pre hK (fun k q h => by simp at h)) rfl rfl hl.1 rfl (lv_room (Nat.le_of_ble_eq_true rfl)) dX3_image_3 ⟨Nat.zero_le _, Nat.zero_le _⟩) (fun r_1 hr_1 => ?_)
  refine lv_if_ne (tgt := 12) hx hb dX3_image_6 (by decide) (fun c_6 => ?_) (fun c_6 => ?_)
  · skip
    have c_6 := b2_n hr_1 c_6
    refine lv_aload_n hx hb dX3_image_12 rfl (lv_at hl 0 rfl) ?_
    refine lz_get (G := G) (ci := 3) (v := .ref (q 6)) (C := RX3) (T := TX3) (N := 13) hx hb hu_wsX30 (fun _ h9 => h9) hown hK hP 0 rfl rfl 6 (by decide) hw2 rfl rfl dX3_image_13 ?_
    have hPc := hP.sub (ws' := lzDoor G (q 6) qh D F) [1, 2, 3, 4, 5, 6, 7, 8, 9, 10, 11] rfl
    refine ro_calli (va_runV (As := []) (rest := []) ⟨hx, hb, hml, hown, hts⟩ (c_X1_isRead l G (q 6) qh D F ) (cwV 0 hts gX3_image_X1_isRead rfl rfl rfl (by decide +kernel) ⟨Nat.le_of_ble_eq_true rfl, Nat.le_of_ble_eq_true rfl⟩) (ro_preV hK hPc hP (ci := 1) (q0 := 1) rfl rfl) rfl rfl hl.1 rfl (lv_room (Nat.le_of_ble_eq_true rfl)) dX3_image_16 ⟨Nat.zero_le _, Nat.zero_le _⟩) (fun r_2 hr_2 => ?_)
    refine lv_if_ne (tgt := 25) hx hb dX3_image_19 (by decide) (fun c_19 => ?_) (fun c_19 => ?_)
    · skip
      have c_19 := b2_n hr_2 c_19
      exact Bool.noConfusion (hR.symm.trans c_19)
    · skip
      have c_19 := b2_z hr_2 c_19
      refine lv_ldc hx hb hown hw3 dX3_image_22 ?_
      exact ro_iret hx hb hr hlk dX3_image_24 (rfl)
  · skip
    have c_6 := b2_z hr_1 c_6
    exact Bool.noConfusion (hA.symm.trans c_6)
set_option maxHeartbeats 4000000 in
set_option maxRecDepth 100000 in
theorem c_X3_image_ok (l : Launch) (G : lzG) (x : Nat) (q : Nat → Nat) (S : Nat → Int32) (qh : Nat → Nat) (D : Nat → Int32) (F : Nat → Nat → Int32) (mh : Nat → Nat) (mq : Nat → Nat → Nat) (im : Nat) (DI : Nat → Int32) (FI : Nat → Nat → Int32) (him : im < 2) (hR : (decide (0 < D 2) && decide (0 < D 3)) = true) : Met l yX3_image wsX3_image ({ frames := 2, cells := 0, slots := 0, locals := 61 }) (va_Pc [.ref x, .int (nI im)] (rwP G (lzX x q S ++ (lzDoor G (q 6) qh D F ++ (lzQ G 3 (q 9) 2 (fun i => some (mh i)) ++ (lzDoor G (mh im) (mq im) DI FI)))))) (va_Qi (S := Unit) (fun (r : Int32) (_ : Unit) => r = 1) (rwB G (fun _ : Unit => (lzX x q S ++ (lzDoor G (q 6) qh D F ++ (lzQ G 3 (q 9) 2 (fun i => some (mh i)) ++ (lzDoor G (mh im) (mq im) (tfS D DI) (tfF F FI))))))) (lzA (lzX x q S ++ (lzDoor G (q 6) qh D F ++ (lzQ G 3 (q 9) 2 (fun i => some (mh i)) ++ (lzDoor G (mh im) (mq im) DI FI)))))) 0 0 (lzA (lzX x q S ++ (lzDoor G (q 6) qh D F ++ (lzQ G 3 (q 9) 2 (fun i => some (mh i)) ++ (lzDoor G (mh im) (mq im) DI FI))))) := by
  have hA : inR (nI im) 0 1 = true := (by decide +kernel : ∀ k, k < 2 → inR (nI k) 0 1 = true) im him
  refine rw_start (S := Unit) (cc := cX3_image) (maxL := 2) (ret := (some .int)) (by decide) rfl (Nat.le_of_ble_eq_true rfl) ?_
  intro pp ee ss mm bl me cd A hx hb hr hlk hml hts hown hP hK hD hAe hS ls hl
  have hA0 : ∀ zz : Nat, lzA (lzX x q S ++ (lzDoor G (q 6) qh D F ++ (lzQ G 3 (q 9) 2 (fun i => some (mh i)) ++ (lzDoor G (mh im) (mq im) DI FI)))) zz → A zz := fun zz h9 => by rw [hAe]; exact h9
  rw [← hAe]
  clear hAe
  have hown : ss.vm.findClass RX3 = some mm.cls := hown
  have hw2 := hts (.fieldLink RX3 38 "LampSquares" "here" "LLampSquares$Door;") (List.mem_of_getElem? (i := 2) rfl)
  have hw4 := hts (.fieldLink RX3 52 "LampSquares" "images" "[LLampSquares$Door;") (List.mem_of_getElem? (i := 4) rfl)
  have hu_wsX30 : ∀ w ∈ wsX30, w.before ([.ref x, .int (nI im)] : List Value).toArray ss = true := fun w h9 => hts w (List.mem_cons_of_mem _ (List.mem_append_left _ (List.mem_append_right _ h9)))
  have hl : lv_has ls 2 [(0, .ref x), (1, .int (nI im))] := hl
  refine lv_iload_n hx hb dX3_image_0 rfl (lv_at hl 1 rfl) ?_
  refine lv_iconst (v := 0) hx hb dX3_image_1 (by decide) ?_
  refine lv_iconst (v := 1) hx hb dX3_image_2 (by decide) ?_
  refine ro_calli (va_runS (As := [.int (nI im), .int 0, .int 1]) (rest := []) ⟨hx, hb, hml, hown, hts⟩ (c_X3_isIn l G (nI im) 0 1 ) (cwS 3 hts gX3_image_X3_isIn rfl rfl rfl (by decide +kernel) ⟨Nat.le_of_ble_eq_true rfl, Nat.le_of_ble_eq_true rfl⟩) (ro_pre hK (fun k q h => by simp at h)) rfl rfl hl.1 rfl (lv_room (Nat.le_of_ble_eq_true rfl)) dX3_image_3 ⟨Nat.zero_le _, Nat.zero_le _⟩) (fun r_1 hr_1 => ?_)
  refine lv_if_ne (tgt := 12) hx hb dX3_image_6 (by decide) (fun c_6 => ?_) (fun c_6 => ?_)
  · skip
    have c_6 := b2_n hr_1 c_6
    refine lv_aload_n hx hb dX3_image_12 rfl (lv_at hl 0 rfl) ?_
    refine lz_get (G := G) (ci := 3) (v := .ref (q 6)) (C := RX3) (T := TX3) (N := 13) hx hb hu_wsX30 (fun _ h9 => h9) hown hK hP 0 rfl rfl 6 (by decide) hw2 rfl rfl dX3_image_13 ?_
    have hPc := hP.sub (ws' := lzDoor G (q 6) qh D F) [1, 2, 3, 4, 5, 6, 7, 8, 9, 10, 11] rfl
    refine ro_calli (va_runV (As := []) (rest := []) ⟨hx, hb, hml, hown, hts⟩ (c_X1_isRead l G (q 6) qh D F ) (cwV 0 hts gX3_image_X1_isRead rfl rfl rfl (by decide +kernel) ⟨Nat.le_of_ble_eq_true rfl, Nat.le_of_ble_eq_true rfl⟩) (ro_preV hK hPc hP (ci := 1) (q0 := 1) rfl rfl) rfl rfl hl.1 rfl (lv_room (Nat.le_of_ble_eq_true rfl)) dX3_image_16 ⟨Nat.zero_le _, Nat.zero_le _⟩) (fun r_2 hr_2 => ?_)
    refine lv_if_ne (tgt := 25) hx hb dX3_image_19 (by decide) (fun c_19 => ?_) (fun c_19 => ?_)
    · skip
      have c_19 := b2_n hr_2 c_19
      refine lv_aload_n hx hb dX3_image_25 rfl (lv_at hl 0 rfl) ?_
      refine lz_get (G := G) (ci := 3) (v := .ref (q 9)) (C := RX3) (T := TX3) (N := 13) hx hb hu_wsX30 (fun _ h9 => h9) hown hK hP 0 rfl rfl 9 (by decide) hw4 rfl rfl dX3_image_26 ?_
      refine lv_iload_n hx hb dX3_image_29 rfl (lv_at hl 1 rfl) ?_
      refine lz_aald (f := fun i => some (mh i)) hx hb hK hP 12 rfl im (mh im) rfl (by omega) (Nat.le_of_ble_eq_true rfl) dX3_image_30 ?_
      refine lv_aload_n hx hb dX3_image_31 rfl (lv_at hl 0 rfl) ?_
      refine lz_get (G := G) (ci := 3) (v := .ref (q 6)) (C := RX3) (T := TX3) (N := 13) hx hb hu_wsX30 (fun _ h9 => h9) hown hK hP 0 rfl rfl 6 (by decide) hw2 rfl rfl dX3_image_32 ?_
      have hPc := hP.sub (ws' := (lzDoor G (mh im) (mq im) DI FI ++ lzDoor G (q 6) qh D F)) [13, 14, 15, 16, 17, 18, 19, 20, 21, 22, 23, 1, 2, 3, 4, 5, 6, 7, 8, 9, 10, 11] rfl
      have hDc := hD.sub (ws' := (lzDoor G (mh im) (mq im) DI FI ++ lzDoor G (q 6) qh D F)) [13, 14, 15, 16, 17, 18, 19, 20, 21, 22, 23, 1, 2, 3, 4, 5, 6, 7, 8, 9, 10, 11] (by decide) rfl
      have hFc : ∀ zz : Nat, lzA (lzDoor G (mh im) (mq im) DI FI ++ lzDoor G (q 6) qh D F) zz → A zz := lz_free hD [13, 14, 15, 16, 17, 18, 19, 20, 21, 22, 23, 1, 2, 3, 4, 5, 6, 7, 8, 9, 10, 11] rfl
      refine va_callv (va_runV (As := [.ref (q 6)]) (rest := []) ⟨hx, hb, hml, hown, hts⟩ (c_X1_takeFrom l G (mh im) (mq im) DI FI (q 6) qh D F ) (cwV 1 hts gX3_image_X1_takeFrom rfl rfl rfl (by decide +kernel) ⟨Nat.le_of_ble_eq_true rfl, Nat.le_of_ble_eq_true rfl⟩) (rw_preV hK hPc hDc hP (ci := 1) (q0 := 13) rfl rfl) rfl rfl hl.1 rfl (lv_room (Nat.le_of_ble_eq_true rfl)) dX3_image_35 ⟨Nat.zero_le _, Nat.zero_le _⟩) hS (fun q _ h => hFc q h) hFc (fun u_4 t9 H1 locs ht hvm hr_3 hB hz1 hk1 hS => ?_)
      replace hB : va_P G.1 lzC _ t9.heap := hB
      rw [ht] at hB
      obtain ⟨hP, hD⟩ := lz_join (wc := (lzDoor G (mh im) (mq im) DI FI ++ lzDoor G (q 6) qh D F)) (wr := ([(x, .inr (3, [.ref (q 0), .ref (q 1), .ref (q 2), .int (S 3), .ref (q 4), .int (S 5), .ref (q 6), .ref (q 7), .ref (q 8), .ref (q 9), .ref (q 10), .int (S 11), .ref (q 12)])), (q 9, .inl (G.2 3, 2, .inr (.inr (.inr (.inr (fun i => some (mh i)))))))] : va_W)) (w1 := (lzDoor G (mh im) (mq im) (upd (upd (upd (upd DI 0 (D 0)) 1 (D 1)) 2 (D 2)) 3 (D 3)) (lzF (lzF (lzF (lzF (lzF (lzF (lzF (lzF (lzF FI 4 (va_cpy ((F 4)) ((FI 4)) 0 0 8)) 5 (va_cpy ((F 5)) ((FI 5)) 0 0 8)) 6 (va_cpy ((F 6)) ((FI 6)) 0 0 8)) 7 (va_cpy ((F 7)) ((FI 7)) 0 0 8)) 8 (va_cpy ((F 8)) ((FI 8)) 0 0 8)) 9 (va_cpy ((F 9)) ((FI 9)) 0 0 5)) 10 (va_cpy ((F 10)) ((FI 10)) 0 0 5)) 11 (va_cpy ((F 11)) ((FI 11)) 0 0 5)) 12 (va_cpy ((F 12)) ((FI 12)) 0 0 5)) ++ lzDoor G (q 6) qh D F)) hP hD [13, 14, 15, 16, 17, 18, 19, 20, 21, 22, 23, 1, 2, 3, 4, 5, 6, 7, 8, 9, 10, 11] [0, 12] rfl rfl (by decide) (by decide) rfl hk1 hB
      replace hP := hP.sub (ws' := (lzX x q S ++ (lzDoor G (q 6) qh D F ++ (lzQ G 3 (q 9) 2 (fun i => some (mh i)) ++ (lzDoor G (mh im) (mq im) (upd (upd (upd (upd DI 0 (D 0)) 1 (D 1)) 2 (D 2)) 3 (D 3)) (lzF (lzF (lzF (lzF (lzF (lzF (lzF (lzF (lzF FI 4 (va_cpy ((F 4)) ((FI 4)) 0 0 8)) 5 (va_cpy ((F 5)) ((FI 5)) 0 0 8)) 6 (va_cpy ((F 6)) ((FI 6)) 0 0 8)) 7 (va_cpy ((F 7)) ((FI 7)) 0 0 8)) 8 (va_cpy ((F 8)) ((FI 8)) 0 0 8)) 9 (va_cpy ((F 9)) ((FI 9)) 0 0 5)) 10 (va_cpy ((F 10)) ((FI 10)) 0 0 5)) 11 (va_cpy ((F 11)) ((FI 11)) 0 0 5)) 12 (va_cpy ((F 12)) ((FI 12)) 0 0 5))))))) [0, 13, 14, 15, 16, 17, 18, 19, 20, 21, 22, 23, 1, 2, 3, 4, 5, 6, 7, 8, 9, 10, 11, 12] rfl
      replace hD := hD.sub (ws' := (lzX x q S ++ (lzDoor G (q 6) qh D F ++ (lzQ G 3 (q 9) 2 (fun i => some (mh i)) ++ (lzDoor G (mh im) (mq im) (upd (upd (upd (upd DI 0 (D 0)) 1 (D 1)) 2 (D 2)) 3 (D 3)) (lzF (lzF (lzF (lzF (lzF (lzF (lzF (lzF (lzF FI 4 (va_cpy ((F 4)) ((FI 4)) 0 0 8)) 5 (va_cpy ((F 5)) ((FI 5)) 0 0 8)) 6 (va_cpy ((F 6)) ((FI 6)) 0 0 8)) 7 (va_cpy ((F 7)) ((FI 7)) 0 0 8)) 8 (va_cpy ((F 8)) ((FI 8)) 0 0 8)) 9 (va_cpy ((F 9)) ((FI 9)) 0 0 5)) 10 (va_cpy ((F 10)) ((FI 10)) 0 0 5)) 11 (va_cpy ((F 11)) ((FI 11)) 0 0 5)) 12 (va_cpy ((F 12)) ((FI 12)) 0 0 5))))))) [0, 13, 14, 15, 16, 17, 18, 19, 20, 21, 22, 23, 1, 2, 3, 4, 5, 6, 7, 8, 9, 10, 11, 12] (by decide) rfl
      clear ht hvm hB hz1 hk1
      generalize H1 = H at hP hS ⊢
      refine lv_iconst (v := 1) hx hb dX3_image_38 (by decide) ?_
      exact rw_iret (S := Unit) (G := G) (Wd := fun _ : Unit => (lzX x q S ++ (lzDoor G (q 6) qh D F ++ (lzQ G 3 (q 9) 2 (fun i => some (mh i)) ++ (lzDoor G (mh im) (mq im) (tfS D DI) (tfF F FI)))))) () hx hb hr hlk dX3_image_39 hS (hP) (rfl)
    · skip
      have c_19 := b2_z hr_2 c_19
      exact Bool.noConfusion (hR.symm.trans c_19)
  · skip
    have c_6 := b2_z hr_1 c_6
    exact Bool.noConfusion (hA.symm.trans c_6)
set_option maxHeartbeats 4000000 in
set_option maxRecDepth 100000 in
theorem c_X3_restore_state (l : Launch) (G : lzG) (x : Nat) (q : Nat → Nat) (S : Nat → Int32) (qh : Nat → Nat) (D : Nat → Int32) (F : Nat → Nat → Int32) (mh : Nat → Nat) (mq : Nat → Nat → Nat) (im : Nat) (DI : Nat → Int32) (FI : Nat → Nat → Int32) (him : im < 2) (hR : (decide (0 < DI 2) && decide (0 < DI 3)) = false) : Met l yX3_restore wsX3_restore ({ frames := 1, cells := 0, slots := 0, locals := 22 }) (va_Pc [.ref x, .int (nI im)] (roP G (lzX x q S ++ (lzDoor G (q 6) qh D F ++ (lzQ G 3 (q 9) 2 (fun i => some (mh i)) ++ (lzDoor G (mh im) (mq im) DI FI)))))) (vp_Si (fun r => r = -1000002)) 0 0 (fun _ => False) := by
  have hA : inR (nI im) 0 1 = true := (by decide +kernel : ∀ k, k < 2 → inR (nI k) 0 1 = true) im him
  refine ro_start (cc := cX3_restore) (maxL := 2) (ret := (some .int)) (by decide) rfl (Nat.le_of_ble_eq_true rfl) ?_
  intro pp ee ss mm bl me cd hx hb hr hlk hml hts hown hP hK ls hl
  have hown : ss.vm.findClass RX3 = some mm.cls := hown
  have hw2 := hts (.fieldLink RX3 52 "LampSquares" "images" "[LLampSquares$Door;") (List.mem_of_getElem? (i := 2) rfl)
  have hw3 := hts (.constant RX3 137 (-1000002)) (List.mem_of_getElem? (i := 3) rfl)
  have hu_wsX30 : ∀ w ∈ wsX30, w.before ([.ref x, .int (nI im)] : List Value).toArray ss = true := fun w h9 => hts w (List.mem_cons_of_mem _ (List.mem_append_left _ (List.mem_append_left _ (List.mem_append_right _ h9))))
  have hl : lv_has ls 2 [(0, .ref x), (1, .int (nI im))] := hl
  refine lv_iload_n hx hb dX3_restore_0 rfl (lv_at hl 1 rfl) ?_
  refine lv_iconst (v := 0) hx hb dX3_restore_1 (by decide) ?_
  refine lv_iconst (v := 1) hx hb dX3_restore_2 (by decide) ?_
  refine ro_calli (va_runS (As := [.int (nI im), .int 0, .int 1]) (rest := []) ⟨hx, hb, hml, hown, hts⟩ (c_X3_isIn l G (nI im) 0 1 ) (cwS 3 hts gX3_restore_X3_isIn rfl rfl rfl (by decide +kernel) ⟨Nat.le_of_ble_eq_true rfl, Nat.le_of_ble_eq_true rfl⟩) (ro_pre hK (fun k q h => by simp at h)) rfl rfl hl.1 rfl (lv_room (Nat.le_of_ble_eq_true rfl)) dX3_restore_3 ⟨Nat.zero_le _, Nat.zero_le _⟩) (fun r_1 hr_1 => ?_)
  refine lv_if_ne (tgt := 12) hx hb dX3_restore_6 (by decide) (fun c_6 => ?_) (fun c_6 => ?_)
  · skip
    have c_6 := b2_n hr_1 c_6
    refine lv_aload_n hx hb dX3_restore_12 rfl (lv_at hl 0 rfl) ?_
    refine lz_get (G := G) (ci := 3) (v := .ref (q 9)) (C := RX3) (T := TX3) (N := 13) hx hb hu_wsX30 (fun _ h9 => h9) hown hK hP 0 rfl rfl 9 (by decide) hw2 rfl rfl dX3_restore_13 ?_
    refine lv_iload_n hx hb dX3_restore_16 rfl (lv_at hl 1 rfl) ?_
    refine lz_aald (f := fun i => some (mh i)) hx hb hK hP 12 rfl im (mh im) rfl (by omega) (Nat.le_of_ble_eq_true rfl) dX3_restore_17 ?_
    have hPc := hP.sub (ws' := lzDoor G (mh im) (mq im) DI FI) [13, 14, 15, 16, 17, 18, 19, 20, 21, 22, 23] rfl
    refine ro_calli (va_runV (As := []) (rest := []) ⟨hx, hb, hml, hown, hts⟩ (c_X1_isRead l G (mh im) (mq im) DI FI ) (cwV 0 hts gX3_restore_X1_isRead rfl rfl rfl (by decide +kernel) ⟨Nat.le_of_ble_eq_true rfl, Nat.le_of_ble_eq_true rfl⟩) (ro_preV hK hPc hP (ci := 1) (q0 := 13) rfl rfl) rfl rfl hl.1 rfl (lv_room (Nat.le_of_ble_eq_true rfl)) dX3_restore_18 ⟨Nat.zero_le _, Nat.zero_le _⟩) (fun r_2 hr_2 => ?_)
    refine lv_if_ne (tgt := 27) hx hb dX3_restore_21 (by decide) (fun c_21 => ?_) (fun c_21 => ?_)
    · skip
      have c_21 := b2_n hr_2 c_21
      exact Bool.noConfusion (hR.symm.trans c_21)
    · skip
      have c_21 := b2_z hr_2 c_21
      refine lv_ldc hx hb hown hw3 dX3_restore_24 ?_
      exact ro_iret hx hb hr hlk dX3_restore_26 (rfl)
  · skip
    have c_6 := b2_z hr_1 c_6
    exact Bool.noConfusion (hA.symm.trans c_6)
set_option maxHeartbeats 4000000 in
set_option maxRecDepth 100000 in
theorem c_X3_restore_ok (l : Launch) (G : lzG) (x : Nat) (q : Nat → Nat) (S : Nat → Int32) (qh : Nat → Nat) (D : Nat → Int32) (F : Nat → Nat → Int32) (mh : Nat → Nat) (mq : Nat → Nat → Nat) (im : Nat) (DI : Nat → Int32) (FI : Nat → Nat → Int32) (qa : Nat → Nat) (V : Nat → Int32) (him : im < 2) (hR : (decide (0 < DI 2) && decide (0 < DI 3)) = true) : Met l yX3_restore wsX3_restore ({ frames := 2, cells := 0, slots := 0, locals := 61 }) (va_Pc [.ref x, .int (nI im)] (rwP G (lzX x q S ++ (lzDoor G (q 6) qh D F ++ (lzQ G 3 (q 9) 2 (fun i => some (mh i)) ++ (lzDoor G (mh im) (mq im) DI FI ++ (lzAc (q 8) qa V))))))) (va_Qi (S := Unit) (fun (r : Int32) (_ : Unit) => r = 1) (rwB G (fun _ : Unit => (lzX x q S ++ (lzDoor G (q 6) qh (tfS DI D) (tfF FI F) ++ (lzQ G 3 (q 9) 2 (fun i => some (mh i)) ++ (lzDoor G (mh im) (mq im) DI FI ++ (lzAc (q 8) qa (upd V 2 0)))))))) (lzA (lzX x q S ++ (lzDoor G (q 6) qh D F ++ (lzQ G 3 (q 9) 2 (fun i => some (mh i)) ++ (lzDoor G (mh im) (mq im) DI FI ++ (lzAc (q 8) qa V))))))) 0 0 (lzA (lzX x q S ++ (lzDoor G (q 6) qh D F ++ (lzQ G 3 (q 9) 2 (fun i => some (mh i)) ++ (lzDoor G (mh im) (mq im) DI FI ++ (lzAc (q 8) qa V)))))) := by
  have hA : inR (nI im) 0 1 = true := (by decide +kernel : ∀ k, k < 2 → inR (nI k) 0 1 = true) im him
  refine rw_start (S := Unit) (cc := cX3_restore) (maxL := 2) (ret := (some .int)) (by decide) rfl (Nat.le_of_ble_eq_true rfl) ?_
  intro pp ee ss mm bl me cd A hx hb hr hlk hml hts hown hP hK hD hAe hS ls hl
  have hA0 : ∀ zz : Nat, lzA (lzX x q S ++ (lzDoor G (q 6) qh D F ++ (lzQ G 3 (q 9) 2 (fun i => some (mh i)) ++ (lzDoor G (mh im) (mq im) DI FI ++ (lzAc (q 8) qa V))))) zz → A zz := fun zz h9 => by rw [hAe]; exact h9
  rw [← hAe]
  clear hAe
  have hown : ss.vm.findClass RX3 = some mm.cls := hown
  have hw2 := hts (.fieldLink RX3 52 "LampSquares" "images" "[LLampSquares$Door;") (List.mem_of_getElem? (i := 2) rfl)
  have hw4 := hts (.fieldLink RX3 38 "LampSquares" "here" "LLampSquares$Door;") (List.mem_of_getElem? (i := 4) rfl)
  have hw5 := hts (.fieldLink RX3 48 "LampSquares" "acts" "LLampSquares$Acts;") (List.mem_of_getElem? (i := 5) rfl)
  have hu_wsX30 : ∀ w ∈ wsX30, w.before ([.ref x, .int (nI im)] : List Value).toArray ss = true := fun w h9 => hts w (List.mem_cons_of_mem _ (List.mem_append_left _ (List.mem_append_left _ (List.mem_append_right _ h9))))
  have hl : lv_has ls 2 [(0, .ref x), (1, .int (nI im))] := hl
  refine lv_iload_n hx hb dX3_restore_0 rfl (lv_at hl 1 rfl) ?_
  refine lv_iconst (v := 0) hx hb dX3_restore_1 (by decide) ?_
  refine lv_iconst (v := 1) hx hb dX3_restore_2 (by decide) ?_
  refine ro_calli (va_runS (As := [.int (nI im), .int 0, .int 1]) (rest := []) ⟨hx, hb, hml, hown, hts⟩ (c_X3_isIn l G (nI im) 0 1 ) (cwS 3 hts gX3_restore_X3_isIn rfl rfl rfl (by decide +kernel) ⟨Nat.le_of_ble_eq_true rfl, Nat.le_of_ble_eq_true rfl⟩) (ro_pre hK (fun k q h => by simp at h)) rfl rfl hl.1 rfl (lv_room (Nat.le_of_ble_eq_true rfl)) dX3_restore_3 ⟨Nat.zero_le _, Nat.zero_le _⟩) (fun r_1 hr_1 => ?_)
  refine lv_if_ne (tgt := 12) hx hb dX3_restore_6 (by decide) (fun c_6 => ?_) (fun c_6 => ?_)
  · skip
    have c_6 := b2_n hr_1 c_6
    refine lv_aload_n hx hb dX3_restore_12 rfl (lv_at hl 0 rfl) ?_
    refine lz_get (G := G) (ci := 3) (v := .ref (q 9)) (C := RX3) (T := TX3) (N := 13) hx hb hu_wsX30 (fun _ h9 => h9) hown hK hP 0 rfl rfl 9 (by decide) hw2 rfl rfl dX3_restore_13 ?_
    refine lv_iload_n hx hb dX3_restore_16 rfl (lv_at hl 1 rfl) ?_
    refine lz_aald (f := fun i => some (mh i)) hx hb hK hP 12 rfl im (mh im) rfl (by omega) (Nat.le_of_ble_eq_true rfl) dX3_restore_17 ?_
    have hPc := hP.sub (ws' := lzDoor G (mh im) (mq im) DI FI) [13, 14, 15, 16, 17, 18, 19, 20, 21, 22, 23] rfl
    refine ro_calli (va_runV (As := []) (rest := []) ⟨hx, hb, hml, hown, hts⟩ (c_X1_isRead l G (mh im) (mq im) DI FI ) (cwV 0 hts gX3_restore_X1_isRead rfl rfl rfl (by decide +kernel) ⟨Nat.le_of_ble_eq_true rfl, Nat.le_of_ble_eq_true rfl⟩) (ro_preV hK hPc hP (ci := 1) (q0 := 13) rfl rfl) rfl rfl hl.1 rfl (lv_room (Nat.le_of_ble_eq_true rfl)) dX3_restore_18 ⟨Nat.zero_le _, Nat.zero_le _⟩) (fun r_2 hr_2 => ?_)
    refine lv_if_ne (tgt := 27) hx hb dX3_restore_21 (by decide) (fun c_21 => ?_) (fun c_21 => ?_)
    · skip
      have c_21 := b2_n hr_2 c_21
      refine lv_aload_n hx hb dX3_restore_27 rfl (lv_at hl 0 rfl) ?_
      refine lz_get (G := G) (ci := 3) (v := .ref (q 6)) (C := RX3) (T := TX3) (N := 13) hx hb hu_wsX30 (fun _ h9 => h9) hown hK hP 0 rfl rfl 6 (by decide) hw4 rfl rfl dX3_restore_28 ?_
      refine lv_aload_n hx hb dX3_restore_31 rfl (lv_at hl 0 rfl) ?_
      refine lz_get (G := G) (ci := 3) (v := .ref (q 9)) (C := RX3) (T := TX3) (N := 13) hx hb hu_wsX30 (fun _ h9 => h9) hown hK hP 0 rfl rfl 9 (by decide) hw2 rfl rfl dX3_restore_32 ?_
      refine lv_iload_n hx hb dX3_restore_35 rfl (lv_at hl 1 rfl) ?_
      refine lz_aald (f := fun i => some (mh i)) hx hb hK hP 12 rfl im (mh im) rfl (by omega) (Nat.le_of_ble_eq_true rfl) dX3_restore_36 ?_
      have hPc := hP.sub (ws' := (lzDoor G (q 6) qh D F ++ lzDoor G (mh im) (mq im) DI FI)) [1, 2, 3, 4, 5, 6, 7, 8, 9, 10, 11, 13, 14, 15, 16, 17, 18, 19, 20, 21, 22, 23] rfl
      have hDc := hD.sub (ws' := (lzDoor G (q 6) qh D F ++ lzDoor G (mh im) (mq im) DI FI)) [1, 2, 3, 4, 5, 6, 7, 8, 9, 10, 11, 13, 14, 15, 16, 17, 18, 19, 20, 21, 22, 23] (by decide) rfl
      have hFc : ∀ zz : Nat, lzA (lzDoor G (q 6) qh D F ++ lzDoor G (mh im) (mq im) DI FI) zz → A zz := lz_free hD [1, 2, 3, 4, 5, 6, 7, 8, 9, 10, 11, 13, 14, 15, 16, 17, 18, 19, 20, 21, 22, 23] rfl
      refine va_callv (va_runV (As := [.ref (mh im)]) (rest := []) ⟨hx, hb, hml, hown, hts⟩ (c_X1_takeFrom l G (q 6) qh D F (mh im) (mq im) DI FI ) (cwV 1 hts gX3_restore_X1_takeFrom rfl rfl rfl (by decide +kernel) ⟨Nat.le_of_ble_eq_true rfl, Nat.le_of_ble_eq_true rfl⟩) (rw_preV hK hPc hDc hP (ci := 1) (q0 := 1) rfl rfl) rfl rfl hl.1 rfl (lv_room (Nat.le_of_ble_eq_true rfl)) dX3_restore_37 ⟨Nat.zero_le _, Nat.zero_le _⟩) hS (fun q _ h => hFc q h) hFc (fun u_4 t9 H1 locs ht hvm hr_3 hB hz1 hk1 hS => ?_)
      replace hB : va_P G.1 lzC _ t9.heap := hB
      rw [ht] at hB
      obtain ⟨hP, hD⟩ := lz_join (wc := (lzDoor G (q 6) qh D F ++ lzDoor G (mh im) (mq im) DI FI)) (wr := ([(x, .inr (3, [.ref (q 0), .ref (q 1), .ref (q 2), .int (S 3), .ref (q 4), .int (S 5), .ref (q 6), .ref (q 7), .ref (q 8), .ref (q 9), .ref (q 10), .int (S 11), .ref (q 12)])), (q 9, .inl (G.2 3, 2, .inr (.inr (.inr (.inr (fun i => some (mh i))))))), (q 8, .inr (0, [.ref (qa 0), .int (V 1), .int (V 2)]))] : va_W)) (w1 := (lzDoor G (q 6) qh (upd (upd (upd (upd D 0 (DI 0)) 1 (DI 1)) 2 (DI 2)) 3 (DI 3)) (lzF (lzF (lzF (lzF (lzF (lzF (lzF (lzF (lzF F 4 (va_cpy ((FI 4)) ((F 4)) 0 0 8)) 5 (va_cpy ((FI 5)) ((F 5)) 0 0 8)) 6 (va_cpy ((FI 6)) ((F 6)) 0 0 8)) 7 (va_cpy ((FI 7)) ((F 7)) 0 0 8)) 8 (va_cpy ((FI 8)) ((F 8)) 0 0 8)) 9 (va_cpy ((FI 9)) ((F 9)) 0 0 5)) 10 (va_cpy ((FI 10)) ((F 10)) 0 0 5)) 11 (va_cpy ((FI 11)) ((F 11)) 0 0 5)) 12 (va_cpy ((FI 12)) ((F 12)) 0 0 5)) ++ lzDoor G (mh im) (mq im) DI FI)) hP hD [1, 2, 3, 4, 5, 6, 7, 8, 9, 10, 11, 13, 14, 15, 16, 17, 18, 19, 20, 21, 22, 23] [0, 12, 24] rfl rfl (by decide) (by decide) rfl hk1 hB
      replace hP := hP.sub (ws' := (lzX x q S ++ (lzDoor G (q 6) qh (upd (upd (upd (upd D 0 (DI 0)) 1 (DI 1)) 2 (DI 2)) 3 (DI 3)) (lzF (lzF (lzF (lzF (lzF (lzF (lzF (lzF (lzF F 4 (va_cpy ((FI 4)) ((F 4)) 0 0 8)) 5 (va_cpy ((FI 5)) ((F 5)) 0 0 8)) 6 (va_cpy ((FI 6)) ((F 6)) 0 0 8)) 7 (va_cpy ((FI 7)) ((F 7)) 0 0 8)) 8 (va_cpy ((FI 8)) ((F 8)) 0 0 8)) 9 (va_cpy ((FI 9)) ((F 9)) 0 0 5)) 10 (va_cpy ((FI 10)) ((F 10)) 0 0 5)) 11 (va_cpy ((FI 11)) ((F 11)) 0 0 5)) 12 (va_cpy ((FI 12)) ((F 12)) 0 0 5)) ++ (lzQ G 3 (q 9) 2 (fun i => some (mh i)) ++ (lzDoor G (mh im) (mq im) DI FI ++ (lzAc (q 8) qa V)))))) [0, 3, 4, 5, 6, 7, 8, 9, 10, 11, 12, 13, 1, 14, 15, 16, 17, 18, 19, 20, 21, 22, 23, 24, 2] rfl
      replace hD := hD.sub (ws' := (lzX x q S ++ (lzDoor G (q 6) qh (upd (upd (upd (upd D 0 (DI 0)) 1 (DI 1)) 2 (DI 2)) 3 (DI 3)) (lzF (lzF (lzF (lzF (lzF (lzF (lzF (lzF (lzF F 4 (va_cpy ((FI 4)) ((F 4)) 0 0 8)) 5 (va_cpy ((FI 5)) ((F 5)) 0 0 8)) 6 (va_cpy ((FI 6)) ((F 6)) 0 0 8)) 7 (va_cpy ((FI 7)) ((F 7)) 0 0 8)) 8 (va_cpy ((FI 8)) ((F 8)) 0 0 8)) 9 (va_cpy ((FI 9)) ((F 9)) 0 0 5)) 10 (va_cpy ((FI 10)) ((F 10)) 0 0 5)) 11 (va_cpy ((FI 11)) ((F 11)) 0 0 5)) 12 (va_cpy ((FI 12)) ((F 12)) 0 0 5)) ++ (lzQ G 3 (q 9) 2 (fun i => some (mh i)) ++ (lzDoor G (mh im) (mq im) DI FI ++ (lzAc (q 8) qa V)))))) [0, 3, 4, 5, 6, 7, 8, 9, 10, 11, 12, 13, 1, 14, 15, 16, 17, 18, 19, 20, 21, 22, 23, 24, 2] (by decide) rfl
      clear ht hvm hB hz1 hk1
      generalize H1 = H at hP hS ⊢
      refine lv_aload_n hx hb dX3_restore_40 rfl (lv_at hl 0 rfl) ?_
      refine lz_get (G := G) (ci := 3) (v := .ref (q 8)) (C := RX3) (T := TX3) (N := 13) hx hb hu_wsX30 (fun _ h9 => h9) hown hK hP 0 rfl rfl 8 (by decide) hw5 rfl rfl dX3_restore_41 ?_
      have hPc := hP.sub (ws' := lzAc (q 8) qa V) [24] rfl
      have hDc := hD.sub (ws' := lzAc (q 8) qa V) [24] (by decide) rfl
      have hFc : ∀ zz : Nat, lzA (lzAc (q 8) qa V) zz → A zz := lz_free hD [24] rfl
      refine va_callv (va_runV (As := []) (rest := []) ⟨hx, hb, hml, hown, hts⟩ (c_X0_forgetAll l G (q 8) qa V ) (cwV 0 hts gX3_restore_X0_forgetAll rfl rfl rfl (by decide +kernel) ⟨Nat.le_of_ble_eq_true rfl, Nat.le_of_ble_eq_true rfl⟩) (rw_preV hK hPc hDc hP (ci := 0) (q0 := 24) rfl rfl) rfl rfl hl.1 rfl (lv_room (Nat.le_of_ble_eq_true rfl)) dX3_restore_44 ⟨Nat.zero_le _, Nat.zero_le _⟩) hS (fun q _ h => hFc q h) hFc (fun u_6 t9 H1 locs ht hvm hr_5 hB hz1 hk1 hS => ?_)
      replace hB : va_P G.1 lzC _ t9.heap := hB
      rw [ht] at hB
      obtain ⟨hP, hD⟩ := lz_join (wc := lzAc (q 8) qa V) (wr := ([(x, .inr (3, [.ref (q 0), .ref (q 1), .ref (q 2), .int (S 3), .ref (q 4), .int (S 5), .ref (q 6), .ref (q 7), .ref (q 8), .ref (q 9), .ref (q 10), .int (S 11), .ref (q 12)])), (q 6, .inr (1, [.int (DI 0), .int (DI 1), .int (DI 2), .int (DI 3), .ref (qh 4), .ref (qh 5), .ref (qh 6), .ref (qh 7), .ref (qh 8), .ref (qh 9), .ref (qh 10), .ref (qh 11), .ref (qh 12), .ref (qh 13)])), (qh 4, .inl (G.2 0, 8, .inl (va_cpy ((FI 4)) ((F 4)) 0 0 8))), (qh 5, .inl (G.2 0, 8, .inl (va_cpy ((FI 5)) ((F 5)) 0 0 8))), (qh 6, .inl (G.2 0, 8, .inl (va_cpy ((FI 6)) ((F 6)) 0 0 8))), (qh 7, .inl (G.2 0, 8, .inl (va_cpy ((FI 7)) ((F 7)) 0 0 8))), (qh 8, .inl (G.2 0, 8, .inl (va_cpy ((FI 8)) ((F 8)) 0 0 8))), (qh 9, .inl (G.2 0, 5, .inl (va_cpy ((FI 9)) ((F 9)) 0 0 5))), (qh 10, .inl (G.2 0, 5, .inl (va_cpy ((FI 10)) ((F 10)) 0 0 5))), (qh 11, .inl (G.2 0, 5, .inl (va_cpy ((FI 11)) ((F 11)) 0 0 5))), (qh 12, .inl (G.2 0, 5, .inl (va_cpy ((FI 12)) ((F 12)) 0 0 5))), (qh 13, .inl (G.2 0, 5, .inl (F 13))), (q 9, .inl (G.2 3, 2, .inr (.inr (.inr (.inr (fun i => some (mh i))))))), ((mh im), .inr (1, [.int (DI 0), .int (DI 1), .int (DI 2), .int (DI 3), .ref ((mq im) 4), .ref ((mq im) 5), .ref ((mq im) 6), .ref ((mq im) 7), .ref ((mq im) 8), .ref ((mq im) 9), .ref ((mq im) 10), .ref ((mq im) 11), .ref ((mq im) 12), .ref ((mq im) 13)])), ((mq im) 4, .inl (G.2 0, 8, .inl (FI 4))), ((mq im) 5, .inl (G.2 0, 8, .inl (FI 5))), ((mq im) 6, .inl (G.2 0, 8, .inl (FI 6))), ((mq im) 7, .inl (G.2 0, 8, .inl (FI 7))), ((mq im) 8, .inl (G.2 0, 8, .inl (FI 8))), ((mq im) 9, .inl (G.2 0, 5, .inl (FI 9))), ((mq im) 10, .inl (G.2 0, 5, .inl (FI 10))), ((mq im) 11, .inl (G.2 0, 5, .inl (FI 11))), ((mq im) 12, .inl (G.2 0, 5, .inl (FI 12))), ((mq im) 13, .inl (G.2 0, 5, .inl (FI 13)))] : va_W)) (w1 := lzAc (q 8) qa (upd V 2 0)) hP hD [24] [0, 1, 2, 3, 4, 5, 6, 7, 8, 9, 10, 11, 12, 13, 14, 15, 16, 17, 18, 19, 20, 21, 22, 23] rfl rfl (by decide) (by decide) rfl hk1 hB
      replace hP := hP.sub (ws' := (lzX x q S ++ (lzDoor G (q 6) qh (upd (upd (upd (upd D 0 (DI 0)) 1 (DI 1)) 2 (DI 2)) 3 (DI 3)) (lzF (lzF (lzF (lzF (lzF (lzF (lzF (lzF (lzF F 4 (va_cpy ((FI 4)) ((F 4)) 0 0 8)) 5 (va_cpy ((FI 5)) ((F 5)) 0 0 8)) 6 (va_cpy ((FI 6)) ((F 6)) 0 0 8)) 7 (va_cpy ((FI 7)) ((F 7)) 0 0 8)) 8 (va_cpy ((FI 8)) ((F 8)) 0 0 8)) 9 (va_cpy ((FI 9)) ((F 9)) 0 0 5)) 10 (va_cpy ((FI 10)) ((F 10)) 0 0 5)) 11 (va_cpy ((FI 11)) ((F 11)) 0 0 5)) 12 (va_cpy ((FI 12)) ((F 12)) 0 0 5)) ++ (lzQ G 3 (q 9) 2 (fun i => some (mh i)) ++ (lzDoor G (mh im) (mq im) DI FI ++ (lzAc (q 8) qa (upd V 2 0))))))) [0, 1, 2, 3, 4, 5, 6, 7, 8, 9, 10, 11, 12, 13, 14, 15, 16, 17, 18, 19, 20, 21, 22, 23, 24] rfl
      replace hD := hD.sub (ws' := (lzX x q S ++ (lzDoor G (q 6) qh (upd (upd (upd (upd D 0 (DI 0)) 1 (DI 1)) 2 (DI 2)) 3 (DI 3)) (lzF (lzF (lzF (lzF (lzF (lzF (lzF (lzF (lzF F 4 (va_cpy ((FI 4)) ((F 4)) 0 0 8)) 5 (va_cpy ((FI 5)) ((F 5)) 0 0 8)) 6 (va_cpy ((FI 6)) ((F 6)) 0 0 8)) 7 (va_cpy ((FI 7)) ((F 7)) 0 0 8)) 8 (va_cpy ((FI 8)) ((F 8)) 0 0 8)) 9 (va_cpy ((FI 9)) ((F 9)) 0 0 5)) 10 (va_cpy ((FI 10)) ((F 10)) 0 0 5)) 11 (va_cpy ((FI 11)) ((F 11)) 0 0 5)) 12 (va_cpy ((FI 12)) ((F 12)) 0 0 5)) ++ (lzQ G 3 (q 9) 2 (fun i => some (mh i)) ++ (lzDoor G (mh im) (mq im) DI FI ++ (lzAc (q 8) qa (upd V 2 0))))))) [0, 1, 2, 3, 4, 5, 6, 7, 8, 9, 10, 11, 12, 13, 14, 15, 16, 17, 18, 19, 20, 21, 22, 23, 24] (by decide) rfl
      clear ht hvm hB hz1 hk1
      generalize H1 = H at hP hS ⊢
      refine lv_iconst (v := 1) hx hb dX3_restore_47 (by decide) ?_
      exact rw_iret (S := Unit) (G := G) (Wd := fun _ : Unit => (lzX x q S ++ (lzDoor G (q 6) qh (tfS DI D) (tfF FI F) ++ (lzQ G 3 (q 9) 2 (fun i => some (mh i)) ++ (lzDoor G (mh im) (mq im) DI FI ++ (lzAc (q 8) qa (upd V 2 0))))))) () hx hb hr hlk dX3_restore_48 hS (hP) (rfl)
    · skip
      have c_21 := b2_z hr_2 c_21
      exact Bool.noConfusion (hR.symm.trans c_21)
  · skip
    have c_6 := b2_z hr_1 c_6
    exact Bool.noConfusion (hA.symm.trans c_6)
