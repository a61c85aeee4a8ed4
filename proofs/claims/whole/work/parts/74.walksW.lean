set_option maxHeartbeats 4000000 in
set_option maxRecDepth 100000 in
theorem c_X3_copy_bad (l : Launch) (G : lzG) (x : Nat) (q : Nat → Nat) (S : Nat → Int32) (a i b j n : Int32) (hbad : (inR a 0 7 && inR b 0 7) = false) : Met l yX3_copy wsX3_copy ({ frames := 2, cells := 0, slots := 0, locals := 42 }) (va_Pc [.ref x, .int a, .int i, .int b, .int j, .int n] (roP G (lzX x q S))) (vp_Si (fun r => r = -1000001)) 0 0 (fun _ => False) := by
  refine ro_start (cc := cX3_copy) (maxL := 6) (ret := (some .int)) (by decide) rfl (Nat.le_of_ble_eq_true rfl) ?_
  intro pp ee ss mm bl me cd hx hb hr hlk hml hts hown hP hK ls hl
  have hown : ss.vm.findClass RX3 = some mm.cls := hown
  have hw1 := hts (.constant RX3 81 (-1000001)) (List.mem_of_getElem? (i := 1) rfl)
  have hl : lv_has ls 6 [(0, .ref x), (1, .int a), (2, .int i), (3, .int b), (4, .int j), (5, .int n)] := hl
  refine lv_iload_n hx hb dX3_copy_0 rfl (lv_at hl 1 rfl) ?_
  refine ro_calli (va_runS (As := [.int a]) (rest := []) ⟨hx, hb, hml, hown, hts⟩ (c_X3_isRow l G a ) (cwS 1 hts gX3_copy_X3_isRow rfl rfl rfl (by decide +kernel) ⟨Nat.le_of_ble_eq_true rfl, Nat.le_of_ble_eq_true rfl⟩) (ro_pre hK (fun k q h => by simp at h)) rfl rfl hl.1 rfl (lv_room (Nat.le_of_ble_eq_true rfl)) dX3_copy_1 ⟨Nat.zero_le _, Nat.zero_le _⟩) (fun r_1 hr_1 => ?_)
  refine lv_if_eq (tgt := 14) hx hb dX3_copy_4 (by decide) (fun c_4 => ?_) (fun c_4 => ?_)
  · skip
    have c_4 := b2_z hr_1 c_4
    refine lv_ldc hx hb hown hw1 dX3_copy_14 ?_
    exact ro_iret hx hb hr hlk dX3_copy_16 (rfl)
  · skip
    have c_4 := b2_n hr_1 c_4
    refine lv_iload_n hx hb dX3_copy_7 rfl (lv_at hl 3 rfl) ?_
    refine ro_calli (va_runS (As := [.int b]) (rest := []) ⟨hx, hb, hml, hown, hts⟩ (c_X3_isRow l G b ) (cwS 1 hts gX3_copy_X3_isRow rfl rfl rfl (by decide +kernel) ⟨Nat.le_of_ble_eq_true rfl, Nat.le_of_ble_eq_true rfl⟩) (ro_pre hK (fun k q h => by simp at h)) rfl rfl hl.1 rfl (lv_room (Nat.le_of_ble_eq_true rfl)) dX3_copy_8 ⟨Nat.zero_le _, Nat.zero_le _⟩) (fun r_2 hr_2 => ?_)
    refine lv_if_ne (tgt := 17) hx hb dX3_copy_11 (by decide) (fun c_11 => ?_) (fun c_11 => ?_)
    · skip
      have c_11 := b2_n hr_2 c_11
      exact Bool.noConfusion (hbad.symm.trans (by rw [c_4, c_11] <;> rfl))
    · skip
      have c_11 := b2_z hr_2 c_11
      refine lv_ldc hx hb hown hw1 dX3_copy_14 ?_
      exact ro_iret hx hb hr hlk dX3_copy_16 (rfl)
set_option maxHeartbeats 4000000 in
set_option maxRecDepth 100000 in
theorem c_X3_copy_null (l : Launch) (G : lzG) (x : Nat) (q : Nat → Nat) (S la ln : Nat → Int32) (ra rb : Nat) (i j n : Int32) (hra : ra < 8) (hrb : rb < 8) (hm : (decide (ln ra = -1000000) || decide (ln rb = -1000000)) = true) : Met l yX3_copy wsX3_copy ({ frames := 2, cells := 0, slots := 0, locals := 42 }) (va_Pc [.ref x, .int (nI ra), .int i, .int (nI rb), .int j, .int n] (rwP G (lzX x q S ++ (lzI G (q 1) 8 la ++ (lzI G (q 2) 8 ln))))) (va_Qi (S := Unit) (fun (r : Int32) (_ : Unit) => r = -1000011) (rwB G (fun _ : Unit => (lzX x q (upd S 3 1) ++ (lzI G (q 1) 8 la ++ (lzI G (q 2) 8 ln))))) (lzA (lzX x q S ++ (lzI G (q 1) 8 la ++ (lzI G (q 2) 8 ln))))) 0 0 (lzA (lzX x q S ++ (lzI G (q 1) 8 la ++ (lzI G (q 2) 8 ln)))) := by
  have hA : inR (nI ra) 0 7 = true := inR_row hra
  have hB : inR (nI rb) 0 7 = true := inR_row hrb
  refine rw_start (S := Unit) (cc := cX3_copy) (maxL := 6) (ret := (some .int)) (by decide) rfl (Nat.le_of_ble_eq_true rfl) ?_
  intro pp ee ss mm bl me cd A hx hb hr hlk hml hts hown hP hK hD hAe hS ls hl
  have hA0 : ∀ zz : Nat, lzA (lzX x q S ++ (lzI G (q 1) 8 la ++ (lzI G (q 2) 8 ln))) zz → A zz := fun zz h9 => by rw [hAe]; exact h9
  rw [← hAe]
  clear hAe
  have hown : ss.vm.findClass RX3 = some mm.cls := hown
  have hl : lv_has ls 6 [(0, .ref x), (1, .int (nI ra)), (2, .int i), (3, .int (nI rb)), (4, .int j), (5, .int n)] := hl
  refine lv_iload_n hx hb dX3_copy_0 rfl (lv_at hl 1 rfl) ?_
  refine ro_calli (va_runS (As := [.int (nI ra)]) (rest := []) ⟨hx, hb, hml, hown, hts⟩ (c_X3_isRow l G (nI ra) ) (cwS 1 hts gX3_copy_X3_isRow rfl rfl rfl (by decide +kernel) ⟨Nat.le_of_ble_eq_true rfl, Nat.le_of_ble_eq_true rfl⟩) (ro_pre hK (fun k q h => by simp at h)) rfl rfl hl.1 rfl (lv_room (Nat.le_of_ble_eq_true rfl)) dX3_copy_1 ⟨Nat.zero_le _, Nat.zero_le _⟩) (fun r_1 hr_1 => ?_)
  refine lv_if_eq (tgt := 14) hx hb dX3_copy_4 (by decide) (fun c_4 => ?_) (fun c_4 => ?_)
  · skip
    have c_4 := b2_z hr_1 c_4
    exact Bool.noConfusion (hA.symm.trans c_4)
  · skip
    have c_4 := b2_n hr_1 c_4
    refine lv_iload_n hx hb dX3_copy_7 rfl (lv_at hl 3 rfl) ?_
    refine ro_calli (va_runS (As := [.int (nI rb)]) (rest := []) ⟨hx, hb, hml, hown, hts⟩ (c_X3_isRow l G (nI rb) ) (cwS 1 hts gX3_copy_X3_isRow rfl rfl rfl (by decide +kernel) ⟨Nat.le_of_ble_eq_true rfl, Nat.le_of_ble_eq_true rfl⟩) (ro_pre hK (fun k q h => by simp at h)) rfl rfl hl.1 rfl (lv_room (Nat.le_of_ble_eq_true rfl)) dX3_copy_8 ⟨Nat.zero_le _, Nat.zero_le _⟩) (fun r_2 hr_2 => ?_)
    refine lv_if_ne (tgt := 17) hx hb dX3_copy_11 (by decide) (fun c_11 => ?_) (fun c_11 => ?_)
    · skip
      have c_11 := b2_n hr_2 c_11
      refine lv_aload_n hx hb dX3_copy_17 rfl (lv_at hl 0 rfl) ?_
      refine lv_iload_n hx hb dX3_copy_18 rfl (lv_at hl 1 rfl) ?_
      have hPc := hP.sub (ws' := (lzX x q S ++ lzI G (q 2) 8 ln)) [0, 2] rfl
      refine ro_calli (va_runV (As := [.int (nI ra)]) (rest := []) ⟨hx, hb, hml, hown, hts⟩ (c_X3_isMissing l G x q S ln ra (hra)) (cwV 1 hts gX3_copy_X3_isMissing rfl rfl rfl (by decide +kernel) ⟨Nat.le_of_ble_eq_true rfl, Nat.le_of_ble_eq_true rfl⟩) (ro_preV hK hPc hP (ci := 3) (q0 := 0) rfl rfl) rfl rfl hl.1 rfl (lv_room (Nat.le_of_ble_eq_true rfl)) dX3_copy_19 ⟨Nat.zero_le _, Nat.zero_le _⟩) (fun r_3 hr_3 => ?_)
      refine lv_if_ne (tgt := 33) hx hb dX3_copy_22 (by decide) (fun c_22 => ?_) (fun c_22 => ?_)
      · skip
        have c_22 := b2_n hr_3 c_22
        refine lv_aload_n hx hb dX3_copy_33 rfl (lv_at hl 0 rfl) ?_
        refine lv_iconst (v := 1) hx hb dX3_copy_34 (by decide) ?_
        have hPc := hP.sub (ws' := lzX x q S) [0] rfl
        have hDc := hD.sub (ws' := lzX x q S) [0] (by decide) rfl
        have hFc : ∀ zz : Nat, lzA (lzX x q S) zz → A zz := lz_free hD [0] rfl
        refine va_calli (va_runV (As := [.int 1]) (rest := []) ⟨hx, hb, hml, hown, hts⟩ (c_X3_found l G x q S 1 ) (cwV 1 hts gX3_copy_X3_found rfl rfl rfl (by decide +kernel) ⟨Nat.le_of_ble_eq_true rfl, Nat.le_of_ble_eq_true rfl⟩) (rw_preV hK hPc hDc hP (ci := 3) (q0 := 0) rfl rfl) rfl rfl hl.1 rfl (lv_room (Nat.le_of_ble_eq_true rfl)) dX3_copy_35 ⟨Nat.zero_le _, Nat.zero_le _⟩) hS (fun q _ h => hFc q h) hFc (fun r_4 u_5 t9 H1 locs ht hvm hr_4 hB hz1 hk1 hS => ?_)
        replace hB : va_P G.1 lzC _ t9.heap := hB
        rw [ht] at hB
        obtain ⟨hP, hD⟩ := lz_join (wc := lzX x q S) (wr := ([(q 1, .inl (G.2 0, 8, .inl la)), (q 2, .inl (G.2 0, 8, .inl ln))] : va_W)) (w1 := lzX x q (upd S 3 1)) hP hD [0] [1, 2] rfl rfl (by decide) (by decide) rfl hk1 hB
        replace hP := hP.sub (ws' := (lzX x q (upd S 3 1) ++ (lzI G (q 1) 8 la ++ (lzI G (q 2) 8 ln)))) [2, 0, 1] rfl
        replace hD := hD.sub (ws' := (lzX x q (upd S 3 1) ++ (lzI G (q 1) 8 la ++ (lzI G (q 2) 8 ln)))) [2, 0, 1] (by decide) rfl
        clear ht hvm hB hz1 hk1
        generalize H1 = H at hP hS ⊢
        refine lz_top (y := -1000010 - 1) hr_4 ?_
        exact rw_iret (S := Unit) (G := G) (Wd := fun _ : Unit => (lzX x q (upd S 3 1) ++ (lzI G (q 1) 8 la ++ (lzI G (q 2) 8 ln)))) () hx hb hr hlk dX3_copy_38 hS (hP) (rfl)
      · skip
        have c_22 := b2_z hr_3 c_22
        refine lv_aload_n hx hb dX3_copy_25 rfl (lv_at hl 0 rfl) ?_
        refine lv_iload_n hx hb dX3_copy_26 rfl (lv_at hl 3 rfl) ?_
        have hPc := hP.sub (ws' := (lzX x q S ++ lzI G (q 2) 8 ln)) [0, 2] rfl
        refine ro_calli (va_runV (As := [.int (nI rb)]) (rest := []) ⟨hx, hb, hml, hown, hts⟩ (c_X3_isMissing l G x q S ln rb (hrb)) (cwV 1 hts gX3_copy_X3_isMissing rfl rfl rfl (by decide +kernel) ⟨Nat.le_of_ble_eq_true rfl, Nat.le_of_ble_eq_true rfl⟩) (ro_preV hK hPc hP (ci := 3) (q0 := 0) rfl rfl) rfl rfl hl.1 rfl (lv_room (Nat.le_of_ble_eq_true rfl)) dX3_copy_27 ⟨Nat.zero_le _, Nat.zero_le _⟩) (fun r_6 hr_6 => ?_)
        refine lv_if_eq (tgt := 39) hx hb dX3_copy_30 (by decide) (fun c_30 => ?_) (fun c_30 => ?_)
        · skip
          have c_30 := b2_z hr_6 c_30
          exact Bool.noConfusion (hm.symm.trans (by rw [c_22, c_30] <;> rfl))
        · skip
          have c_30 := b2_n hr_6 c_30
          refine lv_aload_n hx hb dX3_copy_33 rfl (lv_at hl 0 rfl) ?_
          refine lv_iconst (v := 1) hx hb dX3_copy_34 (by decide) ?_
          have hPc := hP.sub (ws' := lzX x q S) [0] rfl
          have hDc := hD.sub (ws' := lzX x q S) [0] (by decide) rfl
          have hFc : ∀ zz : Nat, lzA (lzX x q S) zz → A zz := lz_free hD [0] rfl
          refine va_calli (va_runV (As := [.int 1]) (rest := []) ⟨hx, hb, hml, hown, hts⟩ (c_X3_found l G x q S 1 ) (cwV 1 hts gX3_copy_X3_found rfl rfl rfl (by decide +kernel) ⟨Nat.le_of_ble_eq_true rfl, Nat.le_of_ble_eq_true rfl⟩) (rw_preV hK hPc hDc hP (ci := 3) (q0 := 0) rfl rfl) rfl rfl hl.1 rfl (lv_room (Nat.le_of_ble_eq_true rfl)) dX3_copy_35 ⟨Nat.zero_le _, Nat.zero_le _⟩) hS (fun q _ h => hFc q h) hFc (fun r_7 u_8 t9 H1 locs ht hvm hr_7 hB hz1 hk1 hS => ?_)
          replace hB : va_P G.1 lzC _ t9.heap := hB
          rw [ht] at hB
          obtain ⟨hP, hD⟩ := lz_join (wc := lzX x q S) (wr := ([(q 1, .inl (G.2 0, 8, .inl la)), (q 2, .inl (G.2 0, 8, .inl ln))] : va_W)) (w1 := lzX x q (upd S 3 1)) hP hD [0] [1, 2] rfl rfl (by decide) (by decide) rfl hk1 hB
          replace hP := hP.sub (ws' := (lzX x q (upd S 3 1) ++ (lzI G (q 1) 8 la ++ (lzI G (q 2) 8 ln)))) [2, 0, 1] rfl
          replace hD := hD.sub (ws' := (lzX x q (upd S 3 1) ++ (lzI G (q 1) 8 la ++ (lzI G (q 2) 8 ln)))) [2, 0, 1] (by decide) rfl
          clear ht hvm hB hz1 hk1
          generalize H1 = H at hP hS ⊢
          refine lz_top (y := -1000010 - 1) hr_7 ?_
          exact rw_iret (S := Unit) (G := G) (Wd := fun _ : Unit => (lzX x q (upd S 3 1) ++ (lzI G (q 1) 8 la ++ (lzI G (q 2) 8 ln)))) () hx hb hr hlk dX3_copy_38 hS (hP) (rfl)
    · skip
      have c_11 := b2_z hr_2 c_11
      exact Bool.noConfusion (hB.symm.trans c_11)
set_option maxHeartbeats 4000000 in
set_option maxRecDepth 100000 in
theorem c_X3_copy_store (l : Launch) (G : lzG) (x : Nat) (q : Nat → Nat) (S la ln : Nat → Int32) (ra rb : Nat) (i j n : Int32) (hra : ra < 8) (hrb : rb < 8) (hm1 : decide (ln ra = -1000000) = false) (hm2 : decide (ln rb = -1000000) = false) (hne : ¬ la ra = la rb) : Met l yX3_copy wsX3_copy ({ frames := 2, cells := 0, slots := 0, locals := 42 }) (va_Pc [.ref x, .int (nI ra), .int i, .int (nI rb), .int j, .int n] (rwP G (lzX x q S ++ (lzI G (q 1) 8 la ++ (lzI G (q 2) 8 ln))))) (va_Qi (S := Unit) (fun (r : Int32) (_ : Unit) => r = -1000015) (rwB G (fun _ : Unit => (lzX x q (upd S 3 5) ++ (lzI G (q 1) 8 la ++ (lzI G (q 2) 8 ln))))) (lzA (lzX x q S ++ (lzI G (q 1) 8 la ++ (lzI G (q 2) 8 ln))))) 0 0 (lzA (lzX x q S ++ (lzI G (q 1) 8 la ++ (lzI G (q 2) 8 ln)))) := by
  have hA : inR (nI ra) 0 7 = true := inR_row hra
  have hB : inR (nI rb) 0 7 = true := inR_row hrb
  refine rw_start (S := Unit) (cc := cX3_copy) (maxL := 6) (ret := (some .int)) (by decide) rfl (Nat.le_of_ble_eq_true rfl) ?_
  intro pp ee ss mm bl me cd A hx hb hr hlk hml hts hown hP hK hD hAe hS ls hl
  have hA0 : ∀ zz : Nat, lzA (lzX x q S ++ (lzI G (q 1) 8 la ++ (lzI G (q 2) 8 ln))) zz → A zz := fun zz h9 => by rw [hAe]; exact h9
  rw [← hAe]
  clear hAe
  have hown : ss.vm.findClass RX3 = some mm.cls := hown
  have hw2 := hts (.fieldLink RX3 14 "LampSquares" "lanes" "[I") (List.mem_of_getElem? (i := 2) rfl)
  have hu_wsX30 : ∀ w ∈ wsX30, w.before ([.ref x, .int (nI ra), .int i, .int (nI rb), .int j, .int n] : List Value).toArray ss = true := fun w h9 => hts w (List.mem_cons_of_mem _ (List.mem_append_right _ h9))
  have hl : lv_has ls 6 [(0, .ref x), (1, .int (nI ra)), (2, .int i), (3, .int (nI rb)), (4, .int j), (5, .int n)] := hl
  refine lv_iload_n hx hb dX3_copy_0 rfl (lv_at hl 1 rfl) ?_
  refine ro_calli (va_runS (As := [.int (nI ra)]) (rest := []) ⟨hx, hb, hml, hown, hts⟩ (c_X3_isRow l G (nI ra) ) (cwS 1 hts gX3_copy_X3_isRow rfl rfl rfl (by decide +kernel) ⟨Nat.le_of_ble_eq_true rfl, Nat.le_of_ble_eq_true rfl⟩) (ro_pre hK (fun k q h => by simp at h)) rfl rfl hl.1 rfl (lv_room (Nat.le_of_ble_eq_true rfl)) dX3_copy_1 ⟨Nat.zero_le _, Nat.zero_le _⟩) (fun r_1 hr_1 => ?_)
  refine lv_if_eq (tgt := 14) hx hb dX3_copy_4 (by decide) (fun c_4 => ?_) (fun c_4 => ?_)
  · skip
    have c_4 := b2_z hr_1 c_4
    exact Bool.noConfusion (hA.symm.trans c_4)
  · skip
    have c_4 := b2_n hr_1 c_4
    refine lv_iload_n hx hb dX3_copy_7 rfl (lv_at hl 3 rfl) ?_
    refine ro_calli (va_runS (As := [.int (nI rb)]) (rest := []) ⟨hx, hb, hml, hown, hts⟩ (c_X3_isRow l G (nI rb) ) (cwS 1 hts gX3_copy_X3_isRow rfl rfl rfl (by decide +kernel) ⟨Nat.le_of_ble_eq_true rfl, Nat.le_of_ble_eq_true rfl⟩) (ro_pre hK (fun k q h => by simp at h)) rfl rfl hl.1 rfl (lv_room (Nat.le_of_ble_eq_true rfl)) dX3_copy_8 ⟨Nat.zero_le _, Nat.zero_le _⟩) (fun r_2 hr_2 => ?_)
    refine lv_if_ne (tgt := 17) hx hb dX3_copy_11 (by decide) (fun c_11 => ?_) (fun c_11 => ?_)
    · skip
      have c_11 := b2_n hr_2 c_11
      refine lv_aload_n hx hb dX3_copy_17 rfl (lv_at hl 0 rfl) ?_
      refine lv_iload_n hx hb dX3_copy_18 rfl (lv_at hl 1 rfl) ?_
      have hPc := hP.sub (ws' := (lzX x q S ++ lzI G (q 2) 8 ln)) [0, 2] rfl
      refine ro_calli (va_runV (As := [.int (nI ra)]) (rest := []) ⟨hx, hb, hml, hown, hts⟩ (c_X3_isMissing l G x q S ln ra (hra)) (cwV 1 hts gX3_copy_X3_isMissing rfl rfl rfl (by decide +kernel) ⟨Nat.le_of_ble_eq_true rfl, Nat.le_of_ble_eq_true rfl⟩) (ro_preV hK hPc hP (ci := 3) (q0 := 0) rfl rfl) rfl rfl hl.1 rfl (lv_room (Nat.le_of_ble_eq_true rfl)) dX3_copy_19 ⟨Nat.zero_le _, Nat.zero_le _⟩) (fun r_3 hr_3 => ?_)
      refine lv_if_ne (tgt := 33) hx hb dX3_copy_22 (by decide) (fun c_22 => ?_) (fun c_22 => ?_)
      · skip
        have c_22 := b2_n hr_3 c_22
        exact Bool.noConfusion (hm1.symm.trans c_22)
      · skip
        have c_22 := b2_z hr_3 c_22
        refine lv_aload_n hx hb dX3_copy_25 rfl (lv_at hl 0 rfl) ?_
        refine lv_iload_n hx hb dX3_copy_26 rfl (lv_at hl 3 rfl) ?_
        have hPc := hP.sub (ws' := (lzX x q S ++ lzI G (q 2) 8 ln)) [0, 2] rfl
        refine ro_calli (va_runV (As := [.int (nI rb)]) (rest := []) ⟨hx, hb, hml, hown, hts⟩ (c_X3_isMissing l G x q S ln rb (hrb)) (cwV 1 hts gX3_copy_X3_isMissing rfl rfl rfl (by decide +kernel) ⟨Nat.le_of_ble_eq_true rfl, Nat.le_of_ble_eq_true rfl⟩) (ro_preV hK hPc hP (ci := 3) (q0 := 0) rfl rfl) rfl rfl hl.1 rfl (lv_room (Nat.le_of_ble_eq_true rfl)) dX3_copy_27 ⟨Nat.zero_le _, Nat.zero_le _⟩) (fun r_4 hr_4 => ?_)
        refine lv_if_eq (tgt := 39) hx hb dX3_copy_30 (by decide) (fun c_30 => ?_) (fun c_30 => ?_)
        · skip
          have c_30 := b2_z hr_4 c_30
          refine lv_aload_n hx hb dX3_copy_39 rfl (lv_at hl 0 rfl) ?_
          refine lz_get (G := G) (ci := 3) (v := .ref (q 1)) (C := RX3) (T := TX3) (N := 13) hx hb hu_wsX30 (fun _ h9 => h9) hown hK hP 0 rfl rfl 1 (by decide) hw2 rfl rfl dX3_copy_40 ?_
          refine lv_iload_n hx hb dX3_copy_43 rfl (lv_at hl 1 rfl) ?_
          refine lz_iald (f := la) hx hb hK hP 1 rfl ra (by omega) (Nat.le_of_ble_eq_true rfl) dX3_copy_44 ?_
          refine lv_aload_n hx hb dX3_copy_45 rfl (lv_at hl 0 rfl) ?_
          refine lz_get (G := G) (ci := 3) (v := .ref (q 1)) (C := RX3) (T := TX3) (N := 13) hx hb hu_wsX30 (fun _ h9 => h9) hown hK hP 0 rfl rfl 1 (by decide) hw2 rfl rfl dX3_copy_46 ?_
          refine lv_iload_n hx hb dX3_copy_49 rfl (lv_at hl 3 rfl) ?_
          refine lz_iald (f := la) hx hb hK hP 1 rfl rb (by omega) (Nat.le_of_ble_eq_true rfl) dX3_copy_50 ?_
          refine lv_icmp_eq (tgt := 60) hx hb dX3_copy_51 (by decide) (fun c_51 => ?_) (fun c_51 => ?_)
          · skip
            exact absurd c_51 hne
          · skip
            refine lv_aload_n hx hb dX3_copy_54 rfl (lv_at hl 0 rfl) ?_
            refine lv_iconst (v := 5) hx hb dX3_copy_55 (by decide) ?_
            have hPc := hP.sub (ws' := lzX x q S) [0] rfl
            have hDc := hD.sub (ws' := lzX x q S) [0] (by decide) rfl
            have hFc : ∀ zz : Nat, lzA (lzX x q S) zz → A zz := lz_free hD [0] rfl
            refine va_calli (va_runV (As := [.int 5]) (rest := []) ⟨hx, hb, hml, hown, hts⟩ (c_X3_found l G x q S 5 ) (cwV 1 hts gX3_copy_X3_found rfl rfl rfl (by decide +kernel) ⟨Nat.le_of_ble_eq_true rfl, Nat.le_of_ble_eq_true rfl⟩) (rw_preV hK hPc hDc hP (ci := 3) (q0 := 0) rfl rfl) rfl rfl hl.1 rfl (lv_room (Nat.le_of_ble_eq_true rfl)) dX3_copy_56 ⟨Nat.zero_le _, Nat.zero_le _⟩) hS (fun q _ h => hFc q h) hFc (fun r_5 u_6 t9 H1 locs ht hvm hr_5 hB hz1 hk1 hS => ?_)
            replace hB : va_P G.1 lzC _ t9.heap := hB
            rw [ht] at hB
            obtain ⟨hP, hD⟩ := lz_join (wc := lzX x q S) (wr := ([(q 1, .inl (G.2 0, 8, .inl la)), (q 2, .inl (G.2 0, 8, .inl ln))] : va_W)) (w1 := lzX x q (upd S 3 5)) hP hD [0] [1, 2] rfl rfl (by decide) (by decide) rfl hk1 hB
            replace hP := hP.sub (ws' := (lzX x q (upd S 3 5) ++ (lzI G (q 1) 8 la ++ (lzI G (q 2) 8 ln)))) [2, 0, 1] rfl
            replace hD := hD.sub (ws' := (lzX x q (upd S 3 5) ++ (lzI G (q 1) 8 la ++ (lzI G (q 2) 8 ln)))) [2, 0, 1] (by decide) rfl
            clear ht hvm hB hz1 hk1
            generalize H1 = H at hP hS ⊢
            refine lz_top (y := -1000010 - 5) hr_5 ?_
            exact rw_iret (S := Unit) (G := G) (Wd := fun _ : Unit => (lzX x q (upd S 3 5) ++ (lzI G (q 1) 8 la ++ (lzI G (q 2) 8 ln)))) () hx hb hr hlk dX3_copy_59 hS (hP) (rfl)
        · skip
          have c_30 := b2_n hr_4 c_30
          exact Bool.noConfusion (hm2.symm.trans c_30)
    · skip
      have c_11 := b2_z hr_2 c_11
      exact Bool.noConfusion (hB.symm.trans c_11)
set_option maxHeartbeats 4000000 in
set_option maxRecDepth 100000 in
theorem c_X3_copy_place (l : Launch) (G : lzG) (x : Nat) (q : Nat → Nat) (S la ln : Nat → Int32) (ra rb : Nat) (i j n : Int32) (hra : ra < 8) (hrb : rb < 8) (hm1 : decide (ln ra = -1000000) = false) (hm2 : decide (ln rb = -1000000) = false) (heq : la ra = la rb) (hp : (hasB (ln ra) i n && hasB (ln rb) j n) = false) : Met l yX3_copy wsX3_copy ({ frames := 2, cells := 0, slots := 0, locals := 42 }) (va_Pc [.ref x, .int (nI ra), .int i, .int (nI rb), .int j, .int n] (rwP G (lzX x q S ++ (lzI G (q 1) 8 la ++ (lzI G (q 2) 8 ln))))) (va_Qi (S := Unit) (fun (r : Int32) (_ : Unit) => r = -1000012) (rwB G (fun _ : Unit => (lzX x q (upd S 3 2) ++ (lzI G (q 1) 8 la ++ (lzI G (q 2) 8 ln))))) (lzA (lzX x q S ++ (lzI G (q 1) 8 la ++ (lzI G (q 2) 8 ln))))) 0 0 (lzA (lzX x q S ++ (lzI G (q 1) 8 la ++ (lzI G (q 2) 8 ln)))) := by
  have hA : inR (nI ra) 0 7 = true := inR_row hra
  have hB : inR (nI rb) 0 7 = true := inR_row hrb
  refine rw_start (S := Unit) (cc := cX3_copy) (maxL := 6) (ret := (some .int)) (by decide) rfl (Nat.le_of_ble_eq_true rfl) ?_
  intro pp ee ss mm bl me cd A hx hb hr hlk hml hts hown hP hK hD hAe hS ls hl
  have hA0 : ∀ zz : Nat, lzA (lzX x q S ++ (lzI G (q 1) 8 la ++ (lzI G (q 2) 8 ln))) zz → A zz := fun zz h9 => by rw [hAe]; exact h9
  rw [← hAe]
  clear hAe
  have hown : ss.vm.findClass RX3 = some mm.cls := hown
  have hw2 := hts (.fieldLink RX3 14 "LampSquares" "lanes" "[I") (List.mem_of_getElem? (i := 2) rfl)
  have hu_wsX30 : ∀ w ∈ wsX30, w.before ([.ref x, .int (nI ra), .int i, .int (nI rb), .int j, .int n] : List Value).toArray ss = true := fun w h9 => hts w (List.mem_cons_of_mem _ (List.mem_append_right _ h9))
  have hl : lv_has ls 6 [(0, .ref x), (1, .int (nI ra)), (2, .int i), (3, .int (nI rb)), (4, .int j), (5, .int n)] := hl
  refine lv_iload_n hx hb dX3_copy_0 rfl (lv_at hl 1 rfl) ?_
  refine ro_calli (va_runS (As := [.int (nI ra)]) (rest := []) ⟨hx, hb, hml, hown, hts⟩ (c_X3_isRow l G (nI ra) ) (cwS 1 hts gX3_copy_X3_isRow rfl rfl rfl (by decide +kernel) ⟨Nat.le_of_ble_eq_true rfl, Nat.le_of_ble_eq_true rfl⟩) (ro_pre hK (fun k q h => by simp at h)) rfl rfl hl.1 rfl (lv_room (Nat.le_of_ble_eq_true rfl)) dX3_copy_1 ⟨Nat.zero_le _, Nat.zero_le _⟩) (fun r_1 hr_1 => ?_)
  refine lv_if_eq (tgt := 14) hx hb dX3_copy_4 (by decide) (fun c_4 => ?_) (fun c_4 => ?_)
  · skip
    have c_4 := b2_z hr_1 c_4
    exact Bool.noConfusion (hA.symm.trans c_4)
  · skip
    have c_4 := b2_n hr_1 c_4
    refine lv_iload_n hx hb dX3_copy_7 rfl (lv_at hl 3 rfl) ?_
    refine ro_calli (va_runS (As := [.int (nI rb)]) (rest := []) ⟨hx, hb, hml, hown, hts⟩ (c_X3_isRow l G (nI rb) ) (cwS 1 hts gX3_copy_X3_isRow rfl rfl rfl (by decide +kernel) ⟨Nat.le_of_ble_eq_true rfl, Nat.le_of_ble_eq_true rfl⟩) (ro_pre hK (fun k q h => by simp at h)) rfl rfl hl.1 rfl (lv_room (Nat.le_of_ble_eq_true rfl)) dX3_copy_8 ⟨Nat.zero_le _, Nat.zero_le _⟩) (fun r_2 hr_2 => ?_)
    refine lv_if_ne (tgt := 17) hx hb dX3_copy_11 (by decide) (fun c_11 => ?_) (fun c_11 => ?_)
    · skip
      have c_11 := b2_n hr_2 c_11
      refine lv_aload_n hx hb dX3_copy_17 rfl (lv_at hl 0 rfl) ?_
      refine lv_iload_n hx hb dX3_copy_18 rfl (lv_at hl 1 rfl) ?_
      have hPc := hP.sub (ws' := (lzX x q S ++ lzI G (q 2) 8 ln)) [0, 2] rfl
      refine ro_calli (va_runV (As := [.int (nI ra)]) (rest := []) ⟨hx, hb, hml, hown, hts⟩ (c_X3_isMissing l G x q S ln ra (hra)) (cwV 1 hts gX3_copy_X3_isMissing rfl rfl rfl (by decide +kernel) ⟨Nat.le_of_ble_eq_true rfl, Nat.le_of_ble_eq_true rfl⟩) (ro_preV hK hPc hP (ci := 3) (q0 := 0) rfl rfl) rfl rfl hl.1 rfl (lv_room (Nat.le_of_ble_eq_true rfl)) dX3_copy_19 ⟨Nat.zero_le _, Nat.zero_le _⟩) (fun r_3 hr_3 => ?_)
      refine lv_if_ne (tgt := 33) hx hb dX3_copy_22 (by decide) (fun c_22 => ?_) (fun c_22 => ?_)
      · skip
        have c_22 := b2_n hr_3 c_22
        exact Bool.noConfusion (hm1.symm.trans c_22)
      · skip
        have c_22 := b2_z hr_3 c_22
        refine lv_aload_n hx hb dX3_copy_25 rfl (lv_at hl 0 rfl) ?_
        refine lv_iload_n hx hb dX3_copy_26 rfl (lv_at hl 3 rfl) ?_
        have hPc := hP.sub (ws' := (lzX x q S ++ lzI G (q 2) 8 ln)) [0, 2] rfl
        refine ro_calli (va_runV (As := [.int (nI rb)]) (rest := []) ⟨hx, hb, hml, hown, hts⟩ (c_X3_isMissing l G x q S ln rb (hrb)) (cwV 1 hts gX3_copy_X3_isMissing rfl rfl rfl (by decide +kernel) ⟨Nat.le_of_ble_eq_true rfl, Nat.le_of_ble_eq_true rfl⟩) (ro_preV hK hPc hP (ci := 3) (q0 := 0) rfl rfl) rfl rfl hl.1 rfl (lv_room (Nat.le_of_ble_eq_true rfl)) dX3_copy_27 ⟨Nat.zero_le _, Nat.zero_le _⟩) (fun r_4 hr_4 => ?_)
        refine lv_if_eq (tgt := 39) hx hb dX3_copy_30 (by decide) (fun c_30 => ?_) (fun c_30 => ?_)
        · skip
          have c_30 := b2_z hr_4 c_30
          refine lv_aload_n hx hb dX3_copy_39 rfl (lv_at hl 0 rfl) ?_
          refine lz_get (G := G) (ci := 3) (v := .ref (q 1)) (C := RX3) (T := TX3) (N := 13) hx hb hu_wsX30 (fun _ h9 => h9) hown hK hP 0 rfl rfl 1 (by decide) hw2 rfl rfl dX3_copy_40 ?_
          refine lv_iload_n hx hb dX3_copy_43 rfl (lv_at hl 1 rfl) ?_
          refine lz_iald (f := la) hx hb hK hP 1 rfl ra (by omega) (Nat.le_of_ble_eq_true rfl) dX3_copy_44 ?_
          refine lv_aload_n hx hb dX3_copy_45 rfl (lv_at hl 0 rfl) ?_
          refine lz_get (G := G) (ci := 3) (v := .ref (q 1)) (C := RX3) (T := TX3) (N := 13) hx hb hu_wsX30 (fun _ h9 => h9) hown hK hP 0 rfl rfl 1 (by decide) hw2 rfl rfl dX3_copy_46 ?_
          refine lv_iload_n hx hb dX3_copy_49 rfl (lv_at hl 3 rfl) ?_
          refine lz_iald (f := la) hx hb hK hP 1 rfl rb (by omega) (Nat.le_of_ble_eq_true rfl) dX3_copy_50 ?_
          refine lv_icmp_eq (tgt := 60) hx hb dX3_copy_51 (by decide) (fun c_51 => ?_) (fun c_51 => ?_)
          · skip
            refine lv_aload_n hx hb dX3_copy_60 rfl (lv_at hl 0 rfl) ?_
            refine lv_iload_n hx hb dX3_copy_61 rfl (lv_at hl 1 rfl) ?_
            refine lv_iload_n hx hb dX3_copy_62 rfl (lv_at hl 2 rfl) ?_
            refine lv_iload hx hb dX3_copy_63 (lv_at hl 5 rfl) ?_
            have hPc := hP.sub (ws' := (lzX x q S ++ lzI G (q 2) 8 ln)) [0, 2] rfl
            refine ro_calli (va_runV (As := [.int (nI ra), .int i, .int n]) (rest := []) ⟨hx, hb, hml, hown, hts⟩ (c_X3_hasItems l G x q S ln ra i n (hra)) (cwV 3 hts gX3_copy_X3_hasItems rfl rfl rfl (by decide +kernel) ⟨Nat.le_of_ble_eq_true rfl, Nat.le_of_ble_eq_true rfl⟩) (ro_preV hK hPc hP (ci := 3) (q0 := 0) rfl rfl) rfl rfl hl.1 rfl (lv_room (Nat.le_of_ble_eq_true rfl)) dX3_copy_65 ⟨Nat.zero_le _, Nat.zero_le _⟩) (fun r_5 hr_5 => ?_)
            refine lv_if_eq (tgt := 83) hx hb dX3_copy_68 (by decide) (fun c_68 => ?_) (fun c_68 => ?_)
            · skip
              have c_68 := b2_z hr_5 c_68
              refine lv_aload_n hx hb dX3_copy_83 rfl (lv_at hl 0 rfl) ?_
              refine lv_iconst (v := 2) hx hb dX3_copy_84 (by decide) ?_
              have hPc := hP.sub (ws' := lzX x q S) [0] rfl
              have hDc := hD.sub (ws' := lzX x q S) [0] (by decide) rfl
              have hFc : ∀ zz : Nat, lzA (lzX x q S) zz → A zz := lz_free hD [0] rfl
              refine va_calli (va_runV (As := [.int 2]) (rest := []) ⟨hx, hb, hml, hown, hts⟩ (c_X3_found l G x q S 2 ) (cwV 1 hts gX3_copy_X3_found rfl rfl rfl (by decide +kernel) ⟨Nat.le_of_ble_eq_true rfl, Nat.le_of_ble_eq_true rfl⟩) (rw_preV hK hPc hDc hP (ci := 3) (q0 := 0) rfl rfl) rfl rfl hl.1 rfl (lv_room (Nat.le_of_ble_eq_true rfl)) dX3_copy_85 ⟨Nat.zero_le _, Nat.zero_le _⟩) hS (fun q _ h => hFc q h) hFc (fun r_6 u_7 t9 H1 locs ht hvm hr_6 hB hz1 hk1 hS => ?_)
              replace hB : va_P G.1 lzC _ t9.heap := hB
              rw [ht] at hB
              obtain ⟨hP, hD⟩ := lz_join (wc := lzX x q S) (wr := ([(q 1, .inl (G.2 0, 8, .inl la)), (q 2, .inl (G.2 0, 8, .inl ln))] : va_W)) (w1 := lzX x q (upd S 3 2)) hP hD [0] [1, 2] rfl rfl (by decide) (by decide) rfl hk1 hB
              replace hP := hP.sub (ws' := (lzX x q (upd S 3 2) ++ (lzI G (q 1) 8 la ++ (lzI G (q 2) 8 ln)))) [2, 0, 1] rfl
              replace hD := hD.sub (ws' := (lzX x q (upd S 3 2) ++ (lzI G (q 1) 8 la ++ (lzI G (q 2) 8 ln)))) [2, 0, 1] (by decide) rfl
              clear ht hvm hB hz1 hk1
              generalize H1 = H at hP hS ⊢
              refine lz_top (y := -1000010 - 2) hr_6 ?_
              exact rw_iret (S := Unit) (G := G) (Wd := fun _ : Unit => (lzX x q (upd S 3 2) ++ (lzI G (q 1) 8 la ++ (lzI G (q 2) 8 ln)))) () hx hb hr hlk dX3_copy_88 hS (hP) (rfl)
            · skip
              have c_68 := b2_n hr_5 c_68
              refine lv_aload_n hx hb dX3_copy_71 rfl (lv_at hl 0 rfl) ?_
              refine lv_iload_n hx hb dX3_copy_72 rfl (lv_at hl 3 rfl) ?_
              refine lv_iload hx hb dX3_copy_73 (lv_at hl 4 rfl) ?_
              refine lv_iload hx hb dX3_copy_75 (lv_at hl 5 rfl) ?_
              have hPc := hP.sub (ws' := (lzX x q S ++ lzI G (q 2) 8 ln)) [0, 2] rfl
              refine ro_calli (va_runV (As := [.int (nI rb), .int j, .int n]) (rest := []) ⟨hx, hb, hml, hown, hts⟩ (c_X3_hasItems l G x q S ln rb j n (hrb)) (cwV 3 hts gX3_copy_X3_hasItems rfl rfl rfl (by decide +kernel) ⟨Nat.le_of_ble_eq_true rfl, Nat.le_of_ble_eq_true rfl⟩) (ro_preV hK hPc hP (ci := 3) (q0 := 0) rfl rfl) rfl rfl hl.1 rfl (lv_room (Nat.le_of_ble_eq_true rfl)) dX3_copy_77 ⟨Nat.zero_le _, Nat.zero_le _⟩) (fun r_8 hr_8 => ?_)
              refine lv_if_ne (tgt := 89) hx hb dX3_copy_80 (by decide) (fun c_80 => ?_) (fun c_80 => ?_)
              · skip
                have c_80 := b2_n hr_8 c_80
                exact Bool.noConfusion (hp.symm.trans (by rw [c_68, c_80] <;> rfl))
              · skip
                have c_80 := b2_z hr_8 c_80
                refine lv_aload_n hx hb dX3_copy_83 rfl (lv_at hl 0 rfl) ?_
                refine lv_iconst (v := 2) hx hb dX3_copy_84 (by decide) ?_
                have hPc := hP.sub (ws' := lzX x q S) [0] rfl
                have hDc := hD.sub (ws' := lzX x q S) [0] (by decide) rfl
                have hFc : ∀ zz : Nat, lzA (lzX x q S) zz → A zz := lz_free hD [0] rfl
                refine va_calli (va_runV (As := [.int 2]) (rest := []) ⟨hx, hb, hml, hown, hts⟩ (c_X3_found l G x q S 2 ) (cwV 1 hts gX3_copy_X3_found rfl rfl rfl (by decide +kernel) ⟨Nat.le_of_ble_eq_true rfl, Nat.le_of_ble_eq_true rfl⟩) (rw_preV hK hPc hDc hP (ci := 3) (q0 := 0) rfl rfl) rfl rfl hl.1 rfl (lv_room (Nat.le_of_ble_eq_true rfl)) dX3_copy_85 ⟨Nat.zero_le _, Nat.zero_le _⟩) hS (fun q _ h => hFc q h) hFc (fun r_9 u_10 t9 H1 locs ht hvm hr_9 hB hz1 hk1 hS => ?_)
                replace hB : va_P G.1 lzC _ t9.heap := hB
                rw [ht] at hB
                obtain ⟨hP, hD⟩ := lz_join (wc := lzX x q S) (wr := ([(q 1, .inl (G.2 0, 8, .inl la)), (q 2, .inl (G.2 0, 8, .inl ln))] : va_W)) (w1 := lzX x q (upd S 3 2)) hP hD [0] [1, 2] rfl rfl (by decide) (by decide) rfl hk1 hB
                replace hP := hP.sub (ws' := (lzX x q (upd S 3 2) ++ (lzI G (q 1) 8 la ++ (lzI G (q 2) 8 ln)))) [2, 0, 1] rfl
                replace hD := hD.sub (ws' := (lzX x q (upd S 3 2) ++ (lzI G (q 1) 8 la ++ (lzI G (q 2) 8 ln)))) [2, 0, 1] (by decide) rfl
                clear ht hvm hB hz1 hk1
                generalize H1 = H at hP hS ⊢
                refine lz_top (y := -1000010 - 2) hr_9 ?_
                exact rw_iret (S := Unit) (G := G) (Wd := fun _ : Unit => (lzX x q (upd S 3 2) ++ (lzI G (q 1) 8 la ++ (lzI G (q 2) 8 ln)))) () hx hb hr hlk dX3_copy_88 hS (hP) (rfl)
          · skip
            exact absurd heq c_51
        · skip
          have c_30 := b2_n hr_4 c_30
          exact Bool.noConfusion (hm2.symm.trans c_30)
    · skip
      have c_11 := b2_z hr_2 c_11
      exact Bool.noConfusion (hB.symm.trans c_11)
set_option maxHeartbeats 4000000 in
set_option maxRecDepth 100000 in
theorem c_X3_copy_two (l : Launch) (G : lzG) (x : Nat) (q : Nat → Nat) (S la ln : Nat → Int32) (ih : Nat → Nat) (ra rb : Nat) (ga gb : Nat → Int32) (i j n : Nat) (hra : ra < 8) (hrb : rb < 8) (hm1 : decide (ln ra = -1000000) = false) (hm2 : decide (ln rb = -1000000) = false) (heq : la ra = la rb) (hp1 : hasB (ln ra) (nI i) (nI n) = true) (hp2 : hasB (ln rb) (nI j) (nI n) = true) (hi40 : i + n ≤ 40) (hj40 : j + n ≤ 40) : Met l yX3_copy wsX3_copy ({ frames := 2, cells := 0, slots := 0, locals := 42 }) (va_Pc [.ref x, .int (nI ra), .int (nI i), .int (nI rb), .int (nI j), .int (nI n)] (rwP G (lzX x q S ++ (lzI G (q 1) 8 la ++ (lzI G (q 2) 8 ln ++ (lzQ G 4 (q 0) 8 (fun i => some (ih i)) ++ (lzI G (ih ra) 40 ga ++ (lzI G (ih rb) 40 gb)))))))) (va_Qi (S := Unit) (fun (r : Int32) (_ : Unit) => r = nI n) (rwB G (fun _ : Unit => (lzX x q (upd S 3 0) ++ (lzI G (q 1) 8 la ++ (lzI G (q 2) 8 ln ++ (lzQ G 4 (q 0) 8 (fun i => some (ih i)) ++ (lzI G (ih ra) 40 ga ++ (lzI G (ih rb) 40 (va_cpy ga gb i j n))))))))) (lzA (lzX x q S ++ (lzI G (q 1) 8 la ++ (lzI G (q 2) 8 ln ++ (lzQ G 4 (q 0) 8 (fun i => some (ih i)) ++ (lzI G (ih ra) 40 ga ++ (lzI G (ih rb) 40 gb)))))))) 0 0 (lzA (lzX x q S ++ (lzI G (q 1) 8 la ++ (lzI G (q 2) 8 ln ++ (lzQ G 4 (q 0) 8 (fun i => some (ih i)) ++ (lzI G (ih ra) 40 ga ++ (lzI G (ih rb) 40 gb))))))) := by
  have hA : inR (nI ra) 0 7 = true := inR_row hra
  have hB : inR (nI rb) 0 7 = true := inR_row hrb
  refine rw_start (S := Unit) (cc := cX3_copy) (maxL := 6) (ret := (some .int)) (by decide) rfl (Nat.le_of_ble_eq_true rfl) ?_
  intro pp ee ss mm bl me cd A hx hb hr hlk hml hts hown hP hK hD hAe hS ls hl
  have hA0 : ∀ zz : Nat, lzA (lzX x q S ++ (lzI G (q 1) 8 la ++ (lzI G (q 2) 8 ln ++ (lzQ G 4 (q 0) 8 (fun i => some (ih i)) ++ (lzI G (ih ra) 40 ga ++ (lzI G (ih rb) 40 gb)))))) zz → A zz := fun zz h9 => by rw [hAe]; exact h9
  rw [← hAe]
  clear hAe
  have hown : ss.vm.findClass RX3 = some mm.cls := hown
  have hw2 := hts (.fieldLink RX3 14 "LampSquares" "lanes" "[I") (List.mem_of_getElem? (i := 2) rfl)
  have hw3 := hts (.fieldLink RX3 21 "LampSquares" "finding" "I") (List.mem_of_getElem? (i := 3) rfl)
  have hw4 := hts (.fieldLink RX3 11 "LampSquares" "items" "[[I") (List.mem_of_getElem? (i := 4) rfl)
  have hw5 := hts (.methodLink RX3 100 arraycopyName) (List.mem_of_getElem? (i := 5) rfl)
  have hw6 := hts (.native arraycopyName) (List.mem_of_getElem? (i := 6) rfl)
  have hw7 := hts (.static arraycopyName) (List.mem_of_getElem? (i := 7) rfl)
  have hw8 := hts (.initialized "java/lang/System") (List.mem_of_getElem? (i := 8) rfl)
  have hu_wsX30 : ∀ w ∈ wsX30, w.before ([.ref x, .int (nI ra), .int (nI i), .int (nI rb), .int (nI j), .int (nI n)] : List Value).toArray ss = true := fun w h9 => hts w (List.mem_cons_of_mem _ (List.mem_append_right _ h9))
  have hl : lv_has ls 6 [(0, .ref x), (1, .int (nI ra)), (2, .int (nI i)), (3, .int (nI rb)), (4, .int (nI j)), (5, .int (nI n))] := hl
  refine lv_iload_n hx hb dX3_copy_0 rfl (lv_at hl 1 rfl) ?_
  refine ro_calli (va_runS (As := [.int (nI ra)]) (rest := []) ⟨hx, hb, hml, hown, hts⟩ (c_X3_isRow l G (nI ra) ) (cwS 1 hts gX3_copy_X3_isRow rfl rfl rfl (by decide +kernel) ⟨Nat.le_of_ble_eq_true rfl, Nat.le_of_ble_eq_true rfl⟩) (ro_pre hK (fun k q h => by simp at h)) rfl rfl hl.1 rfl (lv_room (Nat.le_of_ble_eq_true rfl)) dX3_copy_1 ⟨Nat.zero_le _, Nat.zero_le _⟩) (fun r_1 hr_1 => ?_)
  refine lv_if_eq (tgt := 14) hx hb dX3_copy_4 (by decide) (fun c_4 => ?_) (fun c_4 => ?_)
  · skip
    have c_4 := b2_z hr_1 c_4
    exact Bool.noConfusion (hA.symm.trans c_4)
  · skip
    have c_4 := b2_n hr_1 c_4
    refine lv_iload_n hx hb dX3_copy_7 rfl (lv_at hl 3 rfl) ?_
    refine ro_calli (va_runS (As := [.int (nI rb)]) (rest := []) ⟨hx, hb, hml, hown, hts⟩ (c_X3_isRow l G (nI rb) ) (cwS 1 hts gX3_copy_X3_isRow rfl rfl rfl (by decide +kernel) ⟨Nat.le_of_ble_eq_true rfl, Nat.le_of_ble_eq_true rfl⟩) (ro_pre hK (fun k q h => by simp at h)) rfl rfl hl.1 rfl (lv_room (Nat.le_of_ble_eq_true rfl)) dX3_copy_8 ⟨Nat.zero_le _, Nat.zero_le _⟩) (fun r_2 hr_2 => ?_)
    refine lv_if_ne (tgt := 17) hx hb dX3_copy_11 (by decide) (fun c_11 => ?_) (fun c_11 => ?_)
    · skip
      have c_11 := b2_n hr_2 c_11
      refine lv_aload_n hx hb dX3_copy_17 rfl (lv_at hl 0 rfl) ?_
      refine lv_iload_n hx hb dX3_copy_18 rfl (lv_at hl 1 rfl) ?_
      have hPc := hP.sub (ws' := (lzX x q S ++ lzI G (q 2) 8 ln)) [0, 2] rfl
      refine ro_calli (va_runV (As := [.int (nI ra)]) (rest := []) ⟨hx, hb, hml, hown, hts⟩ (c_X3_isMissing l G x q S ln ra (hra)) (cwV 1 hts gX3_copy_X3_isMissing rfl rfl rfl (by decide +kernel) ⟨Nat.le_of_ble_eq_true rfl, Nat.le_of_ble_eq_true rfl⟩) (ro_preV hK hPc hP (ci := 3) (q0 := 0) rfl rfl) rfl rfl hl.1 rfl (lv_room (Nat.le_of_ble_eq_true rfl)) dX3_copy_19 ⟨Nat.zero_le _, Nat.zero_le _⟩) (fun r_3 hr_3 => ?_)
      refine lv_if_ne (tgt := 33) hx hb dX3_copy_22 (by decide) (fun c_22 => ?_) (fun c_22 => ?_)
      · skip
        have c_22 := b2_n hr_3 c_22
        exact Bool.noConfusion (hm1.symm.trans c_22)
      · skip
        have c_22 := b2_z hr_3 c_22
        refine lv_aload_n hx hb dX3_copy_25 rfl (lv_at hl 0 rfl) ?_
        refine lv_iload_n hx hb dX3_copy_26 rfl (lv_at hl 3 rfl) ?_
        have hPc := hP.sub (ws' := (lzX x q S ++ lzI G (q 2) 8 ln)) [0, 2] rfl
        refine ro_calli (va_runV (As := [.int (nI rb)]) (rest := []) ⟨hx, hb, hml, hown, hts⟩ (c_X3_isMissing l G x q S ln rb (hrb)) (cwV 1 hts gX3_copy_X3_isMissing rfl rfl rfl (by decide +kernel) ⟨Nat.le_of_ble_eq_true rfl, Nat.le_of_ble_eq_true rfl⟩) (ro_preV hK hPc hP (ci := 3) (q0 := 0) rfl rfl) rfl rfl hl.1 rfl (lv_room (Nat.le_of_ble_eq_true rfl)) dX3_copy_27 ⟨Nat.zero_le _, Nat.zero_le _⟩) (fun r_4 hr_4 => ?_)
        refine lv_if_eq (tgt := 39) hx hb dX3_copy_30 (by decide) (fun c_30 => ?_) (fun c_30 => ?_)
        · skip
          have c_30 := b2_z hr_4 c_30
          refine lv_aload_n hx hb dX3_copy_39 rfl (lv_at hl 0 rfl) ?_
          refine lz_get (G := G) (ci := 3) (v := .ref (q 1)) (C := RX3) (T := TX3) (N := 13) hx hb hu_wsX30 (fun _ h9 => h9) hown hK hP 0 rfl rfl 1 (by decide) hw2 rfl rfl dX3_copy_40 ?_
          refine lv_iload_n hx hb dX3_copy_43 rfl (lv_at hl 1 rfl) ?_
          refine lz_iald (f := la) hx hb hK hP 1 rfl ra (by omega) (Nat.le_of_ble_eq_true rfl) dX3_copy_44 ?_
          refine lv_aload_n hx hb dX3_copy_45 rfl (lv_at hl 0 rfl) ?_
          refine lz_get (G := G) (ci := 3) (v := .ref (q 1)) (C := RX3) (T := TX3) (N := 13) hx hb hu_wsX30 (fun _ h9 => h9) hown hK hP 0 rfl rfl 1 (by decide) hw2 rfl rfl dX3_copy_46 ?_
          refine lv_iload_n hx hb dX3_copy_49 rfl (lv_at hl 3 rfl) ?_
          refine lz_iald (f := la) hx hb hK hP 1 rfl rb (by omega) (Nat.le_of_ble_eq_true rfl) dX3_copy_50 ?_
          refine lv_icmp_eq (tgt := 60) hx hb dX3_copy_51 (by decide) (fun c_51 => ?_) (fun c_51 => ?_)
          · skip
            refine lv_aload_n hx hb dX3_copy_60 rfl (lv_at hl 0 rfl) ?_
            refine lv_iload_n hx hb dX3_copy_61 rfl (lv_at hl 1 rfl) ?_
            refine lv_iload_n hx hb dX3_copy_62 rfl (lv_at hl 2 rfl) ?_
            refine lv_iload hx hb dX3_copy_63 (lv_at hl 5 rfl) ?_
            have hPc := hP.sub (ws' := (lzX x q S ++ lzI G (q 2) 8 ln)) [0, 2] rfl
            refine ro_calli (va_runV (As := [.int (nI ra), .int (nI i), .int (nI n)]) (rest := []) ⟨hx, hb, hml, hown, hts⟩ (c_X3_hasItems l G x q S ln ra (nI i) (nI n) (hra)) (cwV 3 hts gX3_copy_X3_hasItems rfl rfl rfl (by decide +kernel) ⟨Nat.le_of_ble_eq_true rfl, Nat.le_of_ble_eq_true rfl⟩) (ro_preV hK hPc hP (ci := 3) (q0 := 0) rfl rfl) rfl rfl hl.1 rfl (lv_room (Nat.le_of_ble_eq_true rfl)) dX3_copy_65 ⟨Nat.zero_le _, Nat.zero_le _⟩) (fun r_5 hr_5 => ?_)
            refine lv_if_eq (tgt := 83) hx hb dX3_copy_68 (by decide) (fun c_68 => ?_) (fun c_68 => ?_)
            · skip
              have c_68 := b2_z hr_5 c_68
              exact Bool.noConfusion (hp1.symm.trans c_68)
            · skip
              have c_68 := b2_n hr_5 c_68
              refine lv_aload_n hx hb dX3_copy_71 rfl (lv_at hl 0 rfl) ?_
              refine lv_iload_n hx hb dX3_copy_72 rfl (lv_at hl 3 rfl) ?_
              refine lv_iload hx hb dX3_copy_73 (lv_at hl 4 rfl) ?_
              refine lv_iload hx hb dX3_copy_75 (lv_at hl 5 rfl) ?_
              have hPc := hP.sub (ws' := (lzX x q S ++ lzI G (q 2) 8 ln)) [0, 2] rfl
              refine ro_calli (va_runV (As := [.int (nI rb), .int (nI j), .int (nI n)]) (rest := []) ⟨hx, hb, hml, hown, hts⟩ (c_X3_hasItems l G x q S ln rb (nI j) (nI n) (hrb)) (cwV 3 hts gX3_copy_X3_hasItems rfl rfl rfl (by decide +kernel) ⟨Nat.le_of_ble_eq_true rfl, Nat.le_of_ble_eq_true rfl⟩) (ro_preV hK hPc hP (ci := 3) (q0 := 0) rfl rfl) rfl rfl hl.1 rfl (lv_room (Nat.le_of_ble_eq_true rfl)) dX3_copy_77 ⟨Nat.zero_le _, Nat.zero_le _⟩) (fun r_6 hr_6 => ?_)
              refine lv_if_ne (tgt := 89) hx hb dX3_copy_80 (by decide) (fun c_80 => ?_) (fun c_80 => ?_)
              · skip
                have c_80 := b2_n hr_6 c_80
                refine lv_aload_n hx hb dX3_copy_89 rfl (lv_at hl 0 rfl) ?_
                refine lv_iconst (v := 0) hx hb dX3_copy_90 (by decide) ?_
                refine lz_put (G := G) (ci := 3) (C := RX3) (T := TX3) (N := 13) hx hb hu_wsX30 (fun _ h9 => h9) tyX3 tyX3_ok nmX3 hown hK hP hD hS 0 rfl rfl 3 (by decide) hw3 rfl rfl (by decide +kernel) (Nat.le_of_ble_eq_true rfl) dX3_copy_91 (lzX x q (upd S 3 0) ++ (lzI G (q 1) 8 la ++ (lzI G (q 2) 8 ln ++ (lzQ G 4 (q 0) 8 (fun i => some (ih i)) ++ (lzI G (ih ra) 40 ga ++ (lzI G (ih rb) 40 gb)))))) rfl (fun H locs hP hD hS => ?_)
                refine lv_aload_n hx hb dX3_copy_94 rfl (lv_at hl 0 rfl) ?_
                refine lz_get (G := G) (ci := 3) (v := .ref (q 0)) (C := RX3) (T := TX3) (N := 13) hx hb hu_wsX30 (fun _ h9 => h9) hown hK hP 0 rfl rfl 0 (by decide) hw4 rfl rfl dX3_copy_95 ?_
                refine lv_iload_n hx hb dX3_copy_98 rfl (lv_at hl 1 rfl) ?_
                refine lz_aaldI (f := fun i => some (ih i)) hx hb hK hP 3 rfl ra (ih ra) rfl (by omega) (Nat.le_of_ble_eq_true rfl) dX3_copy_99 ?_
                refine lv_iload_n hx hb dX3_copy_100 rfl (lv_at hl 2 rfl) ?_
                refine lv_aload_n hx hb dX3_copy_101 rfl (lv_at hl 0 rfl) ?_
                refine lz_get (G := G) (ci := 3) (v := .ref (q 0)) (C := RX3) (T := TX3) (N := 13) hx hb hu_wsX30 (fun _ h9 => h9) hown hK hP 0 rfl rfl 0 (by decide) hw4 rfl rfl dX3_copy_102 ?_
                refine lv_iload_n hx hb dX3_copy_105 rfl (lv_at hl 3 rfl) ?_
                refine lz_aaldI (f := fun i => some (ih i)) hx hb hK hP 3 rfl rb (ih rb) rfl (by omega) (Nat.le_of_ble_eq_true rfl) dX3_copy_106 ?_
                refine lv_iload hx hb dX3_copy_107 (lv_at hl 4 rfl) ?_
                refine lv_iload hx hb dX3_copy_109 (lv_at hl 5 rfl) ?_
                refine lz_copyi (f := ga) (g := gb) hx hb (hml.trans hl.1.symm) hown hw5 hw6 hw7 hw8 hK hP hD hS 4 5 rfl rfl i j n (by omega) (by omega) (Nat.le_of_ble_eq_true rfl) (Nat.le_of_ble_eq_true rfl) (Nat.le_of_ble_eq_true rfl) (Nat.le_of_ble_eq_true rfl) dX3_copy_111 (lzX x q (upd S 3 0) ++ (lzI G (q 1) 8 la ++ (lzI G (q 2) 8 ln ++ (lzQ G 4 (q 0) 8 (fun i => some (ih i)) ++ (lzI G (ih ra) 40 ga ++ (lzI G (ih rb) 40 (va_cpy ga gb i j n))))))) rfl (fun H locs hP hD hS => ?_)
                refine lv_iload hx hb dX3_copy_114 (lv_at hl 5 rfl) ?_
                exact rw_iret (S := Unit) (G := G) (Wd := fun _ : Unit => (lzX x q (upd S 3 0) ++ (lzI G (q 1) 8 la ++ (lzI G (q 2) 8 ln ++ (lzQ G 4 (q 0) 8 (fun i => some (ih i)) ++ (lzI G (ih ra) 40 ga ++ (lzI G (ih rb) 40 (va_cpy ga gb i j n)))))))) () hx hb hr hlk dX3_copy_116 hS (hP) (rfl)
              · skip
                have c_80 := b2_z hr_6 c_80
                exact Bool.noConfusion (hp2.symm.trans c_80)
          · skip
            exact absurd heq c_51
        · skip
          have c_30 := b2_n hr_4 c_30
          exact Bool.noConfusion (hm2.symm.trans c_30)
    · skip
      have c_11 := b2_z hr_2 c_11
      exact Bool.noConfusion (hB.symm.trans c_11)
set_option maxHeartbeats 4000000 in
set_option maxRecDepth 100000 in
theorem c_X3_copy_one (l : Launch) (G : lzG) (x : Nat) (q : Nat → Nat) (S la ln : Nat → Int32) (ih : Nat → Nat) (ra : Nat) (ga : Nat → Int32) (i j n : Nat) (hra : ra < 8) (hm1 : decide (ln ra = -1000000) = false) (hp1 : hasB (ln ra) (nI i) (nI n) = true) (hp2 : hasB (ln ra) (nI j) (nI n) = true) (hi40 : i + n ≤ 40) (hj40 : j + n ≤ 40) : Met l yX3_copy wsX3_copy ({ frames := 2, cells := 0, slots := 0, locals := 42 }) (va_Pc [.ref x, .int (nI ra), .int (nI i), .int (nI ra), .int (nI j), .int (nI n)] (rwP G (lzX x q S ++ (lzI G (q 1) 8 la ++ (lzI G (q 2) 8 ln ++ (lzQ G 4 (q 0) 8 (fun i => some (ih i)) ++ (lzI G (ih ra) 40 ga))))))) (va_Qi (S := Unit) (fun (r : Int32) (_ : Unit) => r = nI n) (rwB G (fun _ : Unit => (lzX x q (upd S 3 0) ++ (lzI G (q 1) 8 la ++ (lzI G (q 2) 8 ln ++ (lzQ G 4 (q 0) 8 (fun i => some (ih i)) ++ (lzI G (ih ra) 40 (va_cpy ga ga i j n)))))))) (lzA (lzX x q S ++ (lzI G (q 1) 8 la ++ (lzI G (q 2) 8 ln ++ (lzQ G 4 (q 0) 8 (fun i => some (ih i)) ++ (lzI G (ih ra) 40 ga))))))) 0 0 (lzA (lzX x q S ++ (lzI G (q 1) 8 la ++ (lzI G (q 2) 8 ln ++ (lzQ G 4 (q 0) 8 (fun i => some (ih i)) ++ (lzI G (ih ra) 40 ga)))))) := by
  have hA : inR (nI ra) 0 7 = true := inR_row hra
  refine rw_start (S := Unit) (cc := cX3_copy) (maxL := 6) (ret := (some .int)) (by decide) rfl (Nat.le_of_ble_eq_true rfl) ?_
  intro pp ee ss mm bl me cd A hx hb hr hlk hml hts hown hP hK hD hAe hS ls hl
  have hA0 : ∀ zz : Nat, lzA (lzX x q S ++ (lzI G (q 1) 8 la ++ (lzI G (q 2) 8 ln ++ (lzQ G 4 (q 0) 8 (fun i => some (ih i)) ++ (lzI G (ih ra) 40 ga))))) zz → A zz := fun zz h9 => by rw [hAe]; exact h9
  rw [← hAe]
  clear hAe
  have hown : ss.vm.findClass RX3 = some mm.cls := hown
  have hw2 := hts (.fieldLink RX3 14 "LampSquares" "lanes" "[I") (List.mem_of_getElem? (i := 2) rfl)
  have hw3 := hts (.fieldLink RX3 21 "LampSquares" "finding" "I") (List.mem_of_getElem? (i := 3) rfl)
  have hw4 := hts (.fieldLink RX3 11 "LampSquares" "items" "[[I") (List.mem_of_getElem? (i := 4) rfl)
  have hw5 := hts (.methodLink RX3 100 arraycopyName) (List.mem_of_getElem? (i := 5) rfl)
  have hw6 := hts (.native arraycopyName) (List.mem_of_getElem? (i := 6) rfl)
  have hw7 := hts (.static arraycopyName) (List.mem_of_getElem? (i := 7) rfl)
  have hw8 := hts (.initialized "java/lang/System") (List.mem_of_getElem? (i := 8) rfl)
  have hu_wsX30 : ∀ w ∈ wsX30, w.before ([.ref x, .int (nI ra), .int (nI i), .int (nI ra), .int (nI j), .int (nI n)] : List Value).toArray ss = true := fun w h9 => hts w (List.mem_cons_of_mem _ (List.mem_append_right _ h9))
  have hl : lv_has ls 6 [(0, .ref x), (1, .int (nI ra)), (2, .int (nI i)), (3, .int (nI ra)), (4, .int (nI j)), (5, .int (nI n))] := hl
  refine lv_iload_n hx hb dX3_copy_0 rfl (lv_at hl 1 rfl) ?_
  refine ro_calli (va_runS (As := [.int (nI ra)]) (rest := []) ⟨hx, hb, hml, hown, hts⟩ (c_X3_isRow l G (nI ra) ) (cwS 1 hts gX3_copy_X3_isRow rfl rfl rfl (by decide +kernel) ⟨Nat.le_of_ble_eq_true rfl, Nat.le_of_ble_eq_true rfl⟩) (ro_pre hK (fun k q h => by simp at h)) rfl rfl hl.1 rfl (lv_room (Nat.le_of_ble_eq_true rfl)) dX3_copy_1 ⟨Nat.zero_le _, Nat.zero_le _⟩) (fun r_1 hr_1 => ?_)
  refine lv_if_eq (tgt := 14) hx hb dX3_copy_4 (by decide) (fun c_4 => ?_) (fun c_4 => ?_)
  · skip
    have c_4 := b2_z hr_1 c_4
    exact Bool.noConfusion (hA.symm.trans c_4)
  · skip
    have c_4 := b2_n hr_1 c_4
    refine lv_iload_n hx hb dX3_copy_7 rfl (lv_at hl 3 rfl) ?_
    refine ro_calli (va_runS (As := [.int (nI ra)]) (rest := []) ⟨hx, hb, hml, hown, hts⟩ (c_X3_isRow l G (nI ra) ) (cwS 1 hts gX3_copy_X3_isRow rfl rfl rfl (by decide +kernel) ⟨Nat.le_of_ble_eq_true rfl, Nat.le_of_ble_eq_true rfl⟩) (ro_pre hK (fun k q h => by simp at h)) rfl rfl hl.1 rfl (lv_room (Nat.le_of_ble_eq_true rfl)) dX3_copy_8 ⟨Nat.zero_le _, Nat.zero_le _⟩) (fun r_2 hr_2 => ?_)
    refine lv_if_ne (tgt := 17) hx hb dX3_copy_11 (by decide) (fun c_11 => ?_) (fun c_11 => ?_)
    · skip
      have c_11 := b2_n hr_2 c_11
      refine lv_aload_n hx hb dX3_copy_17 rfl (lv_at hl 0 rfl) ?_
      refine lv_iload_n hx hb dX3_copy_18 rfl (lv_at hl 1 rfl) ?_
      have hPc := hP.sub (ws' := (lzX x q S ++ lzI G (q 2) 8 ln)) [0, 2] rfl
      refine ro_calli (va_runV (As := [.int (nI ra)]) (rest := []) ⟨hx, hb, hml, hown, hts⟩ (c_X3_isMissing l G x q S ln ra (hra)) (cwV 1 hts gX3_copy_X3_isMissing rfl rfl rfl (by decide +kernel) ⟨Nat.le_of_ble_eq_true rfl, Nat.le_of_ble_eq_true rfl⟩) (ro_preV hK hPc hP (ci := 3) (q0 := 0) rfl rfl) rfl rfl hl.1 rfl (lv_room (Nat.le_of_ble_eq_true rfl)) dX3_copy_19 ⟨Nat.zero_le _, Nat.zero_le _⟩) (fun r_3 hr_3 => ?_)
      refine lv_if_ne (tgt := 33) hx hb dX3_copy_22 (by decide) (fun c_22 => ?_) (fun c_22 => ?_)
      · skip
        have c_22 := b2_n hr_3 c_22
        exact Bool.noConfusion (hm1.symm.trans c_22)
      · skip
        have c_22 := b2_z hr_3 c_22
        refine lv_aload_n hx hb dX3_copy_25 rfl (lv_at hl 0 rfl) ?_
        refine lv_iload_n hx hb dX3_copy_26 rfl (lv_at hl 3 rfl) ?_
        have hPc := hP.sub (ws' := (lzX x q S ++ lzI G (q 2) 8 ln)) [0, 2] rfl
        refine ro_calli (va_runV (As := [.int (nI ra)]) (rest := []) ⟨hx, hb, hml, hown, hts⟩ (c_X3_isMissing l G x q S ln ra (hra)) (cwV 1 hts gX3_copy_X3_isMissing rfl rfl rfl (by decide +kernel) ⟨Nat.le_of_ble_eq_true rfl, Nat.le_of_ble_eq_true rfl⟩) (ro_preV hK hPc hP (ci := 3) (q0 := 0) rfl rfl) rfl rfl hl.1 rfl (lv_room (Nat.le_of_ble_eq_true rfl)) dX3_copy_27 ⟨Nat.zero_le _, Nat.zero_le _⟩) (fun r_4 hr_4 => ?_)
        refine lv_if_eq (tgt := 39) hx hb dX3_copy_30 (by decide) (fun c_30 => ?_) (fun c_30 => ?_)
        · skip
          have c_30 := b2_z hr_4 c_30
          refine lv_aload_n hx hb dX3_copy_39 rfl (lv_at hl 0 rfl) ?_
          refine lz_get (G := G) (ci := 3) (v := .ref (q 1)) (C := RX3) (T := TX3) (N := 13) hx hb hu_wsX30 (fun _ h9 => h9) hown hK hP 0 rfl rfl 1 (by decide) hw2 rfl rfl dX3_copy_40 ?_
          refine lv_iload_n hx hb dX3_copy_43 rfl (lv_at hl 1 rfl) ?_
          refine lz_iald (f := la) hx hb hK hP 1 rfl ra (by omega) (Nat.le_of_ble_eq_true rfl) dX3_copy_44 ?_
          refine lv_aload_n hx hb dX3_copy_45 rfl (lv_at hl 0 rfl) ?_
          refine lz_get (G := G) (ci := 3) (v := .ref (q 1)) (C := RX3) (T := TX3) (N := 13) hx hb hu_wsX30 (fun _ h9 => h9) hown hK hP 0 rfl rfl 1 (by decide) hw2 rfl rfl dX3_copy_46 ?_
          refine lv_iload_n hx hb dX3_copy_49 rfl (lv_at hl 3 rfl) ?_
          refine lz_iald (f := la) hx hb hK hP 1 rfl ra (by omega) (Nat.le_of_ble_eq_true rfl) dX3_copy_50 ?_
          refine lv_icmp_eq (tgt := 60) hx hb dX3_copy_51 (by decide) (fun c_51 => ?_) (fun c_51 => ?_)
          · skip
            refine lv_aload_n hx hb dX3_copy_60 rfl (lv_at hl 0 rfl) ?_
            refine lv_iload_n hx hb dX3_copy_61 rfl (lv_at hl 1 rfl) ?_
            refine lv_iload_n hx hb dX3_copy_62 rfl (lv_at hl 2 rfl) ?_
            refine lv_iload hx hb dX3_copy_63 (lv_at hl 5 rfl) ?_
            have hPc := hP.sub (ws' := (lzX x q S ++ lzI G (q 2) 8 ln)) [0, 2] rfl
            refine ro_calli (va_runV (As := [.int (nI ra), .int (nI i), .int (nI n)]) (rest := []) ⟨hx, hb, hml, hown, hts⟩ (c_X3_hasItems l G x q S ln ra (nI i) (nI n) (hra)) (cwV 3 hts gX3_copy_X3_hasItems rfl rfl rfl (by decide +kernel) ⟨Nat.le_of_ble_eq_true rfl, Nat.le_of_ble_eq_true rfl⟩) (ro_preV hK hPc hP (ci := 3) (q0 := 0) rfl rfl) rfl rfl hl.1 rfl (lv_room (Nat.le_of_ble_eq_true rfl)) dX3_copy_65 ⟨Nat.zero_le _, Nat.zero_le _⟩) (fun r_5 hr_5 => ?_)
            refine lv_if_eq (tgt := 83) hx hb dX3_copy_68 (by decide) (fun c_68 => ?_) (fun c_68 => ?_)
            · skip
              have c_68 := b2_z hr_5 c_68
              exact Bool.noConfusion (hp1.symm.trans c_68)
            · skip
              have c_68 := b2_n hr_5 c_68
              refine lv_aload_n hx hb dX3_copy_71 rfl (lv_at hl 0 rfl) ?_
              refine lv_iload_n hx hb dX3_copy_72 rfl (lv_at hl 3 rfl) ?_
              refine lv_iload hx hb dX3_copy_73 (lv_at hl 4 rfl) ?_
              refine lv_iload hx hb dX3_copy_75 (lv_at hl 5 rfl) ?_
              have hPc := hP.sub (ws' := (lzX x q S ++ lzI G (q 2) 8 ln)) [0, 2] rfl
              refine ro_calli (va_runV (As := [.int (nI ra), .int (nI j), .int (nI n)]) (rest := []) ⟨hx, hb, hml, hown, hts⟩ (c_X3_hasItems l G x q S ln ra (nI j) (nI n) (hra)) (cwV 3 hts gX3_copy_X3_hasItems rfl rfl rfl (by decide +kernel) ⟨Nat.le_of_ble_eq_true rfl, Nat.le_of_ble_eq_true rfl⟩) (ro_preV hK hPc hP (ci := 3) (q0 := 0) rfl rfl) rfl rfl hl.1 rfl (lv_room (Nat.le_of_ble_eq_true rfl)) dX3_copy_77 ⟨Nat.zero_le _, Nat.zero_le _⟩) (fun r_6 hr_6 => ?_)
              refine lv_if_ne (tgt := 89) hx hb dX3_copy_80 (by decide) (fun c_80 => ?_) (fun c_80 => ?_)
              · skip
                have c_80 := b2_n hr_6 c_80
                refine lv_aload_n hx hb dX3_copy_89 rfl (lv_at hl 0 rfl) ?_
                refine lv_iconst (v := 0) hx hb dX3_copy_90 (by decide) ?_
                refine lz_put (G := G) (ci := 3) (C := RX3) (T := TX3) (N := 13) hx hb hu_wsX30 (fun _ h9 => h9) tyX3 tyX3_ok nmX3 hown hK hP hD hS 0 rfl rfl 3 (by decide) hw3 rfl rfl (by decide +kernel) (Nat.le_of_ble_eq_true rfl) dX3_copy_91 (lzX x q (upd S 3 0) ++ (lzI G (q 1) 8 la ++ (lzI G (q 2) 8 ln ++ (lzQ G 4 (q 0) 8 (fun i => some (ih i)) ++ (lzI G (ih ra) 40 ga))))) rfl (fun H locs hP hD hS => ?_)
                refine lv_aload_n hx hb dX3_copy_94 rfl (lv_at hl 0 rfl) ?_
                refine lz_get (G := G) (ci := 3) (v := .ref (q 0)) (C := RX3) (T := TX3) (N := 13) hx hb hu_wsX30 (fun _ h9 => h9) hown hK hP 0 rfl rfl 0 (by decide) hw4 rfl rfl dX3_copy_95 ?_
                refine lv_iload_n hx hb dX3_copy_98 rfl (lv_at hl 1 rfl) ?_
                refine lz_aaldI (f := fun i => some (ih i)) hx hb hK hP 3 rfl ra (ih ra) rfl (by omega) (Nat.le_of_ble_eq_true rfl) dX3_copy_99 ?_
                refine lv_iload_n hx hb dX3_copy_100 rfl (lv_at hl 2 rfl) ?_
                refine lv_aload_n hx hb dX3_copy_101 rfl (lv_at hl 0 rfl) ?_
                refine lz_get (G := G) (ci := 3) (v := .ref (q 0)) (C := RX3) (T := TX3) (N := 13) hx hb hu_wsX30 (fun _ h9 => h9) hown hK hP 0 rfl rfl 0 (by decide) hw4 rfl rfl dX3_copy_102 ?_
                refine lv_iload_n hx hb dX3_copy_105 rfl (lv_at hl 3 rfl) ?_
                refine lz_aaldI (f := fun i => some (ih i)) hx hb hK hP 3 rfl ra (ih ra) rfl (by omega) (Nat.le_of_ble_eq_true rfl) dX3_copy_106 ?_
                refine lv_iload hx hb dX3_copy_107 (lv_at hl 4 rfl) ?_
                refine lv_iload hx hb dX3_copy_109 (lv_at hl 5 rfl) ?_
                refine lz_copyi (f := ga) (g := ga) hx hb (hml.trans hl.1.symm) hown hw5 hw6 hw7 hw8 hK hP hD hS 4 4 rfl rfl i j n (by omega) (by omega) (Nat.le_of_ble_eq_true rfl) (Nat.le_of_ble_eq_true rfl) (Nat.le_of_ble_eq_true rfl) (Nat.le_of_ble_eq_true rfl) dX3_copy_111 (lzX x q (upd S 3 0) ++ (lzI G (q 1) 8 la ++ (lzI G (q 2) 8 ln ++ (lzQ G 4 (q 0) 8 (fun i => some (ih i)) ++ (lzI G (ih ra) 40 (va_cpy ga ga i j n)))))) rfl (fun H locs hP hD hS => ?_)
                refine lv_iload hx hb dX3_copy_114 (lv_at hl 5 rfl) ?_
                exact rw_iret (S := Unit) (G := G) (Wd := fun _ : Unit => (lzX x q (upd S 3 0) ++ (lzI G (q 1) 8 la ++ (lzI G (q 2) 8 ln ++ (lzQ G 4 (q 0) 8 (fun i => some (ih i)) ++ (lzI G (ih ra) 40 (va_cpy ga ga i j n))))))) () hx hb hr hlk dX3_copy_116 hS (hP) (rfl)
              · skip
                have c_80 := b2_z hr_6 c_80
                exact Bool.noConfusion (hp2.symm.trans c_80)
          · skip
            exact absurd rfl c_51
        · skip
          have c_30 := b2_n hr_4 c_30
          exact Bool.noConfusion (hm1.symm.trans c_30)
    · skip
      have c_11 := b2_z hr_2 c_11
      exact Bool.noConfusion (hA.symm.trans c_11)
set_option maxHeartbeats 4000000 in
set_option maxRecDepth 100000 in
theorem c_J7_fill_d0a16 (l : Launch) (G : lzG) (a n : Nat) (f : Nat → Int64) (v : Int64) (hn : n < 2 ^ 31) : Met l yJ7_fill_d0a16 wsJ7_fill_d0a16 ({ frames := 0, cells := 0, slots := 0, locals := 0 }) (va_Pc [.ref a, .long v] (rwP G (lzL G a n f))) (va_Qv (S := Unit) (fun _ : Unit => True) (rwB G (fun _ : Unit => lzL G a n (fa_fill (fun _ => v) f n))) (lzA (lzL G a n f))) 0 0 (lzA (lzL G a n f)) := by
  refine rw_start (S := Unit) (cc := cJ7_fill_d0a16) (maxL := 5) (ret := none) (by decide) rfl (Nat.le_of_ble_eq_true rfl) ?_
  intro pp ee ss mm bl me cd A hx hb hr hlk hml hts hown hP hK hD hAe hS ls hl
  have hA0 : ∀ zz : Nat, lzA (lzL G a n f) zz → A zz := fun zz h9 => by rw [hAe]; exact h9
  rw [← hAe]
  clear hAe
  have hown : ss.vm.findClass RJ7 = some mm.cls := hown
  have hl : lv_has ls 5 [(0, .ref a), (1, .long v)] := hl
  refine lv_iconst (v := 0) hx hb dJ7_fill_d0a16_0 (by decide) ?_
  refine lv_istore_n (lv' := [(3, .int 0), (0, .ref a), (1, .long v)]) hx hb dJ7_fill_d0a16_1 rfl hl (by decide) rfl (fun ls hl => ?_)
  refine lv_aload_n hx hb dJ7_fill_d0a16_2 rfl (lv_at hl 1 rfl) ?_
  refine lz_alenL (f := f) hx hb hK hP 0 rfl dJ7_fill_d0a16_3 ?_
  refine lv_istore (lv' := [(4, .int (nI n)), (3, .int 0), (0, .ref a), (1, .long v)]) hx hb dJ7_fill_d0a16_4 hl (by decide) rfl (fun ls hl => ?_)
  have J_6 : ∀ (n9 : Nat), ∀ (k : Nat), (k ≤ n) → n - k < n9 → ∀ (H : Heap) (locs : List Loc), va_P G.1 lzC (lzL G a n (fa_fill (fun _ => v) f k)) H → va_D A (lzL G a n (fa_fill (fun _ => v) f k)) → va_S A ss.heap H locs → ∀ ls : Array Slot, lv_has ls 5 [(3, .int (nI k)), (4, .int (nI n)), (0, .ref a), (1, .long v)] → W pp l ee ({ frames := 0, cells := 0, slots := 0, locals := 0 }) ss mm ([.ref a, .long v] : List Value).toArray bl me cd H locs 0 0 (MQ bl (va_Qv (S := Unit) (fun _ : Unit => True) (rwB G (fun _ : Unit => lzL G a n (fa_fill (fun _ => v) f n))) A) ([.ref a, .long v] : List Value).toArray ss 0 0 A) (F0 mm 6 ls []) := by
    intro n9
    induction n9 with
    | zero => intro k hk hn; exact absurd hn (Nat.not_lt_zero _)
    | succ n9 ih_6 =>
      intro k hk hn_6 H locs hP hD hS ls hl
      refine lv_iload_n hx hb dJ7_fill_d0a16_6 rfl (lv_at hl 0 rfl) ?_
      refine lv_iload hx hb dJ7_fill_d0a16_7 (lv_at hl 1 rfl) ?_
      refine lv_icmp_ge (tgt := 22) hx hb dJ7_fill_d0a16_9 (by decide) (fun c_9 => ?_) (fun c_9 => ?_)
      · skip
        have c_9' := Int32.not_lt.mpr c_9
        have hk2 : n ≤ k := (nI_leI (by omega) (by omega)).mp c_9
        have hk3 : k = n := by omega
        exact rw_vret (S := Unit) (G := G) (Wd := fun _ : Unit => lzL G a n (fa_fill (fun _ => v) f n)) () hx hb hr hlk dJ7_fill_d0a16_22 hS (by rw [hk3] at hP; exact hP) (trivial)
      · skip
        have c_9' := Int32.not_le.mp c_9
        have hk2 : k < n := (nI_ltI (by omega) (by omega)).mp c_9'
        refine lv_aload_n hx hb dJ7_fill_d0a16_12 rfl (lv_at hl 2 rfl) ?_
        refine lv_iload_n hx hb dJ7_fill_d0a16_13 rfl (lv_at hl 0 rfl) ?_
        refine lv_lload_n hx hb dJ7_fill_d0a16_14 rfl (lv_at hl 3 rfl) ?_
        refine lz_last (f := fa_fill (fun _ => v) f k) hx hb hK hP hD hS 0 rfl k (by omega) hn dJ7_fill_d0a16_15 (lzL G a n (vp_updL (fa_fill (fun _ => v) f k) k v)) rfl (fun H locs hP hD hS => ?_)
        refine lv_iinc (v := nI (k + 1)) (lv' := [(3, .int (nI (k + 1))), (4, .int (nI n)), (0, .ref a), (1, .long v)]) hx hb dJ7_fill_d0a16_16 hl (k := 0) rfl (nI_1 _) (by decide) rfl (fun ls hl => ?_)
        refine lv_goto (tgt := 6) hx hb dJ7_fill_d0a16_19 (by decide) ?_
        have hE_1 : vp_updL (fa_fill (fun _ => v) f k) k v = fa_fill (fun _ => v) f (k + 1) := fillL_succ (fun _ => v) f k
        replace hP : va_P G.1 lzC (lzL G a n (fa_fill (fun _ => v) f (k + 1))) H := by rw [← hE_1]; exact hP
        replace hD : va_D A (lzL G a n (fa_fill (fun _ => v) f (k + 1))) := by rw [← hE_1]; exact hD
        exact ih_6 (k + 1) (by omega) (by omega) _ _ hP hD hS _ (lv_sub hl [0, 1, 2, 3] rfl)
  have hE_2 : f = fa_fill (fun _ => v) f 0 := (fa_fill_0 _ _).symm
  replace hP : va_P G.1 lzC (lzL G a n (fa_fill (fun _ => v) f 0)) ss.heap := by rw [← hE_2]; exact hP
  replace hD : va_D A (lzL G a n (fa_fill (fun _ => v) f 0)) := by rw [← hE_2]; exact hD
  exact J_6 _ 0 (by omega) (Nat.lt_succ_self _) _ _ hP hD hS _ (lv_sub hl [1, 0, 2, 3] rfl)
set_option maxHeartbeats 4000000 in
set_option maxRecDepth 100000 in
theorem c_X3_spreadCases (l : Launch) (G : lzG) (x : Nat) (q : Nat → Nat) (S : Nat → Int32) (cs : Nat → Int64) (set wb : Int32) (P : Nat) (hPt : P ≤ 10) : Met l yX3_spreadCases wsX3_spreadCases ({ frames := 1, cells := 0, slots := 0, locals := 24 }) (va_Pc [.ref x, .int set, .int wb, .int (nI P)] (rwP G (lzX x q S ++ lzL G (q 12) 9 cs))) (va_Qv (S := Unit) (fun _ : Unit => True) (rwB G (fun _ : Unit => (lzX x q S ++ lzL G (q 12) 9 (arrW cs (csN P (hasI set) (hasI wb) 8))))) (lzA (lzX x q S ++ lzL G (q 12) 9 cs))) 0 0 (lzA (lzX x q S ++ lzL G (q 12) 9 cs)) := by
  refine rw_start (S := Unit) (cc := cX3_spreadCases) (maxL := 7) (ret := none) (by decide) rfl (Nat.le_of_ble_eq_true rfl) ?_
  intro pp ee ss mm bl me cd A hx hb hr hlk hml hts hown hP hK hD hAe hS ls hl
  have hA0 : ∀ zz : Nat, lzA (lzX x q S ++ lzL G (q 12) 9 cs) zz → A zz := fun zz h9 => by rw [hAe]; exact h9
  rw [← hAe]
  clear hAe
  have hown : ss.vm.findClass RX3 = some mm.cls := hown
  have hw1 := hts (.fieldLink RX3 62 "LampSquares" "cases" "[J") (List.mem_of_getElem? (i := 1) rfl)
  have hu_wsX30 : ∀ w ∈ wsX30, w.before ([.ref x, .int set, .int wb, .int (nI P)] : List Value).toArray ss = true := fun w h9 => hts w (List.mem_cons_of_mem _ (List.mem_append_right _ h9))
  have hl : lv_has ls 7 [(0, .ref x), (1, .int set), (2, .int wb), (3, .int (nI P))] := hl
  refine lv_aload_n hx hb dX3_spreadCases_0 rfl (lv_at hl 0 rfl) ?_
  refine lz_get (G := G) (ci := 3) (v := .ref (q 12)) (C := RX3) (T := TX3) (N := 13) hx hb hu_wsX30 (fun _ h9 => h9) hown hK hP 0 rfl rfl 12 (by decide) hw1 rfl rfl dX3_spreadCases_1 ?_
  refine lv_lconst (v := 0) hx hb dX3_spreadCases_4 (by decide) ?_
  have hPc := hP.sub (ws' := lzL G (q 12) 9 cs) [1] rfl
  have hDc := hD.sub (ws' := lzL G (q 12) 9 cs) [1] (by decide) rfl
  have hFc : ∀ zz : Nat, lzA (lzL G (q 12) 9 cs) zz → A zz := lz_free hD [1] rfl
  refine va_callv (va_runS (As := [.ref (q 12), .long 0]) (rest := []) ⟨hx, hb, hml, hown, hts⟩ (c_J7_fill_d0a16 l G (q 12) 9 cs 0 (by decide)) (va_cwS 2 hts gX3_spreadCases_J7_fill_d0a16 rfl rfl rfl (by decide +kernel) ⟨Nat.le_of_ble_eq_true rfl, Nat.le_of_ble_eq_true rfl⟩) (rw_pre hK hPc hDc) rfl rfl hl.1 rfl (lv_room (Nat.le_of_ble_eq_true rfl)) dX3_spreadCases_5 ⟨Nat.zero_le _, Nat.zero_le _⟩) hS (fun q _ h => hFc q h) hFc (fun u_2 t9 H1 locs ht hvm hr_1 hB hz1 hk1 hS => ?_)
  replace hB : va_P G.1 lzC _ t9.heap := hB
  rw [ht] at hB
  obtain ⟨hP, hD⟩ := lz_join (wc := lzL G (q 12) 9 cs) (wr := ([(x, .inr (3, [.ref (q 0), .ref (q 1), .ref (q 2), .int (S 3), .ref (q 4), .int (S 5), .ref (q 6), .ref (q 7), .ref (q 8), .ref (q 9), .ref (q 10), .int (S 11), .ref (q 12)]))] : va_W)) (w1 := lzL G (q 12) 9 (fa_fill (fun _ => 0) cs 9)) hP hD [1] [0] rfl rfl (by decide) (by decide) rfl hk1 hB
  replace hP := hP.sub (ws' := (lzX x q S ++ lzL G (q 12) 9 (fa_fill (fun _ => 0) cs 9))) [0, 1] rfl
  replace hD := hD.sub (ws' := (lzX x q S ++ lzL G (q 12) 9 (fa_fill (fun _ => 0) cs 9))) [0, 1] (by decide) rfl
  clear ht hvm hB hz1 hk1
  generalize H1 = H at hP hS ⊢
  refine lv_aload_n hx hb dX3_spreadCases_8 rfl (lv_at hl 0 rfl) ?_
  refine lz_get (G := G) (ci := 3) (v := .ref (q 12)) (C := RX3) (T := TX3) (N := 13) hx hb hu_wsX30 (fun _ h9 => h9) hown hK hP 0 rfl rfl 12 (by decide) hw1 rfl rfl dX3_spreadCases_9 ?_
  refine lv_iconst (v := 0) hx hb dX3_spreadCases_12 (by decide) ?_
  refine lv_lconst (v := 1) hx hb dX3_spreadCases_13 (by decide) ?_
  refine lz_last (f := fa_fill (fun _ => 0) cs 9) hx hb hK hP hD hS 1 rfl 0 (by omega) (Nat.le_of_ble_eq_true rfl) dX3_spreadCases_14 (lzX x q S ++ lzL G (q 12) 9 (vp_updL (fa_fill (fun _ => 0) cs 9) 0 1)) rfl (fun H locs hP hD hS => ?_)
  refine lv_iconst (v := 0) hx hb dX3_spreadCases_15 (by decide) ?_
  refine lv_istore (lv' := [(4, .int 0), (0, .ref x), (1, .int set), (2, .int wb), (3, .int (nI P))]) hx hb dX3_spreadCases_16 hl (by decide) rfl (fun ls hl => ?_)
  have J_18 : ∀ (n9 : Nat), ∀ (k : Nat), (k ≤ 8) → 8 - k < n9 → ∀ (H : Heap) (locs : List Loc), va_P G.1 lzC (lzX x q S ++ lzL G (q 12) 9 (arrW cs (csN P (hasI set) (hasI wb) k))) H → va_D A (lzX x q S ++ lzL G (q 12) 9 (arrW cs (csN P (hasI set) (hasI wb) k))) → va_S A ss.heap H locs → ∀ ls : Array Slot, lv_has ls 7 [(4, .int (nI k)), (0, .ref x), (1, .int set), (2, .int wb), (3, .int (nI P))] → W pp l ee ({ frames := 1, cells := 0, slots := 0, locals := 24 }) ss mm ([.ref x, .int set, .int wb, .int (nI P)] : List Value).toArray bl me cd H locs 0 0 (MQ bl (va_Qv (S := Unit) (fun _ : Unit => True) (rwB G (fun _ : Unit => (lzX x q S ++ lzL G (q 12) 9 (arrW cs (csN P (hasI set) (hasI wb) 8))))) A) ([.ref x, .int set, .int wb, .int (nI P)] : List Value).toArray ss 0 0 A) (F0 mm 18 ls []) := by
    intro n9
    induction n9 with
    | zero => intro k hk hn; exact absurd hn (Nat.not_lt_zero _)
    | succ n9 ih_18 =>
      intro k hk hn_18 H locs hP hD hS ls hl
      refine lv_iload hx hb dX3_spreadCases_18 (lv_at hl 0 rfl) ?_
      refine lv_bipush (v := 8) hx hb dX3_spreadCases_20 (by decide) ?_
      refine lv_icmp_ge (tgt := 126) hx hb dX3_spreadCases_22 (by decide) (fun c_22 => ?_) (fun c_22 => ?_)
      · skip
        have c_22' := Int32.not_lt.mpr c_22
        have hk2 : 8 ≤ k := lz_ge (N := 8) rfl c_22 (by omega) (by omega)
        have hk3 : k = 8 := by omega
        exact rw_vret (S := Unit) (G := G) (Wd := fun _ : Unit => (lzX x q S ++ lzL G (q 12) 9 (arrW cs (csN P (hasI set) (hasI wb) 8)))) () hx hb hr hlk dX3_spreadCases_126 hS (by rw [hk3] at hP; exact hP) (trivial)
      · skip
        have c_22' := Int32.not_le.mp c_22
        have hk2 : k < 8 := lz_lt (N := 8) rfl c_22 (by omega) (by omega)
        refine lv_iload_n hx hb dX3_spreadCases_25 rfl (lv_at hl 2 rfl) ?_
        refine lv_iload hx hb dX3_spreadCases_26 (lv_at hl 0 rfl) ?_
        refine lv_ishr hx hb dX3_spreadCases_28 ?_
        refine lv_iconst (v := 1) hx hb dX3_spreadCases_29 (by decide) ?_
        refine lv_iand hx hb dX3_spreadCases_30 ?_
        refine lv_iconst (v := 1) hx hb dX3_spreadCases_31 (by decide) ?_
        refine lv_icmp_ne (tgt := 120) hx hb dX3_spreadCases_32 (by decide) (fun c_32 => ?_) (fun c_32 => ?_)
        · skip
          have hs9 : hasI set k = false := decide_eq_false c_32
          refine lv_iinc (v := nI (k + 1)) (lv' := [(4, .int (nI (k + 1))), (0, .ref x), (1, .int set), (2, .int wb), (3, .int (nI P))]) hx hb dX3_spreadCases_120 hl (k := 0) rfl (nI_1 _) (by decide) rfl (fun ls hl => ?_)
          refine lv_goto (tgt := 18) hx hb dX3_spreadCases_123 (by decide) ?_
          have hE_3 : arrW cs (csN P (hasI set) (hasI wb) k) = arrW cs (csN P (hasI set) (hasI wb) (k + 1)) := by first | rw [← cs_f hs9] | (rw [ht0, midW_0 (by rw [midW_at (by decide) (Nat.zero_le _)]; exact wy_0 (odd_le hPt _)), cs_t hs9])
          replace hP : va_P G.1 lzC (lzX x q S ++ lzL G (q 12) 9 (arrW cs (csN P (hasI set) (hasI wb) (k + 1)))) H := by rw [← hE_3]; exact hP
          replace hD : va_D A (lzX x q S ++ lzL G (q 12) 9 (arrW cs (csN P (hasI set) (hasI wb) (k + 1)))) := by rw [← hE_3]; exact hD
          exact ih_18 (k + 1) (by omega) (by omega) _ _ hP hD hS _ (lv_sub hl [0, 1, 2, 3, 4] rfl)
        · skip
          have hs9 : hasI set k = true := decide_eq_true c_32
          refine lv_iload_n hx hb dX3_spreadCases_35 rfl (lv_at hl 3 rfl) ?_
          refine lv_iload hx hb dX3_spreadCases_36 (lv_at hl 0 rfl) ?_
          refine lv_ishr hx hb dX3_spreadCases_38 ?_
          refine lv_iconst (v := 1) hx hb dX3_spreadCases_39 (by decide) ?_
          refine lv_iand hx hb dX3_spreadCases_40 ?_
          refine lv_iconst (v := 1) hx hb dX3_spreadCases_41 (by decide) ?_
          refine lv_icmp_ne (tgt := 52) hx hb dX3_spreadCases_42 (by decide) (fun c_42 => ?_) (fun c_42 => ?_)
          · skip
            refine lv_iload_n hx hb dX3_spreadCases_52 rfl (lv_at hl 4 rfl) ?_
            refine lz_top (y := nI (odd P (hasI wb k))) (by first | (rw [show (10 : Int32) = nI 10 from rfl, pk_sub hPt]; simp [odd, hasI, c_42]) | simp [odd, hasI, c_42]) ?_
            refine lv_istore (lv' := [(5, .int (nI (odd P (hasI wb k)))), (4, .int (nI k)), (0, .ref x), (1, .int set), (2, .int wb), (3, .int (nI P))]) hx hb dX3_spreadCases_53 hl (by decide) rfl (fun ls hl => ?_)
            refine lv_bipush (v := 8) hx hb dX3_spreadCases_55 (by decide) ?_
            refine lv_istore (lv' := [(6, .int 8), (5, .int (nI (odd P (hasI wb k)))), (4, .int (nI k)), (0, .ref x), (1, .int set), (2, .int wb), (3, .int (nI P))]) hx hb dX3_spreadCases_57 hl (by decide) rfl (fun ls hl => ?_)
            have J_59 : ∀ (n9 : Nat), ∀ (t : Nat), (t ≤ 8) → t < n9 → ∀ (H : Heap) (locs : List Loc), va_P G.1 lzC (lzX x q S ++ lzL G (q 12) 9 (midW cs (odd P (hasI wb k)) (csN P (hasI set) (hasI wb) k) t)) H → va_D A (lzX x q S ++ lzL G (q 12) 9 (midW cs (odd P (hasI wb k)) (csN P (hasI set) (hasI wb) k) t)) → va_S A ss.heap H locs → ∀ ls : Array Slot, lv_has ls 7 [(6, .int (nI t)), (5, .int (nI (odd P (hasI wb k)))), (4, .int (nI k)), (0, .ref x), (1, .int set), (2, .int wb), (3, .int (nI P))] → W pp l ee ({ frames := 1, cells := 0, slots := 0, locals := 24 }) ss mm ([.ref x, .int set, .int wb, .int (nI P)] : List Value).toArray bl me cd H locs 0 0 (MQ bl (va_Qv (S := Unit) (fun _ : Unit => True) (rwB G (fun _ : Unit => (lzX x q S ++ lzL G (q 12) 9 (arrW cs (csN P (hasI set) (hasI wb) 8))))) A) ([.ref x, .int set, .int wb, .int (nI P)] : List Value).toArray ss 0 0 A) (F0 mm 59 ls []) := by
              intro n9
              induction n9 with
              | zero => intro t ht8 hn; exact absurd hn (Nat.not_lt_zero _)
              | succ n9 ih_59 =>
                intro t ht8 hn_59 H locs hP hD hS ls hl
                refine lv_iload hx hb dX3_spreadCases_59 (lv_at hl 0 rfl) ?_
                refine lv_if_le (tgt := 105) hx hb dX3_spreadCases_61 (by decide) (fun c_61 => ?_) (fun c_61 => ?_)
                · skip
                  have c_61' := Int32.not_lt.mpr c_61
                  have ht0 : t = 0 := by have h9 := (nI_leI (b := 0) (by omega) (by decide)).mp c_61; omega
                  refine lv_aload_n hx hb dX3_spreadCases_105 rfl (lv_at hl 3 rfl) ?_
                  refine lz_get (G := G) (ci := 3) (v := .ref (q 12)) (C := RX3) (T := TX3) (N := 13) hx hb hu_wsX30 (fun _ h9 => h9) hown hK hP 0 rfl rfl 12 (by decide) hw1 rfl rfl dX3_spreadCases_106 ?_
                  refine lv_iconst (v := 0) hx hb dX3_spreadCases_109 (by decide) ?_
                  refine lv_dup2_11 hx hb dX3_spreadCases_110 rfl rfl ?_
                  refine lz_lald (f := midW cs (odd P (hasI wb k)) (csN P (hasI set) (hasI wb) k) t) hx hb hK hP 1 rfl 0 (by omega) (Nat.le_of_ble_eq_true rfl) dX3_spreadCases_111 ?_
                  refine lv_bipush (v := 10) hx hb dX3_spreadCases_112 (by decide) ?_
                  refine lv_iload hx hb dX3_spreadCases_114 (lv_at hl 1 rfl) ?_
                  refine lv_isub hx hb dX3_spreadCases_116 ?_
                  refine lv_i2l hx hb dX3_spreadCases_117 rfl ?_
                  refine lv_lmul hx hb dX3_spreadCases_118 ?_
                  refine lz_last (f := midW cs (odd P (hasI wb k)) (csN P (hasI set) (hasI wb) k) t) hx hb hK hP hD hS 1 rfl 0 (by omega) (Nat.le_of_ble_eq_true rfl) dX3_spreadCases_119 (lzX x q S ++ lzL G (q 12) 9 (vp_updL (midW cs (odd P (hasI wb k)) (csN P (hasI set) (hasI wb) k) t) 0 (((midW cs (odd P (hasI wb k)) (csN P (hasI set) (hasI wb) k) t) 0) * ((10 - (nI (odd P (hasI wb k)))).toInt64)))) rfl (fun H locs hP hD hS => ?_)
                  refine lv_iinc (v := nI (k + 1)) (lv' := [(4, .int (nI (k + 1))), (6, .int (nI t)), (5, .int (nI (odd P (hasI wb k)))), (0, .ref x), (1, .int set), (2, .int wb), (3, .int (nI P))]) hx hb dX3_spreadCases_120 hl (k := 2) rfl (nI_1 _) (by decide) rfl (fun ls hl => ?_)
                  refine lv_goto (tgt := 18) hx hb dX3_spreadCases_123 (by decide) ?_
                  have hE_4 : vp_updL (midW cs (odd P (hasI wb k)) (csN P (hasI set) (hasI wb) k) t) 0 (((midW cs (odd P (hasI wb k)) (csN P (hasI set) (hasI wb) k) t) 0) * ((10 - (nI (odd P (hasI wb k)))).toInt64)) = arrW cs (csN P (hasI set) (hasI wb) (k + 1)) := by first | rw [← cs_f hs9] | (rw [ht0, midW_0 (by rw [midW_at (by decide) (Nat.zero_le _)]; exact wy_0 (odd_le hPt _)), cs_t hs9])
                  replace hP : va_P G.1 lzC (lzX x q S ++ lzL G (q 12) 9 (arrW cs (csN P (hasI set) (hasI wb) (k + 1)))) H := by rw [← hE_4]; exact hP
                  replace hD : va_D A (lzX x q S ++ lzL G (q 12) 9 (arrW cs (csN P (hasI set) (hasI wb) (k + 1)))) := by rw [← hE_4]; exact hD
                  exact ih_18 (k + 1) (by omega) (by omega) _ _ hP hD hS _ (lv_sub hl [0, 3, 4, 5, 6] rfl)
                · skip
                  have c_61' := Int32.not_le.mp c_61
                  have ht1 : 1 ≤ t := (nI_ltI (a := 0) (by decide) (by omega)).mp c_61'
                  refine lv_aload_n hx hb dX3_spreadCases_64 rfl (lv_at hl 3 rfl) ?_
                  refine lz_get (G := G) (ci := 3) (v := .ref (q 12)) (C := RX3) (T := TX3) (N := 13) hx hb hu_wsX30 (fun _ h9 => h9) hown hK hP 0 rfl rfl 12 (by decide) hw1 rfl rfl dX3_spreadCases_65 ?_
                  refine lv_iload hx hb dX3_spreadCases_68 (lv_at hl 0 rfl) ?_
                  refine lv_aload_n hx hb dX3_spreadCases_70 rfl (lv_at hl 3 rfl) ?_
                  refine lz_get (G := G) (ci := 3) (v := .ref (q 12)) (C := RX3) (T := TX3) (N := 13) hx hb hu_wsX30 (fun _ h9 => h9) hown hK hP 0 rfl rfl 12 (by decide) hw1 rfl rfl dX3_spreadCases_71 ?_
                  refine lv_iload hx hb dX3_spreadCases_74 (lv_at hl 0 rfl) ?_
                  refine lz_lald (f := midW cs (odd P (hasI wb k)) (csN P (hasI set) (hasI wb) k) t) hx hb hK hP 1 rfl t (by omega) (Nat.le_of_ble_eq_true rfl) dX3_spreadCases_76 ?_
                  refine lv_bipush (v := 10) hx hb dX3_spreadCases_77 (by decide) ?_
                  refine lv_iload hx hb dX3_spreadCases_79 (lv_at hl 1 rfl) ?_
                  refine lv_isub hx hb dX3_spreadCases_81 ?_
                  refine lv_i2l hx hb dX3_spreadCases_82 rfl ?_
                  refine lv_lmul hx hb dX3_spreadCases_83 ?_
                  refine lv_aload_n hx hb dX3_spreadCases_84 rfl (lv_at hl 3 rfl) ?_
                  refine lz_get (G := G) (ci := 3) (v := .ref (q 12)) (C := RX3) (T := TX3) (N := 13) hx hb hu_wsX30 (fun _ h9 => h9) hown hK hP 0 rfl rfl 12 (by decide) hw1 rfl rfl dX3_spreadCases_85 ?_
                  refine lv_iload hx hb dX3_spreadCases_88 (lv_at hl 0 rfl) ?_
                  refine lv_iconst (v := 1) hx hb dX3_spreadCases_90 (by decide) ?_
                  refine lv_isub hx hb dX3_spreadCases_91 ?_
                  refine lz_top (y := nI (t - 1)) (pk_sub (b := 1) ht1) ?_
                  refine lz_lald (f := midW cs (odd P (hasI wb k)) (csN P (hasI set) (hasI wb) k) t) hx hb hK hP 1 rfl (t - 1) (by omega) (Nat.le_of_ble_eq_true rfl) dX3_spreadCases_92 ?_
                  refine lv_iload hx hb dX3_spreadCases_93 (lv_at hl 1 rfl) ?_
                  refine lv_i2l hx hb dX3_spreadCases_95 rfl ?_
                  refine lv_lmul hx hb dX3_spreadCases_96 ?_
                  refine lv_ladd hx hb dX3_spreadCases_97 ?_
                  refine lz_last (f := midW cs (odd P (hasI wb k)) (csN P (hasI set) (hasI wb) k) t) hx hb hK hP hD hS 1 rfl t (by omega) (Nat.le_of_ble_eq_true rfl) dX3_spreadCases_98 (lzX x q S ++ lzL G (q 12) 9 (vp_updL (midW cs (odd P (hasI wb k)) (csN P (hasI set) (hasI wb) k) t) t ((((midW cs (odd P (hasI wb k)) (csN P (hasI set) (hasI wb) k) t) t) * ((10 - (nI (odd P (hasI wb k)))).toInt64)) + (((midW cs (odd P (hasI wb k)) (csN P (hasI set) (hasI wb) k) t) (t - 1)) * ((nI (odd P (hasI wb k))).toInt64))))) rfl (fun H locs hP hD hS => ?_)
                  obtain ⟨x_5, ex_5⟩ : ∃ y : Int32, y = (nI t) + (-1) := ⟨_, rfl⟩
                  refine lv_iinc (v := x_5) (lv' := [(6, .int x_5), (5, .int (nI (odd P (hasI wb k)))), (4, .int (nI k)), (0, .ref x), (1, .int set), (2, .int wb), (3, .int (nI P))]) hx hb dX3_spreadCases_99 hl (k := 0) rfl (by rw [ex_5]; rfl) (by decide) rfl (fun ls hl => ?_)
                  refine lv_goto (tgt := 59) hx hb dX3_spreadCases_102 (by decide) ?_
                  obtain rfl : x_5 = nI (t - 1) := by rw [ex_5]; exact dn_dec ht1
                  have hE_6 : vp_updL (midW cs (odd P (hasI wb k)) (csN P (hasI set) (hasI wb) k) t) t ((((midW cs (odd P (hasI wb k)) (csN P (hasI set) (hasI wb) k) t) t) * ((10 - (nI (odd P (hasI wb k)))).toInt64)) + (((midW cs (odd P (hasI wb k)) (csN P (hasI set) (hasI wb) k) t) (t - 1)) * ((nI (odd P (hasI wb k))).toInt64))) = midW cs (odd P (hasI wb k)) (csN P (hasI set) (hasI wb) k) (t - 1) := midW_s ht1 ht8 (by rw [midW_at (by omega) (Nat.le_refl _), midW_at (by omega) (Nat.sub_le _ _)]; exact wy_at (odd_le hPt _) ht1)
                  replace hP : va_P G.1 lzC (lzX x q S ++ lzL G (q 12) 9 (midW cs (odd P (hasI wb k)) (csN P (hasI set) (hasI wb) k) (t - 1))) H := by rw [← hE_6]; exact hP
                  replace hD : va_D A (lzX x q S ++ lzL G (q 12) 9 (midW cs (odd P (hasI wb k)) (csN P (hasI set) (hasI wb) k) (t - 1))) := by rw [← hE_6]; exact hD
                  exact ih_59 (t - 1) (by omega) (by omega) _ _ hP hD hS _ (lv_sub hl [0, 1, 2, 3, 4, 5, 6] rfl)
            have hE_7 : arrW cs (csN P (hasI set) (hasI wb) k) = midW cs (odd P (hasI wb k)) (csN P (hasI set) (hasI wb) k) 8 := (midW_8 _ _ _).symm
            replace hP : va_P G.1 lzC (lzX x q S ++ lzL G (q 12) 9 (midW cs (odd P (hasI wb k)) (csN P (hasI set) (hasI wb) k) 8)) H := by rw [← hE_7]; exact hP
            replace hD : va_D A (lzX x q S ++ lzL G (q 12) 9 (midW cs (odd P (hasI wb k)) (csN P (hasI set) (hasI wb) k) 8)) := by rw [← hE_7]; exact hD
            exact J_59 _ 8 (by omega) (Nat.lt_succ_self _) _ _ hP hD hS _ (lv_sub hl [0, 1, 2, 3, 4, 5, 6] rfl)
          · skip
            refine lv_bipush (v := 10) hx hb dX3_spreadCases_45 (by decide) ?_
            refine lv_iload_n hx hb dX3_spreadCases_47 rfl (lv_at hl 4 rfl) ?_
            refine lv_isub hx hb dX3_spreadCases_48 ?_
            refine lv_goto (tgt := 53) hx hb dX3_spreadCases_49 (by decide) ?_
            refine lz_top (y := nI (odd P (hasI wb k))) (by first | (rw [show (10 : Int32) = nI 10 from rfl, pk_sub hPt]; simp [odd, hasI, c_42]) | simp [odd, hasI, c_42]) ?_
            refine lv_istore (lv' := [(5, .int (nI (odd P (hasI wb k)))), (4, .int (nI k)), (0, .ref x), (1, .int set), (2, .int wb), (3, .int (nI P))]) hx hb dX3_spreadCases_53 hl (by decide) rfl (fun ls hl => ?_)
            refine lv_bipush (v := 8) hx hb dX3_spreadCases_55 (by decide) ?_
            refine lv_istore (lv' := [(6, .int 8), (5, .int (nI (odd P (hasI wb k)))), (4, .int (nI k)), (0, .ref x), (1, .int set), (2, .int wb), (3, .int (nI P))]) hx hb dX3_spreadCases_57 hl (by decide) rfl (fun ls hl => ?_)
            have J_59 : ∀ (n9 : Nat), ∀ (t : Nat), (t ≤ 8) → t < n9 → ∀ (H : Heap) (locs : List Loc), va_P G.1 lzC (lzX x q S ++ lzL G (q 12) 9 (midW cs (odd P (hasI wb k)) (csN P (hasI set) (hasI wb) k) t)) H → va_D A (lzX x q S ++ lzL G (q 12) 9 (midW cs (odd P (hasI wb k)) (csN P (hasI set) (hasI wb) k) t)) → va_S A ss.heap H locs → ∀ ls : Array Slot, lv_has ls 7 [(6, .int (nI t)), (5, .int (nI (odd P (hasI wb k)))), (4, .int (nI k)), (0, .ref x), (1, .int set), (2, .int wb), (3, .int (nI P))] → W pp l ee ({ frames := 1, cells := 0, slots := 0, locals := 24 }) ss mm ([.ref x, .int set, .int wb, .int (nI P)] : List Value).toArray bl me cd H locs 0 0 (MQ bl (va_Qv (S := Unit) (fun _ : Unit => True) (rwB G (fun _ : Unit => (lzX x q S ++ lzL G (q 12) 9 (arrW cs (csN P (hasI set) (hasI wb) 8))))) A) ([.ref x, .int set, .int wb, .int (nI P)] : List Value).toArray ss 0 0 A) (F0 mm 59 ls []) := by
              intro n9
              induction n9 with
              | zero => intro t ht8 hn; exact absurd hn (Nat.not_lt_zero _)
              | succ n9 ih_59 =>
                intro t ht8 hn_59 H locs hP hD hS ls hl
                refine lv_iload hx hb dX3_spreadCases_59 (lv_at hl 0 rfl) ?_
                refine lv_if_le (tgt := 105) hx hb dX3_spreadCases_61 (by decide) (fun c_61 => ?_) (fun c_61 => ?_)
                · skip
                  have c_61' := Int32.not_lt.mpr c_61
                  have ht0 : t = 0 := by have h9 := (nI_leI (b := 0) (by omega) (by decide)).mp c_61; omega
                  refine lv_aload_n hx hb dX3_spreadCases_105 rfl (lv_at hl 3 rfl) ?_
                  refine lz_get (G := G) (ci := 3) (v := .ref (q 12)) (C := RX3) (T := TX3) (N := 13) hx hb hu_wsX30 (fun _ h9 => h9) hown hK hP 0 rfl rfl 12 (by decide) hw1 rfl rfl dX3_spreadCases_106 ?_
                  refine lv_iconst (v := 0) hx hb dX3_spreadCases_109 (by decide) ?_
                  refine lv_dup2_11 hx hb dX3_spreadCases_110 rfl rfl ?_
                  refine lz_lald (f := midW cs (odd P (hasI wb k)) (csN P (hasI set) (hasI wb) k) t) hx hb hK hP 1 rfl 0 (by omega) (Nat.le_of_ble_eq_true rfl) dX3_spreadCases_111 ?_
                  refine lv_bipush (v := 10) hx hb dX3_spreadCases_112 (by decide) ?_
                  refine lv_iload hx hb dX3_spreadCases_114 (lv_at hl 1 rfl) ?_
                  refine lv_isub hx hb dX3_spreadCases_116 ?_
                  refine lv_i2l hx hb dX3_spreadCases_117 rfl ?_
                  refine lv_lmul hx hb dX3_spreadCases_118 ?_
                  refine lz_last (f := midW cs (odd P (hasI wb k)) (csN P (hasI set) (hasI wb) k) t) hx hb hK hP hD hS 1 rfl 0 (by omega) (Nat.le_of_ble_eq_true rfl) dX3_spreadCases_119 (lzX x q S ++ lzL G (q 12) 9 (vp_updL (midW cs (odd P (hasI wb k)) (csN P (hasI set) (hasI wb) k) t) 0 (((midW cs (odd P (hasI wb k)) (csN P (hasI set) (hasI wb) k) t) 0) * ((10 - (nI (odd P (hasI wb k)))).toInt64)))) rfl (fun H locs hP hD hS => ?_)
                  refine lv_iinc (v := nI (k + 1)) (lv' := [(4, .int (nI (k + 1))), (6, .int (nI t)), (5, .int (nI (odd P (hasI wb k)))), (0, .ref x), (1, .int set), (2, .int wb), (3, .int (nI P))]) hx hb dX3_spreadCases_120 hl (k := 2) rfl (nI_1 _) (by decide) rfl (fun ls hl => ?_)
                  refine lv_goto (tgt := 18) hx hb dX3_spreadCases_123 (by decide) ?_
                  have hE_8 : vp_updL (midW cs (odd P (hasI wb k)) (csN P (hasI set) (hasI wb) k) t) 0 (((midW cs (odd P (hasI wb k)) (csN P (hasI set) (hasI wb) k) t) 0) * ((10 - (nI (odd P (hasI wb k)))).toInt64)) = arrW cs (csN P (hasI set) (hasI wb) (k + 1)) := by first | rw [← cs_f hs9] | (rw [ht0, midW_0 (by rw [midW_at (by decide) (Nat.zero_le _)]; exact wy_0 (odd_le hPt _)), cs_t hs9])
                  replace hP : va_P G.1 lzC (lzX x q S ++ lzL G (q 12) 9 (arrW cs (csN P (hasI set) (hasI wb) (k + 1)))) H := by rw [← hE_8]; exact hP
                  replace hD : va_D A (lzX x q S ++ lzL G (q 12) 9 (arrW cs (csN P (hasI set) (hasI wb) (k + 1)))) := by rw [← hE_8]; exact hD
                  exact ih_18 (k + 1) (by omega) (by omega) _ _ hP hD hS _ (lv_sub hl [0, 3, 4, 5, 6] rfl)
                · skip
                  have c_61' := Int32.not_le.mp c_61
                  have ht1 : 1 ≤ t := (nI_ltI (a := 0) (by decide) (by omega)).mp c_61'
                  refine lv_aload_n hx hb dX3_spreadCases_64 rfl (lv_at hl 3 rfl) ?_
                  refine lz_get (G := G) (ci := 3) (v := .ref (q 12)) (C := RX3) (T := TX3) (N := 13) hx hb hu_wsX30 (fun _ h9 => h9) hown hK hP 0 rfl rfl 12 (by decide) hw1 rfl rfl dX3_spreadCases_65 ?_
                  refine lv_iload hx hb dX3_spreadCases_68 (lv_at hl 0 rfl) ?_
                  refine lv_aload_n hx hb dX3_spreadCases_70 rfl (lv_at hl 3 rfl) ?_
                  refine lz_get (G := G) (ci := 3) (v := .ref (q 12)) (C := RX3) (T := TX3) (N := 13) hx hb hu_wsX30 (fun _ h9 => h9) hown hK hP 0 rfl rfl 12 (by decide) hw1 rfl rfl dX3_spreadCases_71 ?_
                  refine lv_iload hx hb dX3_spreadCases_74 (lv_at hl 0 rfl) ?_
                  refine lz_lald (f := midW cs (odd P (hasI wb k)) (csN P (hasI set) (hasI wb) k) t) hx hb hK hP 1 rfl t (by omega) (Nat.le_of_ble_eq_true rfl) dX3_spreadCases_76 ?_
                  refine lv_bipush (v := 10) hx hb dX3_spreadCases_77 (by decide) ?_
                  refine lv_iload hx hb dX3_spreadCases_79 (lv_at hl 1 rfl) ?_
                  refine lv_isub hx hb dX3_spreadCases_81 ?_
                  refine lv_i2l hx hb dX3_spreadCases_82 rfl ?_
                  refine lv_lmul hx hb dX3_spreadCases_83 ?_
                  refine lv_aload_n hx hb dX3_spreadCases_84 rfl (lv_at hl 3 rfl) ?_
                  refine lz_get (G := G) (ci := 3) (v := .ref (q 12)) (C := RX3) (T := TX3) (N := 13) hx hb hu_wsX30 (fun _ h9 => h9) hown hK hP 0 rfl rfl 12 (by decide) hw1 rfl rfl dX3_spreadCases_85 ?_
                  refine lv_iload hx hb dX3_spreadCases_88 (lv_at hl 0 rfl) ?_
                  refine lv_iconst (v := 1) hx hb dX3_spreadCases_90 (by decide) ?_
                  refine lv_isub hx hb dX3_spreadCases_91 ?_
                  refine lz_top (y := nI (t - 1)) (pk_sub (b := 1) ht1) ?_
                  refine lz_lald (f := midW cs (odd P (hasI wb k)) (csN P (hasI set) (hasI wb) k) t) hx hb hK hP 1 rfl (t - 1) (by omega) (Nat.le_of_ble_eq_true rfl) dX3_spreadCases_92 ?_
                  refine lv_iload hx hb dX3_spreadCases_93 (lv_at hl 1 rfl) ?_
                  refine lv_i2l hx hb dX3_spreadCases_95 rfl ?_
                  refine lv_lmul hx hb dX3_spreadCases_96 ?_
                  refine lv_ladd hx hb dX3_spreadCases_97 ?_
                  refine lz_last (f := midW cs (odd P (hasI wb k)) (csN P (hasI set) (hasI wb) k) t) hx hb hK hP hD hS 1 rfl t (by omega) (Nat.le_of_ble_eq_true rfl) dX3_spreadCases_98 (lzX x q S ++ lzL G (q 12) 9 (vp_updL (midW cs (odd P (hasI wb k)) (csN P (hasI set) (hasI wb) k) t) t ((((midW cs (odd P (hasI wb k)) (csN P (hasI set) (hasI wb) k) t) t) * ((10 - (nI (odd P (hasI wb k)))).toInt64)) + (((midW cs (odd P (hasI wb k)) (csN P (hasI set) (hasI wb) k) t) (t - 1)) * ((nI (odd P (hasI wb k))).toInt64))))) rfl (fun H locs hP hD hS => ?_)
                  obtain ⟨x_9, ex_9⟩ : ∃ y : Int32, y = (nI t) + (-1) := ⟨_, rfl⟩
                  refine lv_iinc (v := x_9) (lv' := [(6, .int x_9), (5, .int (nI (odd P (hasI wb k)))), (4, .int (nI k)), (0, .ref x), (1, .int set), (2, .int wb), (3, .int (nI P))]) hx hb dX3_spreadCases_99 hl (k := 0) rfl (by rw [ex_9]; rfl) (by decide) rfl (fun ls hl => ?_)
                  refine lv_goto (tgt := 59) hx hb dX3_spreadCases_102 (by decide) ?_
                  obtain rfl : x_9 = nI (t - 1) := by rw [ex_9]; exact dn_dec ht1
                  have hE_10 : vp_updL (midW cs (odd P (hasI wb k)) (csN P (hasI set) (hasI wb) k) t) t ((((midW cs (odd P (hasI wb k)) (csN P (hasI set) (hasI wb) k) t) t) * ((10 - (nI (odd P (hasI wb k)))).toInt64)) + (((midW cs (odd P (hasI wb k)) (csN P (hasI set) (hasI wb) k) t) (t - 1)) * ((nI (odd P (hasI wb k))).toInt64))) = midW cs (odd P (hasI wb k)) (csN P (hasI set) (hasI wb) k) (t - 1) := midW_s ht1 ht8 (by rw [midW_at (by omega) (Nat.le_refl _), midW_at (by omega) (Nat.sub_le _ _)]; exact wy_at (odd_le hPt _) ht1)
                  replace hP : va_P G.1 lzC (lzX x q S ++ lzL G (q 12) 9 (midW cs (odd P (hasI wb k)) (csN P (hasI set) (hasI wb) k) (t - 1))) H := by rw [← hE_10]; exact hP
                  replace hD : va_D A (lzX x q S ++ lzL G (q 12) 9 (midW cs (odd P (hasI wb k)) (csN P (hasI set) (hasI wb) k) (t - 1))) := by rw [← hE_10]; exact hD
                  exact ih_59 (t - 1) (by omega) (by omega) _ _ hP hD hS _ (lv_sub hl [0, 1, 2, 3, 4, 5, 6] rfl)
            have hE_11 : arrW cs (csN P (hasI set) (hasI wb) k) = midW cs (odd P (hasI wb k)) (csN P (hasI set) (hasI wb) k) 8 := (midW_8 _ _ _).symm
            replace hP : va_P G.1 lzC (lzX x q S ++ lzL G (q 12) 9 (midW cs (odd P (hasI wb k)) (csN P (hasI set) (hasI wb) k) 8)) H := by rw [← hE_11]; exact hP
            replace hD : va_D A (lzX x q S ++ lzL G (q 12) 9 (midW cs (odd P (hasI wb k)) (csN P (hasI set) (hasI wb) k) 8)) := by rw [← hE_11]; exact hD
            exact J_59 _ 8 (by omega) (Nat.lt_succ_self _) _ _ hP hD hS _ (lv_sub hl [0, 1, 2, 3, 4, 5, 6] rfl)
  have hE_12 : vp_updL (fa_fill (fun _ => 0) cs 9) 0 1 = arrW cs (csN P (hasI set) (hasI wb) 0) := arrW_0 _ _ _ _
  replace hP : va_P G.1 lzC (lzX x q S ++ lzL G (q 12) 9 (arrW cs (csN P (hasI set) (hasI wb) 0))) H := by rw [← hE_12]; exact hP
  replace hD : va_D A (lzX x q S ++ lzL G (q 12) 9 (arrW cs (csN P (hasI set) (hasI wb) 0))) := by rw [← hE_12]; exact hD
  exact J_18 _ 0 (by omega) (Nat.lt_succ_self _) _ _ hP hD hS _ (lv_sub hl [0, 1, 2, 3, 4] rfl)
