set_option maxHeartbeats 4000000 in
set_option maxRecDepth 100000 in
theorem c_X4_copy_bad (l : Launch) (G : lzG) (m : Nat) (q : Nat → Nat) (S : Nat → Int32) (ln mn g : Nat → Int32) (a i b j n : Int32) (hbad : (inR a 0 7 && inR b 0 7) = false) : Met l yX4_copy wsX4_copy ({ frames := 2, cells := 0, slots := 0, locals := 45 }) (va_Pc [.ref m, .int a, .int i, .int b, .int j, .int n] (rwP G (lzM m q S ++ (lzI G (q 2) 8 ln ++ (lzI G (q 3) 8 mn ++ (lzI G (q 4) 320 g)))))) (va_Qi (S := Unit) (fun (r : Int32) (_ : Unit) => r = -1000001) (rwB G (fun _ : Unit => (lzM m q (upd S 0 0) ++ (lzI G (q 2) 8 ln ++ (lzI G (q 3) 8 mn ++ (lzI G (q 4) 320 g)))))) (lzA (lzM m q S ++ (lzI G (q 2) 8 ln ++ (lzI G (q 3) 8 mn ++ (lzI G (q 4) 320 g)))))) 0 0 (lzA (lzM m q S ++ (lzI G (q 2) 8 ln ++ (lzI G (q 3) 8 mn ++ (lzI G (q 4) 320 g))))) := by
  refine rw_start (S := Unit) (cc := cX4_copy) (maxL := 9) (ret := (some .int)) (by decide) rfl (Nat.le_of_ble_eq_true rfl) ?_
  intro pp ee ss mm bl me cd A hx hb hr hlk hml hts hown hP hK hD hAe hS ls hl
  have hA0 : ∀ zz : Nat, lzA (lzM m q S ++ (lzI G (q 2) 8 ln ++ (lzI G (q 3) 8 mn ++ (lzI G (q 4) 320 g)))) zz → A zz := fun zz h9 => by rw [hAe]; exact h9
  rw [← hAe]
  clear hAe
  have hown : ss.vm.findClass RX4 = some mm.cls := hown
  have hw1 := hts (.fieldLink RX4 48 "LampSquaresModel" "thrown" "I") (List.mem_of_getElem? (i := 1) rfl)
  have hw2 := hts (.constant RX4 68 (-1000001)) (List.mem_of_getElem? (i := 2) rfl)
  have hu_wsX40 : ∀ w ∈ wsX40, w.before ([.ref m, .int a, .int i, .int b, .int j, .int n] : List Value).toArray ss = true := fun w h9 => hts w (List.mem_cons_of_mem _ (List.mem_append_right _ h9))
  have hl : lv_has ls 9 [(0, .ref m), (1, .int a), (2, .int i), (3, .int b), (4, .int j), (5, .int n)] := hl
  refine lv_aload_n hx hb dX4_copy_0 rfl (lv_at hl 0 rfl) ?_
  refine lv_iconst (v := 0) hx hb dX4_copy_1 (by decide) ?_
  refine lz_put (G := G) (ci := 4) (C := RX4) (T := TX4) (N := 24) hx hb hu_wsX40 (fun _ h9 => h9) tyX4 tyX4_ok nmX4 hown hK hP hD hS 0 rfl rfl 0 (by decide) hw1 rfl rfl (by decide +kernel) (Nat.le_of_ble_eq_true rfl) dX4_copy_2 (lzM m q (upd S 0 0) ++ (lzI G (q 2) 8 ln ++ (lzI G (q 3) 8 mn ++ (lzI G (q 4) 320 g)))) rfl (fun H locs hP hD hS => ?_)
  refine lv_iload_n hx hb dX4_copy_5 rfl (lv_at hl 1 rfl) ?_
  refine ro_calli (va_runS (As := [.int a]) (rest := []) ⟨hx, hb, hml, hown, hts⟩ (c_X4_isRow l G a ) (cwS 1 hts gX4_copy_X4_isRow rfl rfl rfl (by decide +kernel) ⟨Nat.le_of_ble_eq_true rfl, Nat.le_of_ble_eq_true rfl⟩) (ro_pre hK (fun k q h => by simp at h)) rfl rfl hl.1 rfl (lv_room (Nat.le_of_ble_eq_true rfl)) dX4_copy_6 ⟨Nat.zero_le _, Nat.zero_le _⟩) (fun r_1 hr_1 => ?_)
  refine lv_if_eq (tgt := 19) hx hb dX4_copy_9 (by decide) (fun c_9 => ?_) (fun c_9 => ?_)
  · skip
    have c_9 := b2_z hr_1 c_9
    refine lv_ldc hx hb hown hw2 dX4_copy_19 ?_
    exact rw_iret (S := Unit) (G := G) (Wd := fun _ : Unit => (lzM m q (upd S 0 0) ++ (lzI G (q 2) 8 ln ++ (lzI G (q 3) 8 mn ++ (lzI G (q 4) 320 g))))) () hx hb hr hlk dX4_copy_21 hS (hP) (rfl)
  · skip
    have c_9 := b2_n hr_1 c_9
    refine lv_iload_n hx hb dX4_copy_12 rfl (lv_at hl 3 rfl) ?_
    refine ro_calli (va_runS (As := [.int b]) (rest := []) ⟨hx, hb, hml, hown, hts⟩ (c_X4_isRow l G b ) (cwS 1 hts gX4_copy_X4_isRow rfl rfl rfl (by decide +kernel) ⟨Nat.le_of_ble_eq_true rfl, Nat.le_of_ble_eq_true rfl⟩) (ro_pre hK (fun k q h => by simp at h)) rfl rfl hl.1 rfl (lv_room (Nat.le_of_ble_eq_true rfl)) dX4_copy_13 ⟨Nat.zero_le _, Nat.zero_le _⟩) (fun r_2 hr_2 => ?_)
    refine lv_if_ne (tgt := 22) hx hb dX4_copy_16 (by decide) (fun c_16 => ?_) (fun c_16 => ?_)
    · skip
      have c_16 := b2_n hr_2 c_16
      exact Bool.noConfusion (hbad.symm.trans (by rw [c_9, c_16] <;> rfl))
    · skip
      have c_16 := b2_z hr_2 c_16
      refine lv_ldc hx hb hown hw2 dX4_copy_19 ?_
      exact rw_iret (S := Unit) (G := G) (Wd := fun _ : Unit => (lzM m q (upd S 0 0) ++ (lzI G (q 2) 8 ln ++ (lzI G (q 3) 8 mn ++ (lzI G (q 4) 320 g))))) () hx hb hr hlk dX4_copy_21 hS (hP) (rfl)
set_option maxHeartbeats 4000000 in
set_option maxRecDepth 100000 in
theorem c_X4_copy_null (l : Launch) (G : lzG) (m : Nat) (q : Nat → Nat) (S : Nat → Int32) (ln mn g : Nat → Int32) (ra rb : Nat) (i j n : Int32) (hra : ra < 8) (hrb : rb < 8) (hm : ¬ (0 ≤ ln ra ∧ 0 ≤ ln rb)) : Met l yX4_copy wsX4_copy ({ frames := 2, cells := 0, slots := 0, locals := 45 }) (va_Pc [.ref m, .int (nI ra), .int i, .int (nI rb), .int j, .int n] (rwP G (lzM m q S ++ (lzI G (q 2) 8 ln ++ (lzI G (q 3) 8 mn ++ (lzI G (q 4) 320 g)))))) (va_Qi (S := Unit) (fun (r : Int32) (_ : Unit) => r = -1000011) (rwB G (fun _ : Unit => (lzM m q (upd (upd S 0 0) 1 1) ++ (lzI G (q 2) 8 ln ++ (lzI G (q 3) 8 mn ++ (lzI G (q 4) 320 g)))))) (lzA (lzM m q S ++ (lzI G (q 2) 8 ln ++ (lzI G (q 3) 8 mn ++ (lzI G (q 4) 320 g)))))) 0 0 (lzA (lzM m q S ++ (lzI G (q 2) 8 ln ++ (lzI G (q 3) 8 mn ++ (lzI G (q 4) 320 g))))) := by
  have hA : inR (nI ra) 0 7 = true := inR_row hra
  have hB : inR (nI rb) 0 7 = true := inR_row hrb
  refine rw_start (S := Unit) (cc := cX4_copy) (maxL := 9) (ret := (some .int)) (by decide) rfl (Nat.le_of_ble_eq_true rfl) ?_
  intro pp ee ss mm bl me cd A hx hb hr hlk hml hts hown hP hK hD hAe hS ls hl
  have hA0 : ∀ zz : Nat, lzA (lzM m q S ++ (lzI G (q 2) 8 ln ++ (lzI G (q 3) 8 mn ++ (lzI G (q 4) 320 g)))) zz → A zz := fun zz h9 => by rw [hAe]; exact h9
  rw [← hAe]
  clear hAe
  have hown : ss.vm.findClass RX4 = some mm.cls := hown
  have hw1 := hts (.fieldLink RX4 48 "LampSquaresModel" "thrown" "I") (List.mem_of_getElem? (i := 1) rfl)
  have hw3 := hts (.fieldLink RX4 52 "LampSquaresModel" "status" "I") (List.mem_of_getElem? (i := 3) rfl)
  have hw4 := hts (.fieldLink RX4 7 "LampSquaresModel" "lane" "[I") (List.mem_of_getElem? (i := 4) rfl)
  have hu_wsX40 : ∀ w ∈ wsX40, w.before ([.ref m, .int (nI ra), .int i, .int (nI rb), .int j, .int n] : List Value).toArray ss = true := fun w h9 => hts w (List.mem_cons_of_mem _ (List.mem_append_right _ h9))
  have hl : lv_has ls 9 [(0, .ref m), (1, .int (nI ra)), (2, .int i), (3, .int (nI rb)), (4, .int j), (5, .int n)] := hl
  refine lv_aload_n hx hb dX4_copy_0 rfl (lv_at hl 0 rfl) ?_
  refine lv_iconst (v := 0) hx hb dX4_copy_1 (by decide) ?_
  refine lz_put (G := G) (ci := 4) (C := RX4) (T := TX4) (N := 24) hx hb hu_wsX40 (fun _ h9 => h9) tyX4 tyX4_ok nmX4 hown hK hP hD hS 0 rfl rfl 0 (by decide) hw1 rfl rfl (by decide +kernel) (Nat.le_of_ble_eq_true rfl) dX4_copy_2 (lzM m q (upd S 0 0) ++ (lzI G (q 2) 8 ln ++ (lzI G (q 3) 8 mn ++ (lzI G (q 4) 320 g)))) rfl (fun H locs hP hD hS => ?_)
  refine lv_iload_n hx hb dX4_copy_5 rfl (lv_at hl 1 rfl) ?_
  refine ro_calli (va_runS (As := [.int (nI ra)]) (rest := []) ⟨hx, hb, hml, hown, hts⟩ (c_X4_isRow l G (nI ra) ) (cwS 1 hts gX4_copy_X4_isRow rfl rfl rfl (by decide +kernel) ⟨Nat.le_of_ble_eq_true rfl, Nat.le_of_ble_eq_true rfl⟩) (ro_pre hK (fun k q h => by simp at h)) rfl rfl hl.1 rfl (lv_room (Nat.le_of_ble_eq_true rfl)) dX4_copy_6 ⟨Nat.zero_le _, Nat.zero_le _⟩) (fun r_1 hr_1 => ?_)
  refine lv_if_eq (tgt := 19) hx hb dX4_copy_9 (by decide) (fun c_9 => ?_) (fun c_9 => ?_)
  · skip
    have c_9 := b2_z hr_1 c_9
    exact Bool.noConfusion (hA.symm.trans c_9)
  · skip
    have c_9 := b2_n hr_1 c_9
    refine lv_iload_n hx hb dX4_copy_12 rfl (lv_at hl 3 rfl) ?_
    refine ro_calli (va_runS (As := [.int (nI rb)]) (rest := []) ⟨hx, hb, hml, hown, hts⟩ (c_X4_isRow l G (nI rb) ) (cwS 1 hts gX4_copy_X4_isRow rfl rfl rfl (by decide +kernel) ⟨Nat.le_of_ble_eq_true rfl, Nat.le_of_ble_eq_true rfl⟩) (ro_pre hK (fun k q h => by simp at h)) rfl rfl hl.1 rfl (lv_room (Nat.le_of_ble_eq_true rfl)) dX4_copy_13 ⟨Nat.zero_le _, Nat.zero_le _⟩) (fun r_2 hr_2 => ?_)
    refine lv_if_ne (tgt := 22) hx hb dX4_copy_16 (by decide) (fun c_16 => ?_) (fun c_16 => ?_)
    · skip
      have c_16 := b2_n hr_2 c_16
      refine lv_aload_n hx hb dX4_copy_22 rfl (lv_at hl 0 rfl) ?_
      refine lv_iconst (v := 0) hx hb dX4_copy_23 (by decide) ?_
      refine lz_put (G := G) (ci := 4) (C := RX4) (T := TX4) (N := 24) hx hb hu_wsX40 (fun _ h9 => h9) tyX4 tyX4_ok nmX4 hown hK hP hD hS 0 rfl rfl 1 (by decide) hw3 rfl rfl (by decide +kernel) (Nat.le_of_ble_eq_true rfl) dX4_copy_24 (lzM m q (upd (upd S 0 0) 1 0) ++ (lzI G (q 2) 8 ln ++ (lzI G (q 3) 8 mn ++ (lzI G (q 4) 320 g)))) rfl (fun H locs hP hD hS => ?_)
      refine lv_aload_n hx hb dX4_copy_27 rfl (lv_at hl 0 rfl) ?_
      refine lz_get (G := G) (ci := 4) (v := .ref (q 2)) (C := RX4) (T := TX4) (N := 24) hx hb hu_wsX40 (fun _ h9 => h9) hown hK hP 0 rfl rfl 2 (by decide) hw4 rfl rfl dX4_copy_28 ?_
      refine lv_iload_n hx hb dX4_copy_31 rfl (lv_at hl 1 rfl) ?_
      refine lz_iald (f := ln) hx hb hK hP 1 rfl ra (by omega) (Nat.le_of_ble_eq_true rfl) dX4_copy_32 ?_
      refine lv_if_lt (tgt := 45) hx hb dX4_copy_33 (by decide) (fun c_33 => ?_) (fun c_33 => ?_)
      · skip
        have c_33' := Int32.not_le.mpr c_33
        refine lv_aload_n hx hb dX4_copy_45 rfl (lv_at hl 0 rfl) ?_
        refine lv_iconst (v := 1) hx hb dX4_copy_46 (by decide) ?_
        have hPc := hP.sub (ws' := lzM m q (upd (upd S 0 0) 1 0)) [0] rfl
        have hDc := hD.sub (ws' := lzM m q (upd (upd S 0 0) 1 0)) [0] (by decide) rfl
        have hFc : ∀ zz : Nat, lzA (lzM m q (upd (upd S 0 0) 1 0)) zz → A zz := lz_free hD [0] rfl
        refine va_calli (va_runV (As := [.int 1]) (rest := []) ⟨hx, hb, hml, hown, hts⟩ (c_X4_finding l G m q (upd (upd S 0 0) 1 0) 1 ) (cwV 1 hts gX4_copy_X4_finding rfl rfl rfl (by decide +kernel) ⟨Nat.le_of_ble_eq_true rfl, Nat.le_of_ble_eq_true rfl⟩) (rw_preV hK hPc hDc hP (ci := 4) (q0 := 0) rfl rfl) rfl rfl hl.1 rfl (lv_room (Nat.le_of_ble_eq_true rfl)) dX4_copy_47 ⟨Nat.zero_le _, Nat.zero_le _⟩) hS (fun q _ h => hFc q h) hFc (fun r_3 u_4 t9 H1 locs ht hvm hr_3 hB hz1 hk1 hS => ?_)
        replace hB : va_P G.1 lzC _ t9.heap := hB
        rw [ht] at hB
        obtain ⟨hP, hD⟩ := lz_join (wc := lzM m q (upd (upd S 0 0) 1 0)) (wr := ([(q 2, .inl (G.2 0, 8, .inl ln)), (q 3, .inl (G.2 0, 8, .inl mn)), (q 4, .inl (G.2 0, 320, .inl g))] : va_W)) (w1 := lzM m q (upd (upd S 0 0) 1 1)) hP hD [0] [1, 2, 3] rfl rfl (by decide) (by decide) rfl hk1 hB
        replace hP := hP.sub (ws' := (lzM m q (upd (upd S 0 0) 1 1) ++ (lzI G (q 2) 8 ln ++ (lzI G (q 3) 8 mn ++ (lzI G (q 4) 320 g))))) [3, 0, 1, 2] rfl
        replace hD := hD.sub (ws' := (lzM m q (upd (upd S 0 0) 1 1) ++ (lzI G (q 2) 8 ln ++ (lzI G (q 3) 8 mn ++ (lzI G (q 4) 320 g))))) [3, 0, 1, 2] (by decide) rfl
        clear ht hvm hB hz1 hk1
        generalize H1 = H at hP hS ⊢
        refine lz_top (y := -1000010 - 1) hr_3 ?_
        exact rw_iret (S := Unit) (G := G) (Wd := fun _ : Unit => (lzM m q (upd (upd S 0 0) 1 1) ++ (lzI G (q 2) 8 ln ++ (lzI G (q 3) 8 mn ++ (lzI G (q 4) 320 g))))) () hx hb hr hlk dX4_copy_50 hS (hP) (rfl)
      · skip
        have c_33' := Int32.not_lt.mp c_33
        refine lv_aload_n hx hb dX4_copy_36 rfl (lv_at hl 0 rfl) ?_
        refine lz_get (G := G) (ci := 4) (v := .ref (q 2)) (C := RX4) (T := TX4) (N := 24) hx hb hu_wsX40 (fun _ h9 => h9) hown hK hP 0 rfl rfl 2 (by decide) hw4 rfl rfl dX4_copy_37 ?_
        refine lv_iload_n hx hb dX4_copy_40 rfl (lv_at hl 3 rfl) ?_
        refine lz_iald (f := ln) hx hb hK hP 1 rfl rb (by omega) (Nat.le_of_ble_eq_true rfl) dX4_copy_41 ?_
        refine lv_if_ge (tgt := 51) hx hb dX4_copy_42 (by decide) (fun c_42 => ?_) (fun c_42 => ?_)
        · skip
          have c_42' := Int32.not_lt.mpr c_42
          exact absurd ⟨Int32.not_lt.mp c_33, c_42⟩ hm
        · skip
          have c_42' := Int32.not_le.mp c_42
          refine lv_aload_n hx hb dX4_copy_45 rfl (lv_at hl 0 rfl) ?_
          refine lv_iconst (v := 1) hx hb dX4_copy_46 (by decide) ?_
          have hPc := hP.sub (ws' := lzM m q (upd (upd S 0 0) 1 0)) [0] rfl
          have hDc := hD.sub (ws' := lzM m q (upd (upd S 0 0) 1 0)) [0] (by decide) rfl
          have hFc : ∀ zz : Nat, lzA (lzM m q (upd (upd S 0 0) 1 0)) zz → A zz := lz_free hD [0] rfl
          refine va_calli (va_runV (As := [.int 1]) (rest := []) ⟨hx, hb, hml, hown, hts⟩ (c_X4_finding l G m q (upd (upd S 0 0) 1 0) 1 ) (cwV 1 hts gX4_copy_X4_finding rfl rfl rfl (by decide +kernel) ⟨Nat.le_of_ble_eq_true rfl, Nat.le_of_ble_eq_true rfl⟩) (rw_preV hK hPc hDc hP (ci := 4) (q0 := 0) rfl rfl) rfl rfl hl.1 rfl (lv_room (Nat.le_of_ble_eq_true rfl)) dX4_copy_47 ⟨Nat.zero_le _, Nat.zero_le _⟩) hS (fun q _ h => hFc q h) hFc (fun r_5 u_6 t9 H1 locs ht hvm hr_5 hB hz1 hk1 hS => ?_)
          replace hB : va_P G.1 lzC _ t9.heap := hB
          rw [ht] at hB
          obtain ⟨hP, hD⟩ := lz_join (wc := lzM m q (upd (upd S 0 0) 1 0)) (wr := ([(q 2, .inl (G.2 0, 8, .inl ln)), (q 3, .inl (G.2 0, 8, .inl mn)), (q 4, .inl (G.2 0, 320, .inl g))] : va_W)) (w1 := lzM m q (upd (upd S 0 0) 1 1)) hP hD [0] [1, 2, 3] rfl rfl (by decide) (by decide) rfl hk1 hB
          replace hP := hP.sub (ws' := (lzM m q (upd (upd S 0 0) 1 1) ++ (lzI G (q 2) 8 ln ++ (lzI G (q 3) 8 mn ++ (lzI G (q 4) 320 g))))) [3, 0, 1, 2] rfl
          replace hD := hD.sub (ws' := (lzM m q (upd (upd S 0 0) 1 1) ++ (lzI G (q 2) 8 ln ++ (lzI G (q 3) 8 mn ++ (lzI G (q 4) 320 g))))) [3, 0, 1, 2] (by decide) rfl
          clear ht hvm hB hz1 hk1
          generalize H1 = H at hP hS ⊢
          refine lz_top (y := -1000010 - 1) hr_5 ?_
          exact rw_iret (S := Unit) (G := G) (Wd := fun _ : Unit => (lzM m q (upd (upd S 0 0) 1 1) ++ (lzI G (q 2) 8 ln ++ (lzI G (q 3) 8 mn ++ (lzI G (q 4) 320 g))))) () hx hb hr hlk dX4_copy_50 hS (hP) (rfl)
    · skip
      have c_16 := b2_z hr_2 c_16
      exact Bool.noConfusion (hB.symm.trans c_16)
set_option maxHeartbeats 4000000 in
set_option maxRecDepth 100000 in
theorem c_X4_copy_store (l : Launch) (G : lzG) (m : Nat) (q : Nat → Nat) (S : Nat → Int32) (ln mn g : Nat → Int32) (ra rb : Nat) (i j n : Int32) (hra : ra < 8) (hrb : rb < 8) (hm1 : 0 ≤ ln ra) (hm2 : 0 ≤ ln rb) (hne : ¬ ln ra = ln rb) : Met l yX4_copy wsX4_copy ({ frames := 2, cells := 0, slots := 0, locals := 45 }) (va_Pc [.ref m, .int (nI ra), .int i, .int (nI rb), .int j, .int n] (rwP G (lzM m q S ++ (lzI G (q 2) 8 ln ++ (lzI G (q 3) 8 mn ++ (lzI G (q 4) 320 g)))))) (va_Qi (S := Unit) (fun (r : Int32) (_ : Unit) => r = -1000015) (rwB G (fun _ : Unit => (lzM m q (upd (upd S 0 0) 1 5) ++ (lzI G (q 2) 8 ln ++ (lzI G (q 3) 8 mn ++ (lzI G (q 4) 320 g)))))) (lzA (lzM m q S ++ (lzI G (q 2) 8 ln ++ (lzI G (q 3) 8 mn ++ (lzI G (q 4) 320 g)))))) 0 0 (lzA (lzM m q S ++ (lzI G (q 2) 8 ln ++ (lzI G (q 3) 8 mn ++ (lzI G (q 4) 320 g))))) := by
  have hA : inR (nI ra) 0 7 = true := inR_row hra
  have hB : inR (nI rb) 0 7 = true := inR_row hrb
  refine rw_start (S := Unit) (cc := cX4_copy) (maxL := 9) (ret := (some .int)) (by decide) rfl (Nat.le_of_ble_eq_true rfl) ?_
  intro pp ee ss mm bl me cd A hx hb hr hlk hml hts hown hP hK hD hAe hS ls hl
  have hA0 : ∀ zz : Nat, lzA (lzM m q S ++ (lzI G (q 2) 8 ln ++ (lzI G (q 3) 8 mn ++ (lzI G (q 4) 320 g)))) zz → A zz := fun zz h9 => by rw [hAe]; exact h9
  rw [← hAe]
  clear hAe
  have hown : ss.vm.findClass RX4 = some mm.cls := hown
  have hw1 := hts (.fieldLink RX4 48 "LampSquaresModel" "thrown" "I") (List.mem_of_getElem? (i := 1) rfl)
  have hw3 := hts (.fieldLink RX4 52 "LampSquaresModel" "status" "I") (List.mem_of_getElem? (i := 3) rfl)
  have hw4 := hts (.fieldLink RX4 7 "LampSquaresModel" "lane" "[I") (List.mem_of_getElem? (i := 4) rfl)
  have hu_wsX40 : ∀ w ∈ wsX40, w.before ([.ref m, .int (nI ra), .int i, .int (nI rb), .int j, .int n] : List Value).toArray ss = true := fun w h9 => hts w (List.mem_cons_of_mem _ (List.mem_append_right _ h9))
  have hl : lv_has ls 9 [(0, .ref m), (1, .int (nI ra)), (2, .int i), (3, .int (nI rb)), (4, .int j), (5, .int n)] := hl
  refine lv_aload_n hx hb dX4_copy_0 rfl (lv_at hl 0 rfl) ?_
  refine lv_iconst (v := 0) hx hb dX4_copy_1 (by decide) ?_
  refine lz_put (G := G) (ci := 4) (C := RX4) (T := TX4) (N := 24) hx hb hu_wsX40 (fun _ h9 => h9) tyX4 tyX4_ok nmX4 hown hK hP hD hS 0 rfl rfl 0 (by decide) hw1 rfl rfl (by decide +kernel) (Nat.le_of_ble_eq_true rfl) dX4_copy_2 (lzM m q (upd S 0 0) ++ (lzI G (q 2) 8 ln ++ (lzI G (q 3) 8 mn ++ (lzI G (q 4) 320 g)))) rfl (fun H locs hP hD hS => ?_)
  refine lv_iload_n hx hb dX4_copy_5 rfl (lv_at hl 1 rfl) ?_
  refine ro_calli (va_runS (As := [.int (nI ra)]) (rest := []) ⟨hx, hb, hml, hown, hts⟩ (c_X4_isRow l G (nI ra) ) (cwS 1 hts gX4_copy_X4_isRow rfl rfl rfl (by decide +kernel) ⟨Nat.le_of_ble_eq_true rfl, Nat.le_of_ble_eq_true rfl⟩) (ro_pre hK (fun k q h => by simp at h)) rfl rfl hl.1 rfl (lv_room (Nat.le_of_ble_eq_true rfl)) dX4_copy_6 ⟨Nat.zero_le _, Nat.zero_le _⟩) (fun r_1 hr_1 => ?_)
  refine lv_if_eq (tgt := 19) hx hb dX4_copy_9 (by decide) (fun c_9 => ?_) (fun c_9 => ?_)
  · skip
    have c_9 := b2_z hr_1 c_9
    exact Bool.noConfusion (hA.symm.trans c_9)
  · skip
    have c_9 := b2_n hr_1 c_9
    refine lv_iload_n hx hb dX4_copy_12 rfl (lv_at hl 3 rfl) ?_
    refine ro_calli (va_runS (As := [.int (nI rb)]) (rest := []) ⟨hx, hb, hml, hown, hts⟩ (c_X4_isRow l G (nI rb) ) (cwS 1 hts gX4_copy_X4_isRow rfl rfl rfl (by decide +kernel) ⟨Nat.le_of_ble_eq_true rfl, Nat.le_of_ble_eq_true rfl⟩) (ro_pre hK (fun k q h => by simp at h)) rfl rfl hl.1 rfl (lv_room (Nat.le_of_ble_eq_true rfl)) dX4_copy_13 ⟨Nat.zero_le _, Nat.zero_le _⟩) (fun r_2 hr_2 => ?_)
    refine lv_if_ne (tgt := 22) hx hb dX4_copy_16 (by decide) (fun c_16 => ?_) (fun c_16 => ?_)
    · skip
      have c_16 := b2_n hr_2 c_16
      refine lv_aload_n hx hb dX4_copy_22 rfl (lv_at hl 0 rfl) ?_
      refine lv_iconst (v := 0) hx hb dX4_copy_23 (by decide) ?_
      refine lz_put (G := G) (ci := 4) (C := RX4) (T := TX4) (N := 24) hx hb hu_wsX40 (fun _ h9 => h9) tyX4 tyX4_ok nmX4 hown hK hP hD hS 0 rfl rfl 1 (by decide) hw3 rfl rfl (by decide +kernel) (Nat.le_of_ble_eq_true rfl) dX4_copy_24 (lzM m q (upd (upd S 0 0) 1 0) ++ (lzI G (q 2) 8 ln ++ (lzI G (q 3) 8 mn ++ (lzI G (q 4) 320 g)))) rfl (fun H locs hP hD hS => ?_)
      refine lv_aload_n hx hb dX4_copy_27 rfl (lv_at hl 0 rfl) ?_
      refine lz_get (G := G) (ci := 4) (v := .ref (q 2)) (C := RX4) (T := TX4) (N := 24) hx hb hu_wsX40 (fun _ h9 => h9) hown hK hP 0 rfl rfl 2 (by decide) hw4 rfl rfl dX4_copy_28 ?_
      refine lv_iload_n hx hb dX4_copy_31 rfl (lv_at hl 1 rfl) ?_
      refine lz_iald (f := ln) hx hb hK hP 1 rfl ra (by omega) (Nat.le_of_ble_eq_true rfl) dX4_copy_32 ?_
      refine lv_if_lt (tgt := 45) hx hb dX4_copy_33 (by decide) (fun c_33 => ?_) (fun c_33 => ?_)
      · skip
        have c_33' := Int32.not_le.mpr c_33
        exact absurd hm1 (Int32.not_le.mpr c_33)
      · skip
        have c_33' := Int32.not_lt.mp c_33
        refine lv_aload_n hx hb dX4_copy_36 rfl (lv_at hl 0 rfl) ?_
        refine lz_get (G := G) (ci := 4) (v := .ref (q 2)) (C := RX4) (T := TX4) (N := 24) hx hb hu_wsX40 (fun _ h9 => h9) hown hK hP 0 rfl rfl 2 (by decide) hw4 rfl rfl dX4_copy_37 ?_
        refine lv_iload_n hx hb dX4_copy_40 rfl (lv_at hl 3 rfl) ?_
        refine lz_iald (f := ln) hx hb hK hP 1 rfl rb (by omega) (Nat.le_of_ble_eq_true rfl) dX4_copy_41 ?_
        refine lv_if_ge (tgt := 51) hx hb dX4_copy_42 (by decide) (fun c_42 => ?_) (fun c_42 => ?_)
        · skip
          have c_42' := Int32.not_lt.mpr c_42
          refine lv_aload_n hx hb dX4_copy_51 rfl (lv_at hl 0 rfl) ?_
          refine lz_get (G := G) (ci := 4) (v := .ref (q 2)) (C := RX4) (T := TX4) (N := 24) hx hb hu_wsX40 (fun _ h9 => h9) hown hK hP 0 rfl rfl 2 (by decide) hw4 rfl rfl dX4_copy_52 ?_
          refine lv_iload_n hx hb dX4_copy_55 rfl (lv_at hl 1 rfl) ?_
          refine lz_iald (f := ln) hx hb hK hP 1 rfl ra (by omega) (Nat.le_of_ble_eq_true rfl) dX4_copy_56 ?_
          refine lv_aload_n hx hb dX4_copy_57 rfl (lv_at hl 0 rfl) ?_
          refine lz_get (G := G) (ci := 4) (v := .ref (q 2)) (C := RX4) (T := TX4) (N := 24) hx hb hu_wsX40 (fun _ h9 => h9) hown hK hP 0 rfl rfl 2 (by decide) hw4 rfl rfl dX4_copy_58 ?_
          refine lv_iload_n hx hb dX4_copy_61 rfl (lv_at hl 3 rfl) ?_
          refine lz_iald (f := ln) hx hb hK hP 1 rfl rb (by omega) (Nat.le_of_ble_eq_true rfl) dX4_copy_62 ?_
          refine lv_icmp_eq (tgt := 72) hx hb dX4_copy_63 (by decide) (fun c_63 => ?_) (fun c_63 => ?_)
          · skip
            exact absurd c_63 hne
          · skip
            refine lv_aload_n hx hb dX4_copy_66 rfl (lv_at hl 0 rfl) ?_
            refine lv_iconst (v := 5) hx hb dX4_copy_67 (by decide) ?_
            have hPc := hP.sub (ws' := lzM m q (upd (upd S 0 0) 1 0)) [0] rfl
            have hDc := hD.sub (ws' := lzM m q (upd (upd S 0 0) 1 0)) [0] (by decide) rfl
            have hFc : ∀ zz : Nat, lzA (lzM m q (upd (upd S 0 0) 1 0)) zz → A zz := lz_free hD [0] rfl
            refine va_calli (va_runV (As := [.int 5]) (rest := []) ⟨hx, hb, hml, hown, hts⟩ (c_X4_finding l G m q (upd (upd S 0 0) 1 0) 5 ) (cwV 1 hts gX4_copy_X4_finding rfl rfl rfl (by decide +kernel) ⟨Nat.le_of_ble_eq_true rfl, Nat.le_of_ble_eq_true rfl⟩) (rw_preV hK hPc hDc hP (ci := 4) (q0 := 0) rfl rfl) rfl rfl hl.1 rfl (lv_room (Nat.le_of_ble_eq_true rfl)) dX4_copy_68 ⟨Nat.zero_le _, Nat.zero_le _⟩) hS (fun q _ h => hFc q h) hFc (fun r_3 u_4 t9 H1 locs ht hvm hr_3 hB hz1 hk1 hS => ?_)
            replace hB : va_P G.1 lzC _ t9.heap := hB
            rw [ht] at hB
            obtain ⟨hP, hD⟩ := lz_join (wc := lzM m q (upd (upd S 0 0) 1 0)) (wr := ([(q 2, .inl (G.2 0, 8, .inl ln)), (q 3, .inl (G.2 0, 8, .inl mn)), (q 4, .inl (G.2 0, 320, .inl g))] : va_W)) (w1 := lzM m q (upd (upd S 0 0) 1 5)) hP hD [0] [1, 2, 3] rfl rfl (by decide) (by decide) rfl hk1 hB
            replace hP := hP.sub (ws' := (lzM m q (upd (upd S 0 0) 1 5) ++ (lzI G (q 2) 8 ln ++ (lzI G (q 3) 8 mn ++ (lzI G (q 4) 320 g))))) [3, 0, 1, 2] rfl
            replace hD := hD.sub (ws' := (lzM m q (upd (upd S 0 0) 1 5) ++ (lzI G (q 2) 8 ln ++ (lzI G (q 3) 8 mn ++ (lzI G (q 4) 320 g))))) [3, 0, 1, 2] (by decide) rfl
            clear ht hvm hB hz1 hk1
            generalize H1 = H at hP hS ⊢
            refine lz_top (y := -1000010 - 5) hr_3 ?_
            exact rw_iret (S := Unit) (G := G) (Wd := fun _ : Unit => (lzM m q (upd (upd S 0 0) 1 5) ++ (lzI G (q 2) 8 ln ++ (lzI G (q 3) 8 mn ++ (lzI G (q 4) 320 g))))) () hx hb hr hlk dX4_copy_71 hS (hP) (rfl)
        · skip
          have c_42' := Int32.not_le.mp c_42
          exact absurd hm2 c_42
    · skip
      have c_16 := b2_z hr_2 c_16
      exact Bool.noConfusion (hB.symm.trans c_16)
set_option maxHeartbeats 4000000 in
set_option maxRecDepth 100000 in
theorem c_X4_copy_place (l : Launch) (G : lzG) (m : Nat) (q : Nat → Nat) (S : Nat → Int32) (ln mn g : Nat → Int32) (ra rb : Nat) (i j n : Int32) (hra : ra < 8) (hrb : rb < 8) (hm1 : 0 ≤ ln ra) (hm2 : 0 ≤ ln rb) (heq : ln ra = ln rb) (hp : cpyB (mn ra) (mn rb) i j n = false) : Met l yX4_copy wsX4_copy ({ frames := 2, cells := 0, slots := 0, locals := 45 }) (va_Pc [.ref m, .int (nI ra), .int i, .int (nI rb), .int j, .int n] (rwP G (lzM m q S ++ (lzI G (q 2) 8 ln ++ (lzI G (q 3) 8 mn ++ (lzI G (q 4) 320 g)))))) (va_Qi (S := Unit) (fun (r : Int32) (_ : Unit) => r = -1000012) (rwB G (fun _ : Unit => (lzM m q (upd (upd S 0 0) 1 2) ++ (lzI G (q 2) 8 ln ++ (lzI G (q 3) 8 mn ++ (lzI G (q 4) 320 g)))))) (lzA (lzM m q S ++ (lzI G (q 2) 8 ln ++ (lzI G (q 3) 8 mn ++ (lzI G (q 4) 320 g)))))) 0 0 (lzA (lzM m q S ++ (lzI G (q 2) 8 ln ++ (lzI G (q 3) 8 mn ++ (lzI G (q 4) 320 g))))) := by
  have hA : inR (nI ra) 0 7 = true := inR_row hra
  have hB : inR (nI rb) 0 7 = true := inR_row hrb
  refine rw_start (S := Unit) (cc := cX4_copy) (maxL := 9) (ret := (some .int)) (by decide) rfl (Nat.le_of_ble_eq_true rfl) ?_
  intro pp ee ss mm bl me cd A hx hb hr hlk hml hts hown hP hK hD hAe hS ls hl
  have hA0 : ∀ zz : Nat, lzA (lzM m q S ++ (lzI G (q 2) 8 ln ++ (lzI G (q 3) 8 mn ++ (lzI G (q 4) 320 g)))) zz → A zz := fun zz h9 => by rw [hAe]; exact h9
  rw [← hAe]
  clear hAe
  have hown : ss.vm.findClass RX4 = some mm.cls := hown
  have hw1 := hts (.fieldLink RX4 48 "LampSquaresModel" "thrown" "I") (List.mem_of_getElem? (i := 1) rfl)
  have hw3 := hts (.fieldLink RX4 52 "LampSquaresModel" "status" "I") (List.mem_of_getElem? (i := 3) rfl)
  have hw4 := hts (.fieldLink RX4 7 "LampSquaresModel" "lane" "[I") (List.mem_of_getElem? (i := 4) rfl)
  have hw5 := hts (.fieldLink RX4 13 "LampSquaresModel" "many" "[I") (List.mem_of_getElem? (i := 5) rfl)
  have hu_wsX40 : ∀ w ∈ wsX40, w.before ([.ref m, .int (nI ra), .int i, .int (nI rb), .int j, .int n] : List Value).toArray ss = true := fun w h9 => hts w (List.mem_cons_of_mem _ (List.mem_append_right _ h9))
  have hl : lv_has ls 9 [(0, .ref m), (1, .int (nI ra)), (2, .int i), (3, .int (nI rb)), (4, .int j), (5, .int n)] := hl
  refine lv_aload_n hx hb dX4_copy_0 rfl (lv_at hl 0 rfl) ?_
  refine lv_iconst (v := 0) hx hb dX4_copy_1 (by decide) ?_
  refine lz_put (G := G) (ci := 4) (C := RX4) (T := TX4) (N := 24) hx hb hu_wsX40 (fun _ h9 => h9) tyX4 tyX4_ok nmX4 hown hK hP hD hS 0 rfl rfl 0 (by decide) hw1 rfl rfl (by decide +kernel) (Nat.le_of_ble_eq_true rfl) dX4_copy_2 (lzM m q (upd S 0 0) ++ (lzI G (q 2) 8 ln ++ (lzI G (q 3) 8 mn ++ (lzI G (q 4) 320 g)))) rfl (fun H locs hP hD hS => ?_)
  refine lv_iload_n hx hb dX4_copy_5 rfl (lv_at hl 1 rfl) ?_
  refine ro_calli (va_runS (As := [.int (nI ra)]) (rest := []) ⟨hx, hb, hml, hown, hts⟩ (c_X4_isRow l G (nI ra) ) (cwS 1 hts gX4_copy_X4_isRow rfl rfl rfl (by decide +kernel) ⟨Nat.le_of_ble_eq_true rfl, Nat.le_of_ble_eq_true rfl⟩) (ro_pre hK (fun k q h => by simp at h)) rfl rfl hl.1 rfl (lv_room (Nat.le_of_ble_eq_true rfl)) dX4_copy_6 ⟨Nat.zero_le _, Nat.zero_le _⟩) (fun r_1 hr_1 => ?_)
  refine lv_if_eq (tgt := 19) hx hb dX4_copy_9 (by decide) (fun c_9 => ?_) (fun c_9 => ?_)
  · skip
    have c_9 := b2_z hr_1 c_9
    exact Bool.noConfusion (hA.symm.trans c_9)
  · skip
    have c_9 := b2_n hr_1 c_9
    refine lv_iload_n hx hb dX4_copy_12 rfl (lv_at hl 3 rfl) ?_
    refine ro_calli (va_runS (As := [.int (nI rb)]) (rest := []) ⟨hx, hb, hml, hown, hts⟩ (c_X4_isRow l G (nI rb) ) (cwS 1 hts gX4_copy_X4_isRow rfl rfl rfl (by decide +kernel) ⟨Nat.le_of_ble_eq_true rfl, Nat.le_of_ble_eq_true rfl⟩) (ro_pre hK (fun k q h => by simp at h)) rfl rfl hl.1 rfl (lv_room (Nat.le_of_ble_eq_true rfl)) dX4_copy_13 ⟨Nat.zero_le _, Nat.zero_le _⟩) (fun r_2 hr_2 => ?_)
    refine lv_if_ne (tgt := 22) hx hb dX4_copy_16 (by decide) (fun c_16 => ?_) (fun c_16 => ?_)
    · skip
      have c_16 := b2_n hr_2 c_16
      refine lv_aload_n hx hb dX4_copy_22 rfl (lv_at hl 0 rfl) ?_
      refine lv_iconst (v := 0) hx hb dX4_copy_23 (by decide) ?_
      refine lz_put (G := G) (ci := 4) (C := RX4) (T := TX4) (N := 24) hx hb hu_wsX40 (fun _ h9 => h9) tyX4 tyX4_ok nmX4 hown hK hP hD hS 0 rfl rfl 1 (by decide) hw3 rfl rfl (by decide +kernel) (Nat.le_of_ble_eq_true rfl) dX4_copy_24 (lzM m q (upd (upd S 0 0) 1 0) ++ (lzI G (q 2) 8 ln ++ (lzI G (q 3) 8 mn ++ (lzI G (q 4) 320 g)))) rfl (fun H locs hP hD hS => ?_)
      refine lv_aload_n hx hb dX4_copy_27 rfl (lv_at hl 0 rfl) ?_
      refine lz_get (G := G) (ci := 4) (v := .ref (q 2)) (C := RX4) (T := TX4) (N := 24) hx hb hu_wsX40 (fun _ h9 => h9) hown hK hP 0 rfl rfl 2 (by decide) hw4 rfl rfl dX4_copy_28 ?_
      refine lv_iload_n hx hb dX4_copy_31 rfl (lv_at hl 1 rfl) ?_
      refine lz_iald (f := ln) hx hb hK hP 1 rfl ra (by omega) (Nat.le_of_ble_eq_true rfl) dX4_copy_32 ?_
      refine lv_if_lt (tgt := 45) hx hb dX4_copy_33 (by decide) (fun c_33 => ?_) (fun c_33 => ?_)
      · skip
        have c_33' := Int32.not_le.mpr c_33
        exact absurd hm1 (Int32.not_le.mpr c_33)
      · skip
        have c_33' := Int32.not_lt.mp c_33
        refine lv_aload_n hx hb dX4_copy_36 rfl (lv_at hl 0 rfl) ?_
        refine lz_get (G := G) (ci := 4) (v := .ref (q 2)) (C := RX4) (T := TX4) (N := 24) hx hb hu_wsX40 (fun _ h9 => h9) hown hK hP 0 rfl rfl 2 (by decide) hw4 rfl rfl dX4_copy_37 ?_
        refine lv_iload_n hx hb dX4_copy_40 rfl (lv_at hl 3 rfl) ?_
        refine lz_iald (f := ln) hx hb hK hP 1 rfl rb (by omega) (Nat.le_of_ble_eq_true rfl) dX4_copy_41 ?_
        refine lv_if_ge (tgt := 51) hx hb dX4_copy_42 (by decide) (fun c_42 => ?_) (fun c_42 => ?_)
        · skip
          have c_42' := Int32.not_lt.mpr c_42
          refine lv_aload_n hx hb dX4_copy_51 rfl (lv_at hl 0 rfl) ?_
          refine lz_get (G := G) (ci := 4) (v := .ref (q 2)) (C := RX4) (T := TX4) (N := 24) hx hb hu_wsX40 (fun _ h9 => h9) hown hK hP 0 rfl rfl 2 (by decide) hw4 rfl rfl dX4_copy_52 ?_
          refine lv_iload_n hx hb dX4_copy_55 rfl (lv_at hl 1 rfl) ?_
          refine lz_iald (f := ln) hx hb hK hP 1 rfl ra (by omega) (Nat.le_of_ble_eq_true rfl) dX4_copy_56 ?_
          refine lv_aload_n hx hb dX4_copy_57 rfl (lv_at hl 0 rfl) ?_
          refine lz_get (G := G) (ci := 4) (v := .ref (q 2)) (C := RX4) (T := TX4) (N := 24) hx hb hu_wsX40 (fun _ h9 => h9) hown hK hP 0 rfl rfl 2 (by decide) hw4 rfl rfl dX4_copy_58 ?_
          refine lv_iload_n hx hb dX4_copy_61 rfl (lv_at hl 3 rfl) ?_
          refine lz_iald (f := ln) hx hb hK hP 1 rfl rb (by omega) (Nat.le_of_ble_eq_true rfl) dX4_copy_62 ?_
          refine lv_icmp_eq (tgt := 72) hx hb dX4_copy_63 (by decide) (fun c_63 => ?_) (fun c_63 => ?_)
          · skip
            refine lv_iload_n hx hb dX4_copy_72 rfl (lv_at hl 2 rfl) ?_
            refine lv_if_lt (tgt := 121) hx hb dX4_copy_73 (by decide) (fun c_73 => ?_) (fun c_73 => ?_)
            · skip
              have c_73' := Int32.not_le.mpr c_73
              refine lv_aload_n hx hb dX4_copy_121 rfl (lv_at hl 0 rfl) ?_
              refine lv_iconst (v := 2) hx hb dX4_copy_122 (by decide) ?_
              have hPc := hP.sub (ws' := lzM m q (upd (upd S 0 0) 1 0)) [0] rfl
              have hDc := hD.sub (ws' := lzM m q (upd (upd S 0 0) 1 0)) [0] (by decide) rfl
              have hFc : ∀ zz : Nat, lzA (lzM m q (upd (upd S 0 0) 1 0)) zz → A zz := lz_free hD [0] rfl
              refine va_calli (va_runV (As := [.int 2]) (rest := []) ⟨hx, hb, hml, hown, hts⟩ (c_X4_finding l G m q (upd (upd S 0 0) 1 0) 2 ) (cwV 1 hts gX4_copy_X4_finding rfl rfl rfl (by decide +kernel) ⟨Nat.le_of_ble_eq_true rfl, Nat.le_of_ble_eq_true rfl⟩) (rw_preV hK hPc hDc hP (ci := 4) (q0 := 0) rfl rfl) rfl rfl hl.1 rfl (lv_room (Nat.le_of_ble_eq_true rfl)) dX4_copy_123 ⟨Nat.zero_le _, Nat.zero_le _⟩) hS (fun q _ h => hFc q h) hFc (fun r_3 u_4 t9 H1 locs ht hvm hr_3 hB hz1 hk1 hS => ?_)
              replace hB : va_P G.1 lzC _ t9.heap := hB
              rw [ht] at hB
              obtain ⟨hP, hD⟩ := lz_join (wc := lzM m q (upd (upd S 0 0) 1 0)) (wr := ([(q 2, .inl (G.2 0, 8, .inl ln)), (q 3, .inl (G.2 0, 8, .inl mn)), (q 4, .inl (G.2 0, 320, .inl g))] : va_W)) (w1 := lzM m q (upd (upd S 0 0) 1 2)) hP hD [0] [1, 2, 3] rfl rfl (by decide) (by decide) rfl hk1 hB
              replace hP := hP.sub (ws' := (lzM m q (upd (upd S 0 0) 1 2) ++ (lzI G (q 2) 8 ln ++ (lzI G (q 3) 8 mn ++ (lzI G (q 4) 320 g))))) [3, 0, 1, 2] rfl
              replace hD := hD.sub (ws' := (lzM m q (upd (upd S 0 0) 1 2) ++ (lzI G (q 2) 8 ln ++ (lzI G (q 3) 8 mn ++ (lzI G (q 4) 320 g))))) [3, 0, 1, 2] (by decide) rfl
              clear ht hvm hB hz1 hk1
              generalize H1 = H at hP hS ⊢
              refine lz_top (y := -1000010 - 2) hr_3 ?_
              exact rw_iret (S := Unit) (G := G) (Wd := fun _ : Unit => (lzM m q (upd (upd S 0 0) 1 2) ++ (lzI G (q 2) 8 ln ++ (lzI G (q 3) 8 mn ++ (lzI G (q 4) 320 g))))) () hx hb hr hlk dX4_copy_126 hS (hP) (rfl)
            · skip
              have c_73' := Int32.not_lt.mp c_73
              refine lv_iload hx hb dX4_copy_76 (lv_at hl 4 rfl) ?_
              refine lv_if_lt (tgt := 121) hx hb dX4_copy_78 (by decide) (fun c_78 => ?_) (fun c_78 => ?_)
              · skip
                have c_78' := Int32.not_le.mpr c_78
                refine lv_aload_n hx hb dX4_copy_121 rfl (lv_at hl 0 rfl) ?_
                refine lv_iconst (v := 2) hx hb dX4_copy_122 (by decide) ?_
                have hPc := hP.sub (ws' := lzM m q (upd (upd S 0 0) 1 0)) [0] rfl
                have hDc := hD.sub (ws' := lzM m q (upd (upd S 0 0) 1 0)) [0] (by decide) rfl
                have hFc : ∀ zz : Nat, lzA (lzM m q (upd (upd S 0 0) 1 0)) zz → A zz := lz_free hD [0] rfl
                refine va_calli (va_runV (As := [.int 2]) (rest := []) ⟨hx, hb, hml, hown, hts⟩ (c_X4_finding l G m q (upd (upd S 0 0) 1 0) 2 ) (cwV 1 hts gX4_copy_X4_finding rfl rfl rfl (by decide +kernel) ⟨Nat.le_of_ble_eq_true rfl, Nat.le_of_ble_eq_true rfl⟩) (rw_preV hK hPc hDc hP (ci := 4) (q0 := 0) rfl rfl) rfl rfl hl.1 rfl (lv_room (Nat.le_of_ble_eq_true rfl)) dX4_copy_123 ⟨Nat.zero_le _, Nat.zero_le _⟩) hS (fun q _ h => hFc q h) hFc (fun r_5 u_6 t9 H1 locs ht hvm hr_5 hB hz1 hk1 hS => ?_)
                replace hB : va_P G.1 lzC _ t9.heap := hB
                rw [ht] at hB
                obtain ⟨hP, hD⟩ := lz_join (wc := lzM m q (upd (upd S 0 0) 1 0)) (wr := ([(q 2, .inl (G.2 0, 8, .inl ln)), (q 3, .inl (G.2 0, 8, .inl mn)), (q 4, .inl (G.2 0, 320, .inl g))] : va_W)) (w1 := lzM m q (upd (upd S 0 0) 1 2)) hP hD [0] [1, 2, 3] rfl rfl (by decide) (by decide) rfl hk1 hB
                replace hP := hP.sub (ws' := (lzM m q (upd (upd S 0 0) 1 2) ++ (lzI G (q 2) 8 ln ++ (lzI G (q 3) 8 mn ++ (lzI G (q 4) 320 g))))) [3, 0, 1, 2] rfl
                replace hD := hD.sub (ws' := (lzM m q (upd (upd S 0 0) 1 2) ++ (lzI G (q 2) 8 ln ++ (lzI G (q 3) 8 mn ++ (lzI G (q 4) 320 g))))) [3, 0, 1, 2] (by decide) rfl
                clear ht hvm hB hz1 hk1
                generalize H1 = H at hP hS ⊢
                refine lz_top (y := -1000010 - 2) hr_5 ?_
                exact rw_iret (S := Unit) (G := G) (Wd := fun _ : Unit => (lzM m q (upd (upd S 0 0) 1 2) ++ (lzI G (q 2) 8 ln ++ (lzI G (q 3) 8 mn ++ (lzI G (q 4) 320 g))))) () hx hb hr hlk dX4_copy_126 hS (hP) (rfl)
              · skip
                have c_78' := Int32.not_lt.mp c_78
                refine lv_iload hx hb dX4_copy_81 (lv_at hl 5 rfl) ?_
                refine lv_if_lt (tgt := 121) hx hb dX4_copy_83 (by decide) (fun c_83 => ?_) (fun c_83 => ?_)
                · skip
                  have c_83' := Int32.not_le.mpr c_83
                  refine lv_aload_n hx hb dX4_copy_121 rfl (lv_at hl 0 rfl) ?_
                  refine lv_iconst (v := 2) hx hb dX4_copy_122 (by decide) ?_
                  have hPc := hP.sub (ws' := lzM m q (upd (upd S 0 0) 1 0)) [0] rfl
                  have hDc := hD.sub (ws' := lzM m q (upd (upd S 0 0) 1 0)) [0] (by decide) rfl
                  have hFc : ∀ zz : Nat, lzA (lzM m q (upd (upd S 0 0) 1 0)) zz → A zz := lz_free hD [0] rfl
                  refine va_calli (va_runV (As := [.int 2]) (rest := []) ⟨hx, hb, hml, hown, hts⟩ (c_X4_finding l G m q (upd (upd S 0 0) 1 0) 2 ) (cwV 1 hts gX4_copy_X4_finding rfl rfl rfl (by decide +kernel) ⟨Nat.le_of_ble_eq_true rfl, Nat.le_of_ble_eq_true rfl⟩) (rw_preV hK hPc hDc hP (ci := 4) (q0 := 0) rfl rfl) rfl rfl hl.1 rfl (lv_room (Nat.le_of_ble_eq_true rfl)) dX4_copy_123 ⟨Nat.zero_le _, Nat.zero_le _⟩) hS (fun q _ h => hFc q h) hFc (fun r_7 u_8 t9 H1 locs ht hvm hr_7 hB hz1 hk1 hS => ?_)
                  replace hB : va_P G.1 lzC _ t9.heap := hB
                  rw [ht] at hB
                  obtain ⟨hP, hD⟩ := lz_join (wc := lzM m q (upd (upd S 0 0) 1 0)) (wr := ([(q 2, .inl (G.2 0, 8, .inl ln)), (q 3, .inl (G.2 0, 8, .inl mn)), (q 4, .inl (G.2 0, 320, .inl g))] : va_W)) (w1 := lzM m q (upd (upd S 0 0) 1 2)) hP hD [0] [1, 2, 3] rfl rfl (by decide) (by decide) rfl hk1 hB
                  replace hP := hP.sub (ws' := (lzM m q (upd (upd S 0 0) 1 2) ++ (lzI G (q 2) 8 ln ++ (lzI G (q 3) 8 mn ++ (lzI G (q 4) 320 g))))) [3, 0, 1, 2] rfl
                  replace hD := hD.sub (ws' := (lzM m q (upd (upd S 0 0) 1 2) ++ (lzI G (q 2) 8 ln ++ (lzI G (q 3) 8 mn ++ (lzI G (q 4) 320 g))))) [3, 0, 1, 2] (by decide) rfl
                  clear ht hvm hB hz1 hk1
                  generalize H1 = H at hP hS ⊢
                  refine lz_top (y := -1000010 - 2) hr_7 ?_
                  exact rw_iret (S := Unit) (G := G) (Wd := fun _ : Unit => (lzM m q (upd (upd S 0 0) 1 2) ++ (lzI G (q 2) 8 ln ++ (lzI G (q 3) 8 mn ++ (lzI G (q 4) 320 g))))) () hx hb hr hlk dX4_copy_126 hS (hP) (rfl)
                · skip
                  have c_83' := Int32.not_lt.mp c_83
                  refine lv_iload_n hx hb dX4_copy_86 rfl (lv_at hl 2 rfl) ?_
                  refine lv_i2l hx hb dX4_copy_87 rfl ?_
                  refine lv_iload hx hb dX4_copy_88 (lv_at hl 5 rfl) ?_
                  refine lv_i2l hx hb dX4_copy_90 rfl ?_
                  refine lv_ladd hx hb dX4_copy_91 ?_
                  refine lv_aload_n hx hb dX4_copy_92 rfl (lv_at hl 0 rfl) ?_
                  refine lz_get (G := G) (ci := 4) (v := .ref (q 3)) (C := RX4) (T := TX4) (N := 24) hx hb hu_wsX40 (fun _ h9 => h9) hown hK hP 0 rfl rfl 3 (by decide) hw5 rfl rfl dX4_copy_93 ?_
                  refine lv_iload_n hx hb dX4_copy_96 rfl (lv_at hl 1 rfl) ?_
                  refine lz_iald (f := mn) hx hb hK hP 2 rfl ra (by omega) (Nat.le_of_ble_eq_true rfl) dX4_copy_97 ?_
                  refine lv_i2l hx hb dX4_copy_98 rfl ?_
                  refine W.lcmp hx hb dX4_copy_99 ?_
                  refine lv_if_gt (tgt := 121) hx hb dX4_copy_100 (by decide) (fun c_100 => ?_) (fun c_100 => ?_)
                  · skip
                    have c_100 := (lg_gt _ _).mp c_100
                    have c_100' := Int64.not_le.mpr c_100
                    refine lv_aload_n hx hb dX4_copy_121 rfl (lv_at hl 0 rfl) ?_
                    refine lv_iconst (v := 2) hx hb dX4_copy_122 (by decide) ?_
                    have hPc := hP.sub (ws' := lzM m q (upd (upd S 0 0) 1 0)) [0] rfl
                    have hDc := hD.sub (ws' := lzM m q (upd (upd S 0 0) 1 0)) [0] (by decide) rfl
                    have hFc : ∀ zz : Nat, lzA (lzM m q (upd (upd S 0 0) 1 0)) zz → A zz := lz_free hD [0] rfl
                    refine va_calli (va_runV (As := [.int 2]) (rest := []) ⟨hx, hb, hml, hown, hts⟩ (c_X4_finding l G m q (upd (upd S 0 0) 1 0) 2 ) (cwV 1 hts gX4_copy_X4_finding rfl rfl rfl (by decide +kernel) ⟨Nat.le_of_ble_eq_true rfl, Nat.le_of_ble_eq_true rfl⟩) (rw_preV hK hPc hDc hP (ci := 4) (q0 := 0) rfl rfl) rfl rfl hl.1 rfl (lv_room (Nat.le_of_ble_eq_true rfl)) dX4_copy_123 ⟨Nat.zero_le _, Nat.zero_le _⟩) hS (fun q _ h => hFc q h) hFc (fun r_9 u_10 t9 H1 locs ht hvm hr_9 hB hz1 hk1 hS => ?_)
                    replace hB : va_P G.1 lzC _ t9.heap := hB
                    rw [ht] at hB
                    obtain ⟨hP, hD⟩ := lz_join (wc := lzM m q (upd (upd S 0 0) 1 0)) (wr := ([(q 2, .inl (G.2 0, 8, .inl ln)), (q 3, .inl (G.2 0, 8, .inl mn)), (q 4, .inl (G.2 0, 320, .inl g))] : va_W)) (w1 := lzM m q (upd (upd S 0 0) 1 2)) hP hD [0] [1, 2, 3] rfl rfl (by decide) (by decide) rfl hk1 hB
                    replace hP := hP.sub (ws' := (lzM m q (upd (upd S 0 0) 1 2) ++ (lzI G (q 2) 8 ln ++ (lzI G (q 3) 8 mn ++ (lzI G (q 4) 320 g))))) [3, 0, 1, 2] rfl
                    replace hD := hD.sub (ws' := (lzM m q (upd (upd S 0 0) 1 2) ++ (lzI G (q 2) 8 ln ++ (lzI G (q 3) 8 mn ++ (lzI G (q 4) 320 g))))) [3, 0, 1, 2] (by decide) rfl
                    clear ht hvm hB hz1 hk1
                    generalize H1 = H at hP hS ⊢
                    refine lz_top (y := -1000010 - 2) hr_9 ?_
                    exact rw_iret (S := Unit) (G := G) (Wd := fun _ : Unit => (lzM m q (upd (upd S 0 0) 1 2) ++ (lzI G (q 2) 8 ln ++ (lzI G (q 3) 8 mn ++ (lzI G (q 4) 320 g))))) () hx hb hr hlk dX4_copy_126 hS (hP) (rfl)
                  · skip
                    have c_100 := mt (lg_gt _ _).mpr c_100
                    have c_100' := Int64.not_lt.mp c_100
                    refine lv_iload hx hb dX4_copy_103 (lv_at hl 4 rfl) ?_
                    refine lv_i2l hx hb dX4_copy_105 rfl ?_
                    refine lv_iload hx hb dX4_copy_106 (lv_at hl 5 rfl) ?_
                    refine lv_i2l hx hb dX4_copy_108 rfl ?_
                    refine lv_ladd hx hb dX4_copy_109 ?_
                    refine lv_aload_n hx hb dX4_copy_110 rfl (lv_at hl 0 rfl) ?_
                    refine lz_get (G := G) (ci := 4) (v := .ref (q 3)) (C := RX4) (T := TX4) (N := 24) hx hb hu_wsX40 (fun _ h9 => h9) hown hK hP 0 rfl rfl 3 (by decide) hw5 rfl rfl dX4_copy_111 ?_
                    refine lv_iload_n hx hb dX4_copy_114 rfl (lv_at hl 3 rfl) ?_
                    refine lz_iald (f := mn) hx hb hK hP 2 rfl rb (by omega) (Nat.le_of_ble_eq_true rfl) dX4_copy_115 ?_
                    refine lv_i2l hx hb dX4_copy_116 rfl ?_
                    refine W.lcmp hx hb dX4_copy_117 ?_
                    refine lv_if_le (tgt := 127) hx hb dX4_copy_118 (by decide) (fun c_118 => ?_) (fun c_118 => ?_)
                    · skip
                      have c_118 := (lg_cmp_le _ _).mp c_118
                      have c_118' := Int64.not_lt.mpr c_118
                      exact absurd hp (by simp [cpyB, c_73, c_78, c_83, c_100, c_118])
                    · skip
                      have c_118 := mt (lg_cmp_le _ _).mpr c_118
                      have c_118' := Int64.not_le.mp c_118
                      refine lv_aload_n hx hb dX4_copy_121 rfl (lv_at hl 0 rfl) ?_
                      refine lv_iconst (v := 2) hx hb dX4_copy_122 (by decide) ?_
                      have hPc := hP.sub (ws' := lzM m q (upd (upd S 0 0) 1 0)) [0] rfl
                      have hDc := hD.sub (ws' := lzM m q (upd (upd S 0 0) 1 0)) [0] (by decide) rfl
                      have hFc : ∀ zz : Nat, lzA (lzM m q (upd (upd S 0 0) 1 0)) zz → A zz := lz_free hD [0] rfl
                      refine va_calli (va_runV (As := [.int 2]) (rest := []) ⟨hx, hb, hml, hown, hts⟩ (c_X4_finding l G m q (upd (upd S 0 0) 1 0) 2 ) (cwV 1 hts gX4_copy_X4_finding rfl rfl rfl (by decide +kernel) ⟨Nat.le_of_ble_eq_true rfl, Nat.le_of_ble_eq_true rfl⟩) (rw_preV hK hPc hDc hP (ci := 4) (q0 := 0) rfl rfl) rfl rfl hl.1 rfl (lv_room (Nat.le_of_ble_eq_true rfl)) dX4_copy_123 ⟨Nat.zero_le _, Nat.zero_le _⟩) hS (fun q _ h => hFc q h) hFc (fun r_11 u_12 t9 H1 locs ht hvm hr_11 hB hz1 hk1 hS => ?_)
                      replace hB : va_P G.1 lzC _ t9.heap := hB
                      rw [ht] at hB
                      obtain ⟨hP, hD⟩ := lz_join (wc := lzM m q (upd (upd S 0 0) 1 0)) (wr := ([(q 2, .inl (G.2 0, 8, .inl ln)), (q 3, .inl (G.2 0, 8, .inl mn)), (q 4, .inl (G.2 0, 320, .inl g))] : va_W)) (w1 := lzM m q (upd (upd S 0 0) 1 2)) hP hD [0] [1, 2, 3] rfl rfl (by decide) (by decide) rfl hk1 hB
                      replace hP := hP.sub (ws' := (lzM m q (upd (upd S 0 0) 1 2) ++ (lzI G (q 2) 8 ln ++ (lzI G (q 3) 8 mn ++ (lzI G (q 4) 320 g))))) [3, 0, 1, 2] rfl
                      replace hD := hD.sub (ws' := (lzM m q (upd (upd S 0 0) 1 2) ++ (lzI G (q 2) 8 ln ++ (lzI G (q 3) 8 mn ++ (lzI G (q 4) 320 g))))) [3, 0, 1, 2] (by decide) rfl
                      clear ht hvm hB hz1 hk1
                      generalize H1 = H at hP hS ⊢
                      refine lz_top (y := -1000010 - 2) hr_11 ?_
                      exact rw_iret (S := Unit) (G := G) (Wd := fun _ : Unit => (lzM m q (upd (upd S 0 0) 1 2) ++ (lzI G (q 2) 8 ln ++ (lzI G (q 3) 8 mn ++ (lzI G (q 4) 320 g))))) () hx hb hr hlk dX4_copy_126 hS (hP) (rfl)
          · skip
            exact absurd heq c_63
        · skip
          have c_42' := Int32.not_le.mp c_42
          exact absurd hm2 c_42
    · skip
      have c_16 := b2_z hr_2 c_16
      exact Bool.noConfusion (hB.symm.trans c_16)
set_option maxHeartbeats 4000000 in
set_option maxRecDepth 100000 in
theorem c_X4_copy_up (l : Launch) (G : lzG) (m : Nat) (q : Nat → Nat) (S : Nat → Int32) (ln mn g : Nat → Int32) (ra rb i j n : Nat) (hra : ra < 8) (hrb : rb < 8) (hm1 : 0 ≤ ln ra) (hm2 : 0 ≤ ln rb) (heq : ln ra = ln rb) (hp : cpyB (mn ra) (mn rb) (nI i) (nI j) (nI n) = true) (hi40 : i + n ≤ 40) (hj40 : j + n ≤ 40) (hup : nI j ≤ nI i) : Met l yX4_copy wsX4_copy ({ frames := 2, cells := 0, slots := 0, locals := 45 }) (va_Pc [.ref m, .int (nI ra), .int (nI i), .int (nI rb), .int (nI j), .int (nI n)] (rwP G (lzM m q S ++ (lzI G (q 2) 8 ln ++ (lzI G (q 3) 8 mn ++ (lzI G (q 4) 320 g)))))) (va_Qi (S := Unit) (fun (r : Int32) (_ : Unit) => r = nI n) (rwB G (fun _ : Unit => (lzM m q (upd (upd S 0 0) 1 0) ++ (lzI G (q 2) 8 ln ++ (lzI G (q 3) 8 mn ++ (lzI G (q 4) 320 (cpyU g (40 * ra + i) (40 * rb + j) n))))))) (lzA (lzM m q S ++ (lzI G (q 2) 8 ln ++ (lzI G (q 3) 8 mn ++ (lzI G (q 4) 320 g)))))) 0 0 (lzA (lzM m q S ++ (lzI G (q 2) 8 ln ++ (lzI G (q 3) 8 mn ++ (lzI G (q 4) 320 g))))) := by
  have hA : inR (nI ra) 0 7 = true := inR_row hra
  have hB : inR (nI rb) 0 7 = true := inR_row hrb
  refine rw_start (S := Unit) (cc := cX4_copy) (maxL := 9) (ret := (some .int)) (by decide) rfl (Nat.le_of_ble_eq_true rfl) ?_
  intro pp ee ss mm bl me cd A hx hb hr hlk hml hts hown hP hK hD hAe hS ls hl
  have hA0 : ∀ zz : Nat, lzA (lzM m q S ++ (lzI G (q 2) 8 ln ++ (lzI G (q 3) 8 mn ++ (lzI G (q 4) 320 g)))) zz → A zz := fun zz h9 => by rw [hAe]; exact h9
  rw [← hAe]
  clear hAe
  have hown : ss.vm.findClass RX4 = some mm.cls := hown
  have hw1 := hts (.fieldLink RX4 48 "LampSquaresModel" "thrown" "I") (List.mem_of_getElem? (i := 1) rfl)
  have hw3 := hts (.fieldLink RX4 52 "LampSquaresModel" "status" "I") (List.mem_of_getElem? (i := 3) rfl)
  have hw4 := hts (.fieldLink RX4 7 "LampSquaresModel" "lane" "[I") (List.mem_of_getElem? (i := 4) rfl)
  have hw5 := hts (.fieldLink RX4 13 "LampSquaresModel" "many" "[I") (List.mem_of_getElem? (i := 5) rfl)
  have hw6 := hts (.fieldLink RX4 16 "LampSquaresModel" "item" "[I") (List.mem_of_getElem? (i := 6) rfl)
  have hu_wsX40 : ∀ w ∈ wsX40, w.before ([.ref m, .int (nI ra), .int (nI i), .int (nI rb), .int (nI j), .int (nI n)] : List Value).toArray ss = true := fun w h9 => hts w (List.mem_cons_of_mem _ (List.mem_append_right _ h9))
  have hl : lv_has ls 9 [(0, .ref m), (1, .int (nI ra)), (2, .int (nI i)), (3, .int (nI rb)), (4, .int (nI j)), (5, .int (nI n))] := hl
  refine lv_aload_n hx hb dX4_copy_0 rfl (lv_at hl 0 rfl) ?_
  refine lv_iconst (v := 0) hx hb dX4_copy_1 (by decide) ?_
  refine lz_put (G := G) (ci := 4) (C := RX4) (T := TX4) (N := 24) hx hb hu_wsX40 (fun _ h9 => h9) tyX4 tyX4_ok nmX4 hown hK hP hD hS 0 rfl rfl 0 (by decide) hw1 rfl rfl (by decide +kernel) (Nat.le_of_ble_eq_true rfl) dX4_copy_2 (lzM m q (upd S 0 0) ++ (lzI G (q 2) 8 ln ++ (lzI G (q 3) 8 mn ++ (lzI G (q 4) 320 g)))) rfl (fun H locs hP hD hS => ?_)
  refine lv_iload_n hx hb dX4_copy_5 rfl (lv_at hl 1 rfl) ?_
  refine ro_calli (va_runS (As := [.int (nI ra)]) (rest := []) ⟨hx, hb, hml, hown, hts⟩ (c_X4_isRow l G (nI ra) ) (cwS 1 hts gX4_copy_X4_isRow rfl rfl rfl (by decide +kernel) ⟨Nat.le_of_ble_eq_true rfl, Nat.le_of_ble_eq_true rfl⟩) (ro_pre hK (fun k q h => by simp at h)) rfl rfl hl.1 rfl (lv_room (Nat.le_of_ble_eq_true rfl)) dX4_copy_6 ⟨Nat.zero_le _, Nat.zero_le _⟩) (fun r_1 hr_1 => ?_)
  refine lv_if_eq (tgt := 19) hx hb dX4_copy_9 (by decide) (fun c_9 => ?_) (fun c_9 => ?_)
  · skip
    have c_9 := b2_z hr_1 c_9
    exact Bool.noConfusion (hA.symm.trans c_9)
  · skip
    have c_9 := b2_n hr_1 c_9
    refine lv_iload_n hx hb dX4_copy_12 rfl (lv_at hl 3 rfl) ?_
    refine ro_calli (va_runS (As := [.int (nI rb)]) (rest := []) ⟨hx, hb, hml, hown, hts⟩ (c_X4_isRow l G (nI rb) ) (cwS 1 hts gX4_copy_X4_isRow rfl rfl rfl (by decide +kernel) ⟨Nat.le_of_ble_eq_true rfl, Nat.le_of_ble_eq_true rfl⟩) (ro_pre hK (fun k q h => by simp at h)) rfl rfl hl.1 rfl (lv_room (Nat.le_of_ble_eq_true rfl)) dX4_copy_13 ⟨Nat.zero_le _, Nat.zero_le _⟩) (fun r_2 hr_2 => ?_)
    refine lv_if_ne (tgt := 22) hx hb dX4_copy_16 (by decide) (fun c_16 => ?_) (fun c_16 => ?_)
    · skip
      have c_16 := b2_n hr_2 c_16
      refine lv_aload_n hx hb dX4_copy_22 rfl (lv_at hl 0 rfl) ?_
      refine lv_iconst (v := 0) hx hb dX4_copy_23 (by decide) ?_
      refine lz_put (G := G) (ci := 4) (C := RX4) (T := TX4) (N := 24) hx hb hu_wsX40 (fun _ h9 => h9) tyX4 tyX4_ok nmX4 hown hK hP hD hS 0 rfl rfl 1 (by decide) hw3 rfl rfl (by decide +kernel) (Nat.le_of_ble_eq_true rfl) dX4_copy_24 (lzM m q (upd (upd S 0 0) 1 0) ++ (lzI G (q 2) 8 ln ++ (lzI G (q 3) 8 mn ++ (lzI G (q 4) 320 g)))) rfl (fun H locs hP hD hS => ?_)
      refine lv_aload_n hx hb dX4_copy_27 rfl (lv_at hl 0 rfl) ?_
      refine lz_get (G := G) (ci := 4) (v := .ref (q 2)) (C := RX4) (T := TX4) (N := 24) hx hb hu_wsX40 (fun _ h9 => h9) hown hK hP 0 rfl rfl 2 (by decide) hw4 rfl rfl dX4_copy_28 ?_
      refine lv_iload_n hx hb dX4_copy_31 rfl (lv_at hl 1 rfl) ?_
      refine lz_iald (f := ln) hx hb hK hP 1 rfl ra (by omega) (Nat.le_of_ble_eq_true rfl) dX4_copy_32 ?_
      refine lv_if_lt (tgt := 45) hx hb dX4_copy_33 (by decide) (fun c_33 => ?_) (fun c_33 => ?_)
      · skip
        have c_33' := Int32.not_le.mpr c_33
        exact absurd hm1 (Int32.not_le.mpr c_33)
      · skip
        have c_33' := Int32.not_lt.mp c_33
        refine lv_aload_n hx hb dX4_copy_36 rfl (lv_at hl 0 rfl) ?_
        refine lz_get (G := G) (ci := 4) (v := .ref (q 2)) (C := RX4) (T := TX4) (N := 24) hx hb hu_wsX40 (fun _ h9 => h9) hown hK hP 0 rfl rfl 2 (by decide) hw4 rfl rfl dX4_copy_37 ?_
        refine lv_iload_n hx hb dX4_copy_40 rfl (lv_at hl 3 rfl) ?_
        refine lz_iald (f := ln) hx hb hK hP 1 rfl rb (by omega) (Nat.le_of_ble_eq_true rfl) dX4_copy_41 ?_
        refine lv_if_ge (tgt := 51) hx hb dX4_copy_42 (by decide) (fun c_42 => ?_) (fun c_42 => ?_)
        · skip
          have c_42' := Int32.not_lt.mpr c_42
          refine lv_aload_n hx hb dX4_copy_51 rfl (lv_at hl 0 rfl) ?_
          refine lz_get (G := G) (ci := 4) (v := .ref (q 2)) (C := RX4) (T := TX4) (N := 24) hx hb hu_wsX40 (fun _ h9 => h9) hown hK hP 0 rfl rfl 2 (by decide) hw4 rfl rfl dX4_copy_52 ?_
          refine lv_iload_n hx hb dX4_copy_55 rfl (lv_at hl 1 rfl) ?_
          refine lz_iald (f := ln) hx hb hK hP 1 rfl ra (by omega) (Nat.le_of_ble_eq_true rfl) dX4_copy_56 ?_
          refine lv_aload_n hx hb dX4_copy_57 rfl (lv_at hl 0 rfl) ?_
          refine lz_get (G := G) (ci := 4) (v := .ref (q 2)) (C := RX4) (T := TX4) (N := 24) hx hb hu_wsX40 (fun _ h9 => h9) hown hK hP 0 rfl rfl 2 (by decide) hw4 rfl rfl dX4_copy_58 ?_
          refine lv_iload_n hx hb dX4_copy_61 rfl (lv_at hl 3 rfl) ?_
          refine lz_iald (f := ln) hx hb hK hP 1 rfl rb (by omega) (Nat.le_of_ble_eq_true rfl) dX4_copy_62 ?_
          refine lv_icmp_eq (tgt := 72) hx hb dX4_copy_63 (by decide) (fun c_63 => ?_) (fun c_63 => ?_)
          · skip
            refine lv_iload_n hx hb dX4_copy_72 rfl (lv_at hl 2 rfl) ?_
            refine lv_if_lt (tgt := 121) hx hb dX4_copy_73 (by decide) (fun c_73 => ?_) (fun c_73 => ?_)
            · skip
              have c_73' := Int32.not_le.mpr c_73
              exact absurd hp (by simp [cpyB, c_73])
            · skip
              have c_73' := Int32.not_lt.mp c_73
              refine lv_iload hx hb dX4_copy_76 (lv_at hl 4 rfl) ?_
              refine lv_if_lt (tgt := 121) hx hb dX4_copy_78 (by decide) (fun c_78 => ?_) (fun c_78 => ?_)
              · skip
                have c_78' := Int32.not_le.mpr c_78
                exact absurd hp (by simp [cpyB, c_78])
              · skip
                have c_78' := Int32.not_lt.mp c_78
                refine lv_iload hx hb dX4_copy_81 (lv_at hl 5 rfl) ?_
                refine lv_if_lt (tgt := 121) hx hb dX4_copy_83 (by decide) (fun c_83 => ?_) (fun c_83 => ?_)
                · skip
                  have c_83' := Int32.not_le.mpr c_83
                  exact absurd hp (by simp [cpyB, c_83])
                · skip
                  have c_83' := Int32.not_lt.mp c_83
                  refine lv_iload_n hx hb dX4_copy_86 rfl (lv_at hl 2 rfl) ?_
                  refine lv_i2l hx hb dX4_copy_87 rfl ?_
                  refine lv_iload hx hb dX4_copy_88 (lv_at hl 5 rfl) ?_
                  refine lv_i2l hx hb dX4_copy_90 rfl ?_
                  refine lv_ladd hx hb dX4_copy_91 ?_
                  refine lv_aload_n hx hb dX4_copy_92 rfl (lv_at hl 0 rfl) ?_
                  refine lz_get (G := G) (ci := 4) (v := .ref (q 3)) (C := RX4) (T := TX4) (N := 24) hx hb hu_wsX40 (fun _ h9 => h9) hown hK hP 0 rfl rfl 3 (by decide) hw5 rfl rfl dX4_copy_93 ?_
                  refine lv_iload_n hx hb dX4_copy_96 rfl (lv_at hl 1 rfl) ?_
                  refine lz_iald (f := mn) hx hb hK hP 2 rfl ra (by omega) (Nat.le_of_ble_eq_true rfl) dX4_copy_97 ?_
                  refine lv_i2l hx hb dX4_copy_98 rfl ?_
                  refine W.lcmp hx hb dX4_copy_99 ?_
                  refine lv_if_gt (tgt := 121) hx hb dX4_copy_100 (by decide) (fun c_100 => ?_) (fun c_100 => ?_)
                  · skip
                    have c_100 := (lg_gt _ _).mp c_100
                    have c_100' := Int64.not_le.mpr c_100
                    exact absurd hp (by simp [cpyB, c_100])
                  · skip
                    have c_100 := mt (lg_gt _ _).mpr c_100
                    have c_100' := Int64.not_lt.mp c_100
                    refine lv_iload hx hb dX4_copy_103 (lv_at hl 4 rfl) ?_
                    refine lv_i2l hx hb dX4_copy_105 rfl ?_
                    refine lv_iload hx hb dX4_copy_106 (lv_at hl 5 rfl) ?_
                    refine lv_i2l hx hb dX4_copy_108 rfl ?_
                    refine lv_ladd hx hb dX4_copy_109 ?_
                    refine lv_aload_n hx hb dX4_copy_110 rfl (lv_at hl 0 rfl) ?_
                    refine lz_get (G := G) (ci := 4) (v := .ref (q 3)) (C := RX4) (T := TX4) (N := 24) hx hb hu_wsX40 (fun _ h9 => h9) hown hK hP 0 rfl rfl 3 (by decide) hw5 rfl rfl dX4_copy_111 ?_
                    refine lv_iload_n hx hb dX4_copy_114 rfl (lv_at hl 3 rfl) ?_
                    refine lz_iald (f := mn) hx hb hK hP 2 rfl rb (by omega) (Nat.le_of_ble_eq_true rfl) dX4_copy_115 ?_
                    refine lv_i2l hx hb dX4_copy_116 rfl ?_
                    refine W.lcmp hx hb dX4_copy_117 ?_
                    refine lv_if_le (tgt := 127) hx hb dX4_copy_118 (by decide) (fun c_118 => ?_) (fun c_118 => ?_)
                    · skip
                      have c_118 := (lg_cmp_le _ _).mp c_118
                      have c_118' := Int64.not_lt.mpr c_118
                      refine lv_iload_n hx hb dX4_copy_127 rfl (lv_at hl 2 rfl) ?_
                      refine lv_iload hx hb dX4_copy_128 (lv_at hl 4 rfl) ?_
                      refine lv_icmp_lt (tgt := 137) hx hb dX4_copy_130 (by decide) (fun c_130 => ?_) (fun c_130 => ?_)
                      · skip
                        have c_130' := Int32.not_le.mpr c_130
                        exact absurd hup (Int32.not_le.mpr c_130)
                      · skip
                        have c_130' := Int32.not_lt.mp c_130
                        refine lv_iconst (v := 1) hx hb dX4_copy_133 (by decide) ?_
                        refine lv_goto (tgt := 138) hx hb dX4_copy_134 (by decide) ?_
                        refine lv_istore (lv' := [(6, .int 1), (0, .ref m), (1, .int (nI ra)), (2, .int (nI i)), (3, .int (nI rb)), (4, .int (nI j)), (5, .int (nI n))]) hx hb dX4_copy_138 hl (by decide) rfl (fun ls hl => ?_)
                        refine lv_iconst (v := 0) hx hb dX4_copy_140 (by decide) ?_
                        refine lv_istore (lv' := [(7, .int 0), (6, .int 1), (0, .ref m), (1, .int (nI ra)), (2, .int (nI i)), (3, .int (nI rb)), (4, .int (nI j)), (5, .int (nI n))]) hx hb dX4_copy_141 hl (by decide) rfl (fun ls hl => ?_)
                        have J_143 : ∀ (n9 : Nat), ∀ (k : Nat), (k ≤ n) → n - k < n9 → ∀ (H : Heap) (locs : List Loc), va_P G.1 lzC (lzM m q (upd (upd S 0 0) 1 0) ++ (lzI G (q 2) 8 ln ++ (lzI G (q 3) 8 mn ++ (lzI G (q 4) 320 (cpyU g (40 * ra + i) (40 * rb + j) k))))) H → va_D A (lzM m q (upd (upd S 0 0) 1 0) ++ (lzI G (q 2) 8 ln ++ (lzI G (q 3) 8 mn ++ (lzI G (q 4) 320 (cpyU g (40 * ra + i) (40 * rb + j) k))))) → va_S A ss.heap H locs → ∀ ls : Array Slot, lv_has ls 9 [(7, .int (nI k)), (6, .int 1), (0, .ref m), (1, .int (nI ra)), (2, .int (nI i)), (3, .int (nI rb)), (4, .int (nI j)), (5, .int (nI n))] → W pp l ee ({ frames := 2, cells := 0, slots := 0, locals := 45 }) ss mm ([.ref m, .int (nI ra), .int (nI i), .int (nI rb), .int (nI j), .int (nI n)] : List Value).toArray bl me cd H locs 0 0 (MQ bl (va_Qi (S := Unit) (fun (r : Int32) (_ : Unit) => r = nI n) (rwB G (fun _ : Unit => (lzM m q (upd (upd S 0 0) 1 0) ++ (lzI G (q 2) 8 ln ++ (lzI G (q 3) 8 mn ++ (lzI G (q 4) 320 (cpyU g (40 * ra + i) (40 * rb + j) n))))))) A) ([.ref m, .int (nI ra), .int (nI i), .int (nI rb), .int (nI j), .int (nI n)] : List Value).toArray ss 0 0 A) (F0 mm 143 ls []) := by
                          intro n9
                          induction n9 with
                          | zero => intro k hk hn; exact absurd hn (Nat.not_lt_zero _)
                          | succ n9 ih_143 =>
                            intro k hk hn_143 H locs hP hD hS ls hl
                            refine lv_iload hx hb dX4_copy_143 (lv_at hl 0 rfl) ?_
                            refine lv_iload hx hb dX4_copy_145 (lv_at hl 7 rfl) ?_
                            refine lv_icmp_ge (tgt := 204) hx hb dX4_copy_147 (by decide) (fun c_147 => ?_) (fun c_147 => ?_)
                            · skip
                              have c_147' := Int32.not_lt.mpr c_147
                              have hk2 : n ≤ k := (nI_leI (by omega) (by omega)).mp c_147
                              have hk3 : k = n := by omega
                              refine lv_iload hx hb dX4_copy_204 (lv_at hl 7 rfl) ?_
                              exact rw_iret (S := Unit) (G := G) (Wd := fun _ : Unit => (lzM m q (upd (upd S 0 0) 1 0) ++ (lzI G (q 2) 8 ln ++ (lzI G (q 3) 8 mn ++ (lzI G (q 4) 320 (cpyU g (40 * ra + i) (40 * rb + j) n)))))) () hx hb hr hlk dX4_copy_206 hS (by rw [hk3] at hP; exact hP) (rfl)
                            · skip
                              have c_147' := Int32.not_le.mp c_147
                              have hk2 : k < n := by have h9 := mt (nI_leI (by omega) (by omega)).mpr c_147; omega
                              refine lv_iload hx hb dX4_copy_150 (lv_at hl 1 rfl) ?_
                              refine lv_if_eq (tgt := 160) hx hb dX4_copy_152 (by decide) (fun c_152 => ?_) (fun c_152 => ?_)
                              · skip
                                exact False.elim (by revert c_152; decide)
                              · skip
                                refine lv_iload hx hb dX4_copy_155 (lv_at hl 0 rfl) ?_
                                refine lv_goto (tgt := 167) hx hb dX4_copy_157 (by decide) ?_
                                refine lv_istore (lv' := [(8, .int (nI k)), (7, .int (nI k)), (6, .int 1), (0, .ref m), (1, .int (nI ra)), (2, .int (nI i)), (3, .int (nI rb)), (4, .int (nI j)), (5, .int (nI n))]) hx hb dX4_copy_167 hl (by decide) rfl (fun ls hl => ?_)
                                refine lv_aload_n hx hb dX4_copy_169 rfl (lv_at hl 3 rfl) ?_
                                refine lz_get (G := G) (ci := 4) (v := .ref (q 4)) (C := RX4) (T := TX4) (N := 24) hx hb hu_wsX40 (fun _ h9 => h9) hown hK hP 0 rfl rfl 4 (by decide) hw6 rfl rfl dX4_copy_170 ?_
                                refine lv_bipush (v := 40) hx hb dX4_copy_173 (by decide) ?_
                                refine lv_iload_n hx hb dX4_copy_175 rfl (lv_at hl 6 rfl) ?_
                                refine lv_imul hx hb dX4_copy_176 ?_
                                refine lv_iload hx hb dX4_copy_177 (lv_at hl 7 rfl) ?_
                                refine lv_iadd hx hb dX4_copy_179 ?_
                                refine lv_iload hx hb dX4_copy_180 (lv_at hl 0 rfl) ?_
                                refine lv_iadd hx hb dX4_copy_182 ?_
                                refine lz_top (y := nI (40 * rb + j + k)) (by simp only [fa_lit, pk_mul, nI_add]) ?_
                                refine lv_aload_n hx hb dX4_copy_183 rfl (lv_at hl 3 rfl) ?_
                                refine lz_get (G := G) (ci := 4) (v := .ref (q 4)) (C := RX4) (T := TX4) (N := 24) hx hb hu_wsX40 (fun _ h9 => h9) hown hK hP 0 rfl rfl 4 (by decide) hw6 rfl rfl dX4_copy_184 ?_
                                refine lv_bipush (v := 40) hx hb dX4_copy_187 (by decide) ?_
                                refine lv_iload_n hx hb dX4_copy_189 rfl (lv_at hl 4 rfl) ?_
                                refine lv_imul hx hb dX4_copy_190 ?_
                                refine lv_iload_n hx hb dX4_copy_191 rfl (lv_at hl 5 rfl) ?_
                                refine lv_iadd hx hb dX4_copy_192 ?_
                                refine lv_iload hx hb dX4_copy_193 (lv_at hl 0 rfl) ?_
                                refine lv_iadd hx hb dX4_copy_195 ?_
                                refine lz_top (y := nI (40 * ra + i + k)) (by simp only [fa_lit, pk_mul, nI_add]) ?_
                                refine lz_iald (f := cpyU g (40 * ra + i) (40 * rb + j) k) hx hb hK hP 3 rfl (40 * ra + i + k) (by omega) (Nat.le_of_ble_eq_true rfl) dX4_copy_196 ?_
                                refine lz_iast (f := cpyU g (40 * ra + i) (40 * rb + j) k) hx hb hK hP hD hS 3 rfl (40 * rb + j + k) (by omega) (Nat.le_of_ble_eq_true rfl) dX4_copy_197 (lzM m q (upd (upd S 0 0) 1 0) ++ (lzI G (q 2) 8 ln ++ (lzI G (q 3) 8 mn ++ (lzI G (q 4) 320 (upd (cpyU g (40 * ra + i) (40 * rb + j) k) (40 * rb + j + k) ((cpyU g (40 * ra + i) (40 * rb + j) k) (40 * ra + i + k))))))) rfl (fun H locs hP hD hS => ?_)
                                refine lv_iinc (v := nI (k + 1)) (lv' := [(7, .int (nI (k + 1))), (8, .int (nI k)), (6, .int 1), (0, .ref m), (1, .int (nI ra)), (2, .int (nI i)), (3, .int (nI rb)), (4, .int (nI j)), (5, .int (nI n))]) hx hb dX4_copy_198 hl (k := 1) rfl (nI_1 _) (by decide) rfl (fun ls hl => ?_)
                                refine lv_goto (tgt := 143) hx hb dX4_copy_201 (by decide) ?_
                                have hE_3 : upd (cpyU g (40 * ra + i) (40 * rb + j) k) (40 * rb + j + k) ((cpyU g (40 * ra + i) (40 * rb + j) k) (40 * ra + i + k)) = cpyU g (40 * ra + i) (40 * rb + j) (k + 1) := rfl
                                replace hP : va_P G.1 lzC (lzM m q (upd (upd S 0 0) 1 0) ++ (lzI G (q 2) 8 ln ++ (lzI G (q 3) 8 mn ++ (lzI G (q 4) 320 (cpyU g (40 * ra + i) (40 * rb + j) (k + 1)))))) H := by rw [← hE_3]; exact hP
                                replace hD : va_D A (lzM m q (upd (upd S 0 0) 1 0) ++ (lzI G (q 2) 8 ln ++ (lzI G (q 3) 8 mn ++ (lzI G (q 4) 320 (cpyU g (40 * ra + i) (40 * rb + j) (k + 1)))))) := by rw [← hE_3]; exact hD
                                exact ih_143 (k + 1) (by omega) (by omega) _ _ hP hD hS _ (lv_sub hl [0, 2, 3, 4, 5, 6, 7, 8] rfl)
                        have hE_4 : g = cpyU g (40 * ra + i) (40 * rb + j) 0 := rfl
                        replace hP : va_P G.1 lzC (lzM m q (upd (upd S 0 0) 1 0) ++ (lzI G (q 2) 8 ln ++ (lzI G (q 3) 8 mn ++ (lzI G (q 4) 320 (cpyU g (40 * ra + i) (40 * rb + j) 0))))) H := by rw [← hE_4]; exact hP
                        replace hD : va_D A (lzM m q (upd (upd S 0 0) 1 0) ++ (lzI G (q 2) 8 ln ++ (lzI G (q 3) 8 mn ++ (lzI G (q 4) 320 (cpyU g (40 * ra + i) (40 * rb + j) 0))))) := by rw [← hE_4]; exact hD
                        exact J_143 _ 0 (by omega) (Nat.lt_succ_self _) _ _ hP hD hS _ (lv_sub hl [0, 1, 2, 3, 4, 5, 6, 7] rfl)
                    · skip
                      have c_118 := mt (lg_cmp_le _ _).mpr c_118
                      have c_118' := Int64.not_le.mp c_118
                      exact absurd hp (by simp [cpyB, c_118])
          · skip
            exact absurd heq c_63
        · skip
          have c_42' := Int32.not_le.mp c_42
          exact absurd hm2 c_42
    · skip
      have c_16 := b2_z hr_2 c_16
      exact Bool.noConfusion (hB.symm.trans c_16)
set_option maxHeartbeats 4000000 in
set_option maxRecDepth 100000 in
theorem c_X4_copy_dn (l : Launch) (G : lzG) (m : Nat) (q : Nat → Nat) (S : Nat → Int32) (ln mn g : Nat → Int32) (ra rb i j n : Nat) (hra : ra < 8) (hrb : rb < 8) (hm1 : 0 ≤ ln ra) (hm2 : 0 ≤ ln rb) (heq : ln ra = ln rb) (hp : cpyB (mn ra) (mn rb) (nI i) (nI j) (nI n) = true) (hi40 : i + n ≤ 40) (hj40 : j + n ≤ 40) (hup : nI i < nI j) : Met l yX4_copy wsX4_copy ({ frames := 2, cells := 0, slots := 0, locals := 45 }) (va_Pc [.ref m, .int (nI ra), .int (nI i), .int (nI rb), .int (nI j), .int (nI n)] (rwP G (lzM m q S ++ (lzI G (q 2) 8 ln ++ (lzI G (q 3) 8 mn ++ (lzI G (q 4) 320 g)))))) (va_Qi (S := Unit) (fun (r : Int32) (_ : Unit) => r = nI n) (rwB G (fun _ : Unit => (lzM m q (upd (upd S 0 0) 1 0) ++ (lzI G (q 2) 8 ln ++ (lzI G (q 3) 8 mn ++ (lzI G (q 4) 320 (cpyD g (40 * ra + i) (40 * rb + j) n n))))))) (lzA (lzM m q S ++ (lzI G (q 2) 8 ln ++ (lzI G (q 3) 8 mn ++ (lzI G (q 4) 320 g)))))) 0 0 (lzA (lzM m q S ++ (lzI G (q 2) 8 ln ++ (lzI G (q 3) 8 mn ++ (lzI G (q 4) 320 g))))) := by
  have hA : inR (nI ra) 0 7 = true := inR_row hra
  have hB : inR (nI rb) 0 7 = true := inR_row hrb
  refine rw_start (S := Unit) (cc := cX4_copy) (maxL := 9) (ret := (some .int)) (by decide) rfl (Nat.le_of_ble_eq_true rfl) ?_
  intro pp ee ss mm bl me cd A hx hb hr hlk hml hts hown hP hK hD hAe hS ls hl
  have hA0 : ∀ zz : Nat, lzA (lzM m q S ++ (lzI G (q 2) 8 ln ++ (lzI G (q 3) 8 mn ++ (lzI G (q 4) 320 g)))) zz → A zz := fun zz h9 => by rw [hAe]; exact h9
  rw [← hAe]
  clear hAe
  have hown : ss.vm.findClass RX4 = some mm.cls := hown
  have hw1 := hts (.fieldLink RX4 48 "LampSquaresModel" "thrown" "I") (List.mem_of_getElem? (i := 1) rfl)
  have hw3 := hts (.fieldLink RX4 52 "LampSquaresModel" "status" "I") (List.mem_of_getElem? (i := 3) rfl)
  have hw4 := hts (.fieldLink RX4 7 "LampSquaresModel" "lane" "[I") (List.mem_of_getElem? (i := 4) rfl)
  have hw5 := hts (.fieldLink RX4 13 "LampSquaresModel" "many" "[I") (List.mem_of_getElem? (i := 5) rfl)
  have hw6 := hts (.fieldLink RX4 16 "LampSquaresModel" "item" "[I") (List.mem_of_getElem? (i := 6) rfl)
  have hu_wsX40 : ∀ w ∈ wsX40, w.before ([.ref m, .int (nI ra), .int (nI i), .int (nI rb), .int (nI j), .int (nI n)] : List Value).toArray ss = true := fun w h9 => hts w (List.mem_cons_of_mem _ (List.mem_append_right _ h9))
  have hl : lv_has ls 9 [(0, .ref m), (1, .int (nI ra)), (2, .int (nI i)), (3, .int (nI rb)), (4, .int (nI j)), (5, .int (nI n))] := hl
  refine lv_aload_n hx hb dX4_copy_0 rfl (lv_at hl 0 rfl) ?_
  refine lv_iconst (v := 0) hx hb dX4_copy_1 (by decide) ?_
  refine lz_put (G := G) (ci := 4) (C := RX4) (T := TX4) (N := 24) hx hb hu_wsX40 (fun _ h9 => h9) tyX4 tyX4_ok nmX4 hown hK hP hD hS 0 rfl rfl 0 (by decide) hw1 rfl rfl (by decide +kernel) (Nat.le_of_ble_eq_true rfl) dX4_copy_2 (lzM m q (upd S 0 0) ++ (lzI G (q 2) 8 ln ++ (lzI G (q 3) 8 mn ++ (lzI G (q 4) 320 g)))) rfl (fun H locs hP hD hS => ?_)
  refine lv_iload_n hx hb dX4_copy_5 rfl (lv_at hl 1 rfl) ?_
  refine ro_calli (va_runS (As := [.int (nI ra)]) (rest := []) ⟨hx, hb, hml, hown, hts⟩ (c_X4_isRow l G (nI ra) ) (cwS 1 hts gX4_copy_X4_isRow rfl rfl rfl (by decide +kernel) ⟨Nat.le_of_ble_eq_true rfl, Nat.le_of_ble_eq_true rfl⟩) (ro_pre hK (fun k q h => by simp at h)) rfl rfl hl.1 rfl (lv_room (Nat.le_of_ble_eq_true rfl)) dX4_copy_6 ⟨Nat.zero_le _, Nat.zero_le _⟩) (fun r_1 hr_1 => ?_)
  refine lv_if_eq (tgt := 19) hx hb dX4_copy_9 (by decide) (fun c_9 => ?_) (fun c_9 => ?_)
  · skip
    have c_9 := b2_z hr_1 c_9
    exact Bool.noConfusion (hA.symm.trans c_9)
  · skip
    have c_9 := b2_n hr_1 c_9
    refine lv_iload_n hx hb dX4_copy_12 rfl (lv_at hl 3 rfl) ?_
    refine ro_calli (va_runS (As := [.int (nI rb)]) (rest := []) ⟨hx, hb, hml, hown, hts⟩ (c_X4_isRow l G (nI rb) ) (cwS 1 hts gX4_copy_X4_isRow rfl rfl rfl (by decide +kernel) ⟨Nat.le_of_ble_eq_true rfl, Nat.le_of_ble_eq_true rfl⟩) (ro_pre hK (fun k q h => by simp at h)) rfl rfl hl.1 rfl (lv_room (Nat.le_of_ble_eq_true rfl)) dX4_copy_13 ⟨Nat.zero_le _, Nat.zero_le _⟩) (fun r_2 hr_2 => ?_)
    refine lv_if_ne (tgt := 22) hx hb dX4_copy_16 (by decide) (fun c_16 => ?_) (fun c_16 => ?_)
    · skip
      have c_16 := b2_n hr_2 c_16
      refine lv_aload_n hx hb dX4_copy_22 rfl (lv_at hl 0 rfl) ?_
      refine lv_iconst (v := 0) hx hb dX4_copy_23 (by decide) ?_
      refine lz_put (G := G) (ci := 4) (C := RX4) (T := TX4) (N := 24) hx hb hu_wsX40 (fun _ h9 => h9) tyX4 tyX4_ok nmX4 hown hK hP hD hS 0 rfl rfl 1 (by decide) hw3 rfl rfl (by decide +kernel) (Nat.le_of_ble_eq_true rfl) dX4_copy_24 (lzM m q (upd (upd S 0 0) 1 0) ++ (lzI G (q 2) 8 ln ++ (lzI G (q 3) 8 mn ++ (lzI G (q 4) 320 g)))) rfl (fun H locs hP hD hS => ?_)
      refine lv_aload_n hx hb dX4_copy_27 rfl (lv_at hl 0 rfl) ?_
      refine lz_get (G := G) (ci := 4) (v := .ref (q 2)) (C := RX4) (T := TX4) (N := 24) hx hb hu_wsX40 (fun _ h9 => h9) hown hK hP 0 rfl rfl 2 (by decide) hw4 rfl rfl dX4_copy_28 ?_
      refine lv_iload_n hx hb dX4_copy_31 rfl (lv_at hl 1 rfl) ?_
      refine lz_iald (f := ln) hx hb hK hP 1 rfl ra (by omega) (Nat.le_of_ble_eq_true rfl) dX4_copy_32 ?_
      refine lv_if_lt (tgt := 45) hx hb dX4_copy_33 (by decide) (fun c_33 => ?_) (fun c_33 => ?_)
      · skip
        have c_33' := Int32.not_le.mpr c_33
        exact absurd hm1 (Int32.not_le.mpr c_33)
      · skip
        have c_33' := Int32.not_lt.mp c_33
        refine lv_aload_n hx hb dX4_copy_36 rfl (lv_at hl 0 rfl) ?_
        refine lz_get (G := G) (ci := 4) (v := .ref (q 2)) (C := RX4) (T := TX4) (N := 24) hx hb hu_wsX40 (fun _ h9 => h9) hown hK hP 0 rfl rfl 2 (by decide) hw4 rfl rfl dX4_copy_37 ?_
        refine lv_iload_n hx hb dX4_copy_40 rfl (lv_at hl 3 rfl) ?_
        refine lz_iald (f := ln) hx hb hK hP 1 rfl rb (by omega) (Nat.le_of_ble_eq_true rfl) dX4_copy_41 ?_
        refine lv_if_ge (tgt := 51) hx hb dX4_copy_42 (by decide) (fun c_42 => ?_) (fun c_42 => ?_)
        · skip
          have c_42' := Int32.not_lt.mpr c_42
          refine lv_aload_n hx hb dX4_copy_51 rfl (lv_at hl 0 rfl) ?_
          refine lz_get (G := G) (ci := 4) (v := .ref (q 2)) (C := RX4) (T := TX4) (N := 24) hx hb hu_wsX40 (fun _ h9 => h9) hown hK hP 0 rfl rfl 2 (by decide) hw4 rfl rfl dX4_copy_52 ?_
          refine lv_iload_n hx hb dX4_copy_55 rfl (lv_at hl 1 rfl) ?_
          refine lz_iald (f := ln) hx hb hK hP 1 rfl ra (by omega) (Nat.le_of_ble_eq_true rfl) dX4_copy_56 ?_
          refine lv_aload_n hx hb dX4_copy_57 rfl (lv_at hl 0 rfl) ?_
          refine lz_get (G := G) (ci := 4) (v := .ref (q 2)) (C := RX4) (T := TX4) (N := 24) hx hb hu_wsX40 (fun _ h9 => h9) hown hK hP 0 rfl rfl 2 (by decide) hw4 rfl rfl dX4_copy_58 ?_
          refine lv_iload_n hx hb dX4_copy_61 rfl (lv_at hl 3 rfl) ?_
          refine lz_iald (f := ln) hx hb hK hP 1 rfl rb (by omega) (Nat.le_of_ble_eq_true rfl) dX4_copy_62 ?_
          refine lv_icmp_eq (tgt := 72) hx hb dX4_copy_63 (by decide) (fun c_63 => ?_) (fun c_63 => ?_)
          · skip
            refine lv_iload_n hx hb dX4_copy_72 rfl (lv_at hl 2 rfl) ?_
            refine lv_if_lt (tgt := 121) hx hb dX4_copy_73 (by decide) (fun c_73 => ?_) (fun c_73 => ?_)
            · skip
              have c_73' := Int32.not_le.mpr c_73
              exact absurd hp (by simp [cpyB, c_73])
            · skip
              have c_73' := Int32.not_lt.mp c_73
              refine lv_iload hx hb dX4_copy_76 (lv_at hl 4 rfl) ?_
              refine lv_if_lt (tgt := 121) hx hb dX4_copy_78 (by decide) (fun c_78 => ?_) (fun c_78 => ?_)
              · skip
                have c_78' := Int32.not_le.mpr c_78
                exact absurd hp (by simp [cpyB, c_78])
              · skip
                have c_78' := Int32.not_lt.mp c_78
                refine lv_iload hx hb dX4_copy_81 (lv_at hl 5 rfl) ?_
                refine lv_if_lt (tgt := 121) hx hb dX4_copy_83 (by decide) (fun c_83 => ?_) (fun c_83 => ?_)
                · skip
                  have c_83' := Int32.not_le.mpr c_83
                  exact absurd hp (by simp [cpyB, c_83])
                · skip
                  have c_83' := Int32.not_lt.mp c_83
                  refine lv_iload_n hx hb dX4_copy_86 rfl (lv_at hl 2 rfl) ?_
                  refine lv_i2l hx hb dX4_copy_87 rfl ?_
                  refine lv_iload hx hb dX4_copy_88 (lv_at hl 5 rfl) ?_
                  refine lv_i2l hx hb dX4_copy_90 rfl ?_
                  refine lv_ladd hx hb dX4_copy_91 ?_
                  refine lv_aload_n hx hb dX4_copy_92 rfl (lv_at hl 0 rfl) ?_
                  refine lz_get (G := G) (ci := 4) (v := .ref (q 3)) (C := RX4) (T := TX4) (N := 24) hx hb hu_wsX40 (fun _ h9 => h9) hown hK hP 0 rfl rfl 3 (by decide) hw5 rfl rfl dX4_copy_93 ?_
                  refine lv_iload_n hx hb dX4_copy_96 rfl (lv_at hl 1 rfl) ?_
                  refine lz_iald (f := mn) hx hb hK hP 2 rfl ra (by omega) (Nat.le_of_ble_eq_true rfl) dX4_copy_97 ?_
                  refine lv_i2l hx hb dX4_copy_98 rfl ?_
                  refine W.lcmp hx hb dX4_copy_99 ?_
                  refine lv_if_gt (tgt := 121) hx hb dX4_copy_100 (by decide) (fun c_100 => ?_) (fun c_100 => ?_)
                  · skip
                    have c_100 := (lg_gt _ _).mp c_100
                    have c_100' := Int64.not_le.mpr c_100
                    exact absurd hp (by simp [cpyB, c_100])
                  · skip
                    have c_100 := mt (lg_gt _ _).mpr c_100
                    have c_100' := Int64.not_lt.mp c_100
                    refine lv_iload hx hb dX4_copy_103 (lv_at hl 4 rfl) ?_
                    refine lv_i2l hx hb dX4_copy_105 rfl ?_
                    refine lv_iload hx hb dX4_copy_106 (lv_at hl 5 rfl) ?_
                    refine lv_i2l hx hb dX4_copy_108 rfl ?_
                    refine lv_ladd hx hb dX4_copy_109 ?_
                    refine lv_aload_n hx hb dX4_copy_110 rfl (lv_at hl 0 rfl) ?_
                    refine lz_get (G := G) (ci := 4) (v := .ref (q 3)) (C := RX4) (T := TX4) (N := 24) hx hb hu_wsX40 (fun _ h9 => h9) hown hK hP 0 rfl rfl 3 (by decide) hw5 rfl rfl dX4_copy_111 ?_
                    refine lv_iload_n hx hb dX4_copy_114 rfl (lv_at hl 3 rfl) ?_
                    refine lz_iald (f := mn) hx hb hK hP 2 rfl rb (by omega) (Nat.le_of_ble_eq_true rfl) dX4_copy_115 ?_
                    refine lv_i2l hx hb dX4_copy_116 rfl ?_
                    refine W.lcmp hx hb dX4_copy_117 ?_
                    refine lv_if_le (tgt := 127) hx hb dX4_copy_118 (by decide) (fun c_118 => ?_) (fun c_118 => ?_)
                    · skip
                      have c_118 := (lg_cmp_le _ _).mp c_118
                      have c_118' := Int64.not_lt.mpr c_118
                      refine lv_iload_n hx hb dX4_copy_127 rfl (lv_at hl 2 rfl) ?_
                      refine lv_iload hx hb dX4_copy_128 (lv_at hl 4 rfl) ?_
                      refine lv_icmp_lt (tgt := 137) hx hb dX4_copy_130 (by decide) (fun c_130 => ?_) (fun c_130 => ?_)
                      · skip
                        have c_130' := Int32.not_le.mpr c_130
                        refine lv_iconst (v := 0) hx hb dX4_copy_137 (by decide) ?_
                        refine lv_istore (lv' := [(6, .int 0), (0, .ref m), (1, .int (nI ra)), (2, .int (nI i)), (3, .int (nI rb)), (4, .int (nI j)), (5, .int (nI n))]) hx hb dX4_copy_138 hl (by decide) rfl (fun ls hl => ?_)
                        refine lv_iconst (v := 0) hx hb dX4_copy_140 (by decide) ?_
                        refine lv_istore (lv' := [(7, .int 0), (6, .int 0), (0, .ref m), (1, .int (nI ra)), (2, .int (nI i)), (3, .int (nI rb)), (4, .int (nI j)), (5, .int (nI n))]) hx hb dX4_copy_141 hl (by decide) rfl (fun ls hl => ?_)
                        have J_143 : ∀ (n9 : Nat), ∀ (k : Nat), (k ≤ n) → n - k < n9 → ∀ (H : Heap) (locs : List Loc), va_P G.1 lzC (lzM m q (upd (upd S 0 0) 1 0) ++ (lzI G (q 2) 8 ln ++ (lzI G (q 3) 8 mn ++ (lzI G (q 4) 320 (cpyD g (40 * ra + i) (40 * rb + j) n k))))) H → va_D A (lzM m q (upd (upd S 0 0) 1 0) ++ (lzI G (q 2) 8 ln ++ (lzI G (q 3) 8 mn ++ (lzI G (q 4) 320 (cpyD g (40 * ra + i) (40 * rb + j) n k))))) → va_S A ss.heap H locs → ∀ ls : Array Slot, lv_has ls 9 [(7, .int (nI k)), (6, .int 0), (0, .ref m), (1, .int (nI ra)), (2, .int (nI i)), (3, .int (nI rb)), (4, .int (nI j)), (5, .int (nI n))] → W pp l ee ({ frames := 2, cells := 0, slots := 0, locals := 45 }) ss mm ([.ref m, .int (nI ra), .int (nI i), .int (nI rb), .int (nI j), .int (nI n)] : List Value).toArray bl me cd H locs 0 0 (MQ bl (va_Qi (S := Unit) (fun (r : Int32) (_ : Unit) => r = nI n) (rwB G (fun _ : Unit => (lzM m q (upd (upd S 0 0) 1 0) ++ (lzI G (q 2) 8 ln ++ (lzI G (q 3) 8 mn ++ (lzI G (q 4) 320 (cpyD g (40 * ra + i) (40 * rb + j) n n))))))) A) ([.ref m, .int (nI ra), .int (nI i), .int (nI rb), .int (nI j), .int (nI n)] : List Value).toArray ss 0 0 A) (F0 mm 143 ls []) := by
                          intro n9
                          induction n9 with
                          | zero => intro k hk hn; exact absurd hn (Nat.not_lt_zero _)
                          | succ n9 ih_143 =>
                            intro k hk hn_143 H locs hP hD hS ls hl
                            refine lv_iload hx hb dX4_copy_143 (lv_at hl 0 rfl) ?_
                            refine lv_iload hx hb dX4_copy_145 (lv_at hl 7 rfl) ?_
                            refine lv_icmp_ge (tgt := 204) hx hb dX4_copy_147 (by decide) (fun c_147 => ?_) (fun c_147 => ?_)
                            · skip
                              have c_147' := Int32.not_lt.mpr c_147
                              have hk2 : n ≤ k := (nI_leI (by omega) (by omega)).mp c_147
                              have hk3 : k = n := by omega
                              refine lv_iload hx hb dX4_copy_204 (lv_at hl 7 rfl) ?_
                              exact rw_iret (S := Unit) (G := G) (Wd := fun _ : Unit => (lzM m q (upd (upd S 0 0) 1 0) ++ (lzI G (q 2) 8 ln ++ (lzI G (q 3) 8 mn ++ (lzI G (q 4) 320 (cpyD g (40 * ra + i) (40 * rb + j) n n)))))) () hx hb hr hlk dX4_copy_206 hS (by rw [hk3] at hP; exact hP) (rfl)
                            · skip
                              have c_147' := Int32.not_le.mp c_147
                              have hk2 : k < n := by have h9 := mt (nI_leI (by omega) (by omega)).mpr c_147; omega
                              refine lv_iload hx hb dX4_copy_150 (lv_at hl 1 rfl) ?_
                              refine lv_if_eq (tgt := 160) hx hb dX4_copy_152 (by decide) (fun c_152 => ?_) (fun c_152 => ?_)
                              · skip
                                refine lv_iload hx hb dX4_copy_160 (lv_at hl 7 rfl) ?_
                                refine lv_iconst (v := 1) hx hb dX4_copy_162 (by decide) ?_
                                refine lv_isub hx hb dX4_copy_163 ?_
                                refine lv_iload hx hb dX4_copy_164 (lv_at hl 0 rfl) ?_
                                refine lv_isub hx hb dX4_copy_166 ?_
                                refine lz_top (y := nI (n - 1 - k)) (cp_at hk2) ?_
                                refine lv_istore (lv' := [(8, .int (nI (n - 1 - k))), (7, .int (nI k)), (6, .int 0), (0, .ref m), (1, .int (nI ra)), (2, .int (nI i)), (3, .int (nI rb)), (4, .int (nI j)), (5, .int (nI n))]) hx hb dX4_copy_167 hl (by decide) rfl (fun ls hl => ?_)
                                refine lv_aload_n hx hb dX4_copy_169 rfl (lv_at hl 3 rfl) ?_
                                refine lz_get (G := G) (ci := 4) (v := .ref (q 4)) (C := RX4) (T := TX4) (N := 24) hx hb hu_wsX40 (fun _ h9 => h9) hown hK hP 0 rfl rfl 4 (by decide) hw6 rfl rfl dX4_copy_170 ?_
                                refine lv_bipush (v := 40) hx hb dX4_copy_173 (by decide) ?_
                                refine lv_iload_n hx hb dX4_copy_175 rfl (lv_at hl 6 rfl) ?_
                                refine lv_imul hx hb dX4_copy_176 ?_
                                refine lv_iload hx hb dX4_copy_177 (lv_at hl 7 rfl) ?_
                                refine lv_iadd hx hb dX4_copy_179 ?_
                                refine lv_iload hx hb dX4_copy_180 (lv_at hl 0 rfl) ?_
                                refine lv_iadd hx hb dX4_copy_182 ?_
                                refine lz_top (y := nI (40 * rb + j + (n - 1 - k))) (by simp only [fa_lit, pk_mul, nI_add]) ?_
                                refine lv_aload_n hx hb dX4_copy_183 rfl (lv_at hl 3 rfl) ?_
                                refine lz_get (G := G) (ci := 4) (v := .ref (q 4)) (C := RX4) (T := TX4) (N := 24) hx hb hu_wsX40 (fun _ h9 => h9) hown hK hP 0 rfl rfl 4 (by decide) hw6 rfl rfl dX4_copy_184 ?_
                                refine lv_bipush (v := 40) hx hb dX4_copy_187 (by decide) ?_
                                refine lv_iload_n hx hb dX4_copy_189 rfl (lv_at hl 4 rfl) ?_
                                refine lv_imul hx hb dX4_copy_190 ?_
                                refine lv_iload_n hx hb dX4_copy_191 rfl (lv_at hl 5 rfl) ?_
                                refine lv_iadd hx hb dX4_copy_192 ?_
                                refine lv_iload hx hb dX4_copy_193 (lv_at hl 0 rfl) ?_
                                refine lv_iadd hx hb dX4_copy_195 ?_
                                refine lz_top (y := nI (40 * ra + i + (n - 1 - k))) (by simp only [fa_lit, pk_mul, nI_add]) ?_
                                refine lz_iald (f := cpyD g (40 * ra + i) (40 * rb + j) n k) hx hb hK hP 3 rfl (40 * ra + i + (n - 1 - k)) (by omega) (Nat.le_of_ble_eq_true rfl) dX4_copy_196 ?_
                                refine lz_iast (f := cpyD g (40 * ra + i) (40 * rb + j) n k) hx hb hK hP hD hS 3 rfl (40 * rb + j + (n - 1 - k)) (by omega) (Nat.le_of_ble_eq_true rfl) dX4_copy_197 (lzM m q (upd (upd S 0 0) 1 0) ++ (lzI G (q 2) 8 ln ++ (lzI G (q 3) 8 mn ++ (lzI G (q 4) 320 (upd (cpyD g (40 * ra + i) (40 * rb + j) n k) (40 * rb + j + (n - 1 - k)) ((cpyD g (40 * ra + i) (40 * rb + j) n k) (40 * ra + i + (n - 1 - k)))))))) rfl (fun H locs hP hD hS => ?_)
                                refine lv_iinc (v := nI (k + 1)) (lv' := [(7, .int (nI (k + 1))), (8, .int (nI (n - 1 - k))), (6, .int 0), (0, .ref m), (1, .int (nI ra)), (2, .int (nI i)), (3, .int (nI rb)), (4, .int (nI j)), (5, .int (nI n))]) hx hb dX4_copy_198 hl (k := 1) rfl (nI_1 _) (by decide) rfl (fun ls hl => ?_)
                                refine lv_goto (tgt := 143) hx hb dX4_copy_201 (by decide) ?_
                                have hE_3 : upd (cpyD g (40 * ra + i) (40 * rb + j) n k) (40 * rb + j + (n - 1 - k)) ((cpyD g (40 * ra + i) (40 * rb + j) n k) (40 * ra + i + (n - 1 - k))) = cpyD g (40 * ra + i) (40 * rb + j) n (k + 1) := rfl
                                replace hP : va_P G.1 lzC (lzM m q (upd (upd S 0 0) 1 0) ++ (lzI G (q 2) 8 ln ++ (lzI G (q 3) 8 mn ++ (lzI G (q 4) 320 (cpyD g (40 * ra + i) (40 * rb + j) n (k + 1)))))) H := by rw [← hE_3]; exact hP
                                replace hD : va_D A (lzM m q (upd (upd S 0 0) 1 0) ++ (lzI G (q 2) 8 ln ++ (lzI G (q 3) 8 mn ++ (lzI G (q 4) 320 (cpyD g (40 * ra + i) (40 * rb + j) n (k + 1)))))) := by rw [← hE_3]; exact hD
                                exact ih_143 (k + 1) (by omega) (by omega) _ _ hP hD hS _ (lv_sub hl [0, 2, 3, 4, 5, 6, 7, 8] rfl)
                              · skip
                                exact False.elim (by revert c_152; decide)
                        have hE_4 : g = cpyD g (40 * ra + i) (40 * rb + j) n 0 := rfl
                        replace hP : va_P G.1 lzC (lzM m q (upd (upd S 0 0) 1 0) ++ (lzI G (q 2) 8 ln ++ (lzI G (q 3) 8 mn ++ (lzI G (q 4) 320 (cpyD g (40 * ra + i) (40 * rb + j) n 0))))) H := by rw [← hE_4]; exact hP
                        replace hD : va_D A (lzM m q (upd (upd S 0 0) 1 0) ++ (lzI G (q 2) 8 ln ++ (lzI G (q 3) 8 mn ++ (lzI G (q 4) 320 (cpyD g (40 * ra + i) (40 * rb + j) n 0))))) := by rw [← hE_4]; exact hD
                        exact J_143 _ 0 (by omega) (Nat.lt_succ_self _) _ _ hP hD hS _ (lv_sub hl [0, 1, 2, 3, 4, 5, 6, 7] rfl)
                      · skip
                        have c_130' := Int32.not_lt.mp c_130
                        exact absurd hup c_130
                    · skip
                      have c_118 := mt (lg_cmp_le _ _).mpr c_118
                      have c_118' := Int64.not_le.mp c_118
                      exact absurd hp (by simp [cpyB, c_118])
          · skip
            exact absurd heq c_63
        · skip
          have c_42' := Int32.not_le.mp c_42
          exact absurd hm2 c_42
    · skip
      have c_16 := b2_z hr_2 c_16
      exact Bool.noConfusion (hB.symm.trans c_16)
