set_option maxHeartbeats 4000000 in
set_option maxRecDepth 100000 in
theorem c_X4_rowFound_null (l : Launch) (G : lzG) (m : Nat) (q : Nat → Nat) (S : Nat → Int32) (ln mn : Nat → Int32) (rr : Nat) (i n : Int32) (hrw : rr < 8) (hm : ln rr < 0) : Met l yX4_rowFound wsX4_rowFound ({ frames := 1, cells := 0, slots := 0, locals := 21 }) (va_Pc [.ref m, .int (nI rr), .int i, .int n] (rwP G (lzM m q S ++ (lzI G (q 2) 8 ln ++ (lzI G (q 3) 8 mn))))) (va_Qi (S := Unit) (fun (r : Int32) (_ : Unit) => r = -1000011) (rwB G (fun _ : Unit => (lzM m q (upd S 1 1) ++ (lzI G (q 2) 8 ln ++ (lzI G (q 3) 8 mn))))) (lzA (lzM m q S ++ (lzI G (q 2) 8 ln ++ (lzI G (q 3) 8 mn))))) 0 0 (lzA (lzM m q S ++ (lzI G (q 2) 8 ln ++ (lzI G (q 3) 8 mn)))) := by
  refine rw_start (S := Unit) (cc := cX4_rowFound) (maxL := 4) (ret := (some .int)) (by decide) rfl (Nat.le_of_ble_eq_true rfl) ?_
  intro pp ee ss mm bl me cd A hx hb hr hlk hml hts hown hP hK hD hAe hS ls hl
  have hA0 : ∀ zz : Nat, lzA (lzM m q S ++ (lzI G (q 2) 8 ln ++ (lzI G (q 3) 8 mn))) zz → A zz := fun zz h9 => by rw [hAe]; exact h9
  rw [← hAe]
  clear hAe
  have hown : ss.vm.findClass RX4 = some mm.cls := hown
  have hw1 := hts (.fieldLink RX4 7 "LampSquaresModel" "lane" "[I") (List.mem_of_getElem? (i := 1) rfl)
  have hu_wsX40 : ∀ w ∈ wsX40, w.before ([.ref m, .int (nI rr), .int i, .int n] : List Value).toArray ss = true := fun w h9 => hts w (List.mem_cons_of_mem _ (List.mem_append_right _ h9))
  have hl : lv_has ls 4 [(0, .ref m), (1, .int (nI rr)), (2, .int i), (3, .int n)] := hl
  refine lv_aload_n hx hb dX4_rowFound_0 rfl (lv_at hl 0 rfl) ?_
  refine lz_get (G := G) (ci := 4) (v := .ref (q 2)) (C := RX4) (T := TX4) (N := 24) hx hb hu_wsX40 (fun _ h9 => h9) hown hK hP 0 rfl rfl 2 (by decide) hw1 rfl rfl dX4_rowFound_1 ?_
  refine lv_iload_n hx hb dX4_rowFound_4 rfl (lv_at hl 1 rfl) ?_
  refine lz_iald (f := ln) hx hb hK hP 1 rfl rr (by omega) (Nat.le_of_ble_eq_true rfl) dX4_rowFound_5 ?_
  refine lv_if_ge (tgt := 15) hx hb dX4_rowFound_6 (by decide) (fun c_6 => ?_) (fun c_6 => ?_)
  · skip
    have c_6' := Int32.not_lt.mpr c_6
    exact absurd hm (Int32.not_lt.mpr c_6)
  · skip
    have c_6' := Int32.not_le.mp c_6
    refine lv_aload_n hx hb dX4_rowFound_9 rfl (lv_at hl 0 rfl) ?_
    refine lv_iconst (v := 1) hx hb dX4_rowFound_10 (by decide) ?_
    have hPc := hP.sub (ws' := lzM m q S) [0] rfl
    have hDc := hD.sub (ws' := lzM m q S) [0] (by decide) rfl
    have hFc : ∀ zz : Nat, lzA (lzM m q S) zz → A zz := lz_free hD [0] rfl
    refine va_calli (va_runV (As := [.int 1]) (rest := []) ⟨hx, hb, hml, hown, hts⟩ (c_X4_finding l G m q S 1 ) (cwV 1 hts gX4_rowFound_X4_finding rfl rfl rfl (by decide +kernel) ⟨Nat.le_of_ble_eq_true rfl, Nat.le_of_ble_eq_true rfl⟩) (rw_preV hK hPc hDc hP (ci := 4) (q0 := 0) rfl rfl) rfl rfl hl.1 rfl (lv_room (Nat.le_of_ble_eq_true rfl)) dX4_rowFound_11 ⟨Nat.zero_le _, Nat.zero_le _⟩) hS (fun q _ h => hFc q h) hFc (fun r_1 u_2 t9 H1 locs ht hvm hr_1 hB hz1 hk1 hS => ?_)
    replace hB : va_P G.1 lzC _ t9.heap := hB
    rw [ht] at hB
    obtain ⟨hP, hD⟩ := lz_join (wc := lzM m q S) (wr := ([(q 2, .inl (G.2 0, 8, .inl ln)), (q 3, .inl (G.2 0, 8, .inl mn))] : va_W)) (w1 := lzM m q (upd S 1 1)) hP hD [0] [1, 2] rfl rfl (by decide) (by decide) rfl hk1 hB
    replace hP := hP.sub (ws' := (lzM m q (upd S 1 1) ++ (lzI G (q 2) 8 ln ++ (lzI G (q 3) 8 mn)))) [2, 0, 1] rfl
    replace hD := hD.sub (ws' := (lzM m q (upd S 1 1) ++ (lzI G (q 2) 8 ln ++ (lzI G (q 3) 8 mn)))) [2, 0, 1] (by decide) rfl
    clear ht hvm hB hz1 hk1
    generalize H1 = H at hP hS ⊢
    refine lz_top (y := -1000010 - 1) hr_1 ?_
    exact rw_iret (S := Unit) (G := G) (Wd := fun _ : Unit => (lzM m q (upd S 1 1) ++ (lzI G (q 2) 8 ln ++ (lzI G (q 3) 8 mn)))) () hx hb hr hlk dX4_rowFound_14 hS (hP) (rfl)
set_option maxHeartbeats 4000000 in
set_option maxRecDepth 100000 in
theorem c_X4_rowFound_place (l : Launch) (G : lzG) (m : Nat) (q : Nat → Nat) (S : Nat → Int32) (ln mn : Nat → Int32) (rr : Nat) (i n : Int32) (hrw : rr < 8) (hm : 0 ≤ ln rr) (hp : plcM (mn rr) i n = true) : Met l yX4_rowFound wsX4_rowFound ({ frames := 1, cells := 0, slots := 0, locals := 21 }) (va_Pc [.ref m, .int (nI rr), .int i, .int n] (rwP G (lzM m q S ++ (lzI G (q 2) 8 ln ++ (lzI G (q 3) 8 mn))))) (va_Qi (S := Unit) (fun (r : Int32) (_ : Unit) => r = -1000012) (rwB G (fun _ : Unit => (lzM m q (upd S 1 2) ++ (lzI G (q 2) 8 ln ++ (lzI G (q 3) 8 mn))))) (lzA (lzM m q S ++ (lzI G (q 2) 8 ln ++ (lzI G (q 3) 8 mn))))) 0 0 (lzA (lzM m q S ++ (lzI G (q 2) 8 ln ++ (lzI G (q 3) 8 mn)))) := by
  refine rw_start (S := Unit) (cc := cX4_rowFound) (maxL := 4) (ret := (some .int)) (by decide) rfl (Nat.le_of_ble_eq_true rfl) ?_
  intro pp ee ss mm bl me cd A hx hb hr hlk hml hts hown hP hK hD hAe hS ls hl
  have hA0 : ∀ zz : Nat, lzA (lzM m q S ++ (lzI G (q 2) 8 ln ++ (lzI G (q 3) 8 mn))) zz → A zz := fun zz h9 => by rw [hAe]; exact h9
  rw [← hAe]
  clear hAe
  have hown : ss.vm.findClass RX4 = some mm.cls := hown
  have hw1 := hts (.fieldLink RX4 7 "LampSquaresModel" "lane" "[I") (List.mem_of_getElem? (i := 1) rfl)
  have hw2 := hts (.fieldLink RX4 13 "LampSquaresModel" "many" "[I") (List.mem_of_getElem? (i := 2) rfl)
  have hu_wsX40 : ∀ w ∈ wsX40, w.before ([.ref m, .int (nI rr), .int i, .int n] : List Value).toArray ss = true := fun w h9 => hts w (List.mem_cons_of_mem _ (List.mem_append_right _ h9))
  have hl : lv_has ls 4 [(0, .ref m), (1, .int (nI rr)), (2, .int i), (3, .int n)] := hl
  refine lv_aload_n hx hb dX4_rowFound_0 rfl (lv_at hl 0 rfl) ?_
  refine lz_get (G := G) (ci := 4) (v := .ref (q 2)) (C := RX4) (T := TX4) (N := 24) hx hb hu_wsX40 (fun _ h9 => h9) hown hK hP 0 rfl rfl 2 (by decide) hw1 rfl rfl dX4_rowFound_1 ?_
  refine lv_iload_n hx hb dX4_rowFound_4 rfl (lv_at hl 1 rfl) ?_
  refine lz_iald (f := ln) hx hb hK hP 1 rfl rr (by omega) (Nat.le_of_ble_eq_true rfl) dX4_rowFound_5 ?_
  refine lv_if_ge (tgt := 15) hx hb dX4_rowFound_6 (by decide) (fun c_6 => ?_) (fun c_6 => ?_)
  · skip
    have c_6' := Int32.not_lt.mpr c_6
    refine lv_iload_n hx hb dX4_rowFound_15 rfl (lv_at hl 2 rfl) ?_
    refine lv_if_lt (tgt := 35) hx hb dX4_rowFound_16 (by decide) (fun c_16 => ?_) (fun c_16 => ?_)
    · skip
      have c_16' := Int32.not_le.mpr c_16
      refine lv_aload_n hx hb dX4_rowFound_35 rfl (lv_at hl 0 rfl) ?_
      refine lv_iconst (v := 2) hx hb dX4_rowFound_36 (by decide) ?_
      have hPc := hP.sub (ws' := lzM m q S) [0] rfl
      have hDc := hD.sub (ws' := lzM m q S) [0] (by decide) rfl
      have hFc : ∀ zz : Nat, lzA (lzM m q S) zz → A zz := lz_free hD [0] rfl
      refine va_calli (va_runV (As := [.int 2]) (rest := []) ⟨hx, hb, hml, hown, hts⟩ (c_X4_finding l G m q S 2 ) (cwV 1 hts gX4_rowFound_X4_finding rfl rfl rfl (by decide +kernel) ⟨Nat.le_of_ble_eq_true rfl, Nat.le_of_ble_eq_true rfl⟩) (rw_preV hK hPc hDc hP (ci := 4) (q0 := 0) rfl rfl) rfl rfl hl.1 rfl (lv_room (Nat.le_of_ble_eq_true rfl)) dX4_rowFound_37 ⟨Nat.zero_le _, Nat.zero_le _⟩) hS (fun q _ h => hFc q h) hFc (fun r_1 u_2 t9 H1 locs ht hvm hr_1 hB hz1 hk1 hS => ?_)
      replace hB : va_P G.1 lzC _ t9.heap := hB
      rw [ht] at hB
      obtain ⟨hP, hD⟩ := lz_join (wc := lzM m q S) (wr := ([(q 2, .inl (G.2 0, 8, .inl ln)), (q 3, .inl (G.2 0, 8, .inl mn))] : va_W)) (w1 := lzM m q (upd S 1 2)) hP hD [0] [1, 2] rfl rfl (by decide) (by decide) rfl hk1 hB
      replace hP := hP.sub (ws' := (lzM m q (upd S 1 2) ++ (lzI G (q 2) 8 ln ++ (lzI G (q 3) 8 mn)))) [2, 0, 1] rfl
      replace hD := hD.sub (ws' := (lzM m q (upd S 1 2) ++ (lzI G (q 2) 8 ln ++ (lzI G (q 3) 8 mn)))) [2, 0, 1] (by decide) rfl
      clear ht hvm hB hz1 hk1
      generalize H1 = H at hP hS ⊢
      refine lz_top (y := -1000010 - 2) hr_1 ?_
      exact rw_iret (S := Unit) (G := G) (Wd := fun _ : Unit => (lzM m q (upd S 1 2) ++ (lzI G (q 2) 8 ln ++ (lzI G (q 3) 8 mn)))) () hx hb hr hlk dX4_rowFound_40 hS (hP) (rfl)
    · skip
      have c_16' := Int32.not_lt.mp c_16
      refine lv_iload_n hx hb dX4_rowFound_19 rfl (lv_at hl 2 rfl) ?_
      refine lv_i2l hx hb dX4_rowFound_20 rfl ?_
      refine lv_iload_n hx hb dX4_rowFound_21 rfl (lv_at hl 3 rfl) ?_
      refine lv_i2l hx hb dX4_rowFound_22 rfl ?_
      refine lv_ladd hx hb dX4_rowFound_23 ?_
      refine lv_aload_n hx hb dX4_rowFound_24 rfl (lv_at hl 0 rfl) ?_
      refine lz_get (G := G) (ci := 4) (v := .ref (q 3)) (C := RX4) (T := TX4) (N := 24) hx hb hu_wsX40 (fun _ h9 => h9) hown hK hP 0 rfl rfl 3 (by decide) hw2 rfl rfl dX4_rowFound_25 ?_
      refine lv_iload_n hx hb dX4_rowFound_28 rfl (lv_at hl 1 rfl) ?_
      refine lz_iald (f := mn) hx hb hK hP 2 rfl rr (by omega) (Nat.le_of_ble_eq_true rfl) dX4_rowFound_29 ?_
      refine lv_i2l hx hb dX4_rowFound_30 rfl ?_
      refine W.lcmp hx hb dX4_rowFound_31 ?_
      refine lv_if_le (tgt := 41) hx hb dX4_rowFound_32 (by decide) (fun c_32 => ?_) (fun c_32 => ?_)
      · skip
        have c_32 := (lg_cmp_le _ _).mp c_32
        have c_32' := Int64.not_lt.mpr c_32
        exact absurd hp (by simp [plcM, c_16, c_32])
      · skip
        have c_32 := mt (lg_cmp_le _ _).mpr c_32
        have c_32' := Int64.not_le.mp c_32
        refine lv_aload_n hx hb dX4_rowFound_35 rfl (lv_at hl 0 rfl) ?_
        refine lv_iconst (v := 2) hx hb dX4_rowFound_36 (by decide) ?_
        have hPc := hP.sub (ws' := lzM m q S) [0] rfl
        have hDc := hD.sub (ws' := lzM m q S) [0] (by decide) rfl
        have hFc : ∀ zz : Nat, lzA (lzM m q S) zz → A zz := lz_free hD [0] rfl
        refine va_calli (va_runV (As := [.int 2]) (rest := []) ⟨hx, hb, hml, hown, hts⟩ (c_X4_finding l G m q S 2 ) (cwV 1 hts gX4_rowFound_X4_finding rfl rfl rfl (by decide +kernel) ⟨Nat.le_of_ble_eq_true rfl, Nat.le_of_ble_eq_true rfl⟩) (rw_preV hK hPc hDc hP (ci := 4) (q0 := 0) rfl rfl) rfl rfl hl.1 rfl (lv_room (Nat.le_of_ble_eq_true rfl)) dX4_rowFound_37 ⟨Nat.zero_le _, Nat.zero_le _⟩) hS (fun q _ h => hFc q h) hFc (fun r_3 u_4 t9 H1 locs ht hvm hr_3 hB hz1 hk1 hS => ?_)
        replace hB : va_P G.1 lzC _ t9.heap := hB
        rw [ht] at hB
        obtain ⟨hP, hD⟩ := lz_join (wc := lzM m q S) (wr := ([(q 2, .inl (G.2 0, 8, .inl ln)), (q 3, .inl (G.2 0, 8, .inl mn))] : va_W)) (w1 := lzM m q (upd S 1 2)) hP hD [0] [1, 2] rfl rfl (by decide) (by decide) rfl hk1 hB
        replace hP := hP.sub (ws' := (lzM m q (upd S 1 2) ++ (lzI G (q 2) 8 ln ++ (lzI G (q 3) 8 mn)))) [2, 0, 1] rfl
        replace hD := hD.sub (ws' := (lzM m q (upd S 1 2) ++ (lzI G (q 2) 8 ln ++ (lzI G (q 3) 8 mn)))) [2, 0, 1] (by decide) rfl
        clear ht hvm hB hz1 hk1
        generalize H1 = H at hP hS ⊢
        refine lz_top (y := -1000010 - 2) hr_3 ?_
        exact rw_iret (S := Unit) (G := G) (Wd := fun _ : Unit => (lzM m q (upd S 1 2) ++ (lzI G (q 2) 8 ln ++ (lzI G (q 3) 8 mn)))) () hx hb hr hlk dX4_rowFound_40 hS (hP) (rfl)
  · skip
    have c_6' := Int32.not_le.mp c_6
    exact absurd hm c_6
set_option maxHeartbeats 4000000 in
set_option maxRecDepth 100000 in
theorem c_X4_rowFound_ok (l : Launch) (G : lzG) (m : Nat) (q : Nat → Nat) (S : Nat → Int32) (ln mn : Nat → Int32) (rr : Nat) (i n : Int32) (hrw : rr < 8) (hm : 0 ≤ ln rr) (hp : plcM (mn rr) i n = false) : Met l yX4_rowFound wsX4_rowFound ({ frames := 0, cells := 0, slots := 0, locals := 0 }) (va_Pc [.ref m, .int (nI rr), .int i, .int n] (rwP G (lzM m q S ++ (lzI G (q 2) 8 ln ++ (lzI G (q 3) 8 mn))))) (va_Qi (S := Unit) (fun (r : Int32) (_ : Unit) => r = 0) (rwB G (fun _ : Unit => (lzM m q (upd S 1 0) ++ (lzI G (q 2) 8 ln ++ (lzI G (q 3) 8 mn))))) (lzA (lzM m q S ++ (lzI G (q 2) 8 ln ++ (lzI G (q 3) 8 mn))))) 0 0 (lzA (lzM m q S ++ (lzI G (q 2) 8 ln ++ (lzI G (q 3) 8 mn)))) := by
  refine rw_start (S := Unit) (cc := cX4_rowFound) (maxL := 4) (ret := (some .int)) (by decide) rfl (Nat.le_of_ble_eq_true rfl) ?_
  intro pp ee ss mm bl me cd A hx hb hr hlk hml hts hown hP hK hD hAe hS ls hl
  have hA0 : ∀ zz : Nat, lzA (lzM m q S ++ (lzI G (q 2) 8 ln ++ (lzI G (q 3) 8 mn))) zz → A zz := fun zz h9 => by rw [hAe]; exact h9
  rw [← hAe]
  clear hAe
  have hown : ss.vm.findClass RX4 = some mm.cls := hown
  have hw1 := hts (.fieldLink RX4 7 "LampSquaresModel" "lane" "[I") (List.mem_of_getElem? (i := 1) rfl)
  have hw2 := hts (.fieldLink RX4 13 "LampSquaresModel" "many" "[I") (List.mem_of_getElem? (i := 2) rfl)
  have hw3 := hts (.fieldLink RX4 52 "LampSquaresModel" "status" "I") (List.mem_of_getElem? (i := 3) rfl)
  have hu_wsX40 : ∀ w ∈ wsX40, w.before ([.ref m, .int (nI rr), .int i, .int n] : List Value).toArray ss = true := fun w h9 => hts w (List.mem_cons_of_mem _ (List.mem_append_right _ h9))
  have hl : lv_has ls 4 [(0, .ref m), (1, .int (nI rr)), (2, .int i), (3, .int n)] := hl
  refine lv_aload_n hx hb dX4_rowFound_0 rfl (lv_at hl 0 rfl) ?_
  refine lz_get (G := G) (ci := 4) (v := .ref (q 2)) (C := RX4) (T := TX4) (N := 24) hx hb hu_wsX40 (fun _ h9 => h9) hown hK hP 0 rfl rfl 2 (by decide) hw1 rfl rfl dX4_rowFound_1 ?_
  refine lv_iload_n hx hb dX4_rowFound_4 rfl (lv_at hl 1 rfl) ?_
  refine lz_iald (f := ln) hx hb hK hP 1 rfl rr (by omega) (Nat.le_of_ble_eq_true rfl) dX4_rowFound_5 ?_
  refine lv_if_ge (tgt := 15) hx hb dX4_rowFound_6 (by decide) (fun c_6 => ?_) (fun c_6 => ?_)
  · skip
    have c_6' := Int32.not_lt.mpr c_6
    refine lv_iload_n hx hb dX4_rowFound_15 rfl (lv_at hl 2 rfl) ?_
    refine lv_if_lt (tgt := 35) hx hb dX4_rowFound_16 (by decide) (fun c_16 => ?_) (fun c_16 => ?_)
    · skip
      have c_16' := Int32.not_le.mpr c_16
      exact absurd hp (by simp [plcM, c_16])
    · skip
      have c_16' := Int32.not_lt.mp c_16
      refine lv_iload_n hx hb dX4_rowFound_19 rfl (lv_at hl 2 rfl) ?_
      refine lv_i2l hx hb dX4_rowFound_20 rfl ?_
      refine lv_iload_n hx hb dX4_rowFound_21 rfl (lv_at hl 3 rfl) ?_
      refine lv_i2l hx hb dX4_rowFound_22 rfl ?_
      refine lv_ladd hx hb dX4_rowFound_23 ?_
      refine lv_aload_n hx hb dX4_rowFound_24 rfl (lv_at hl 0 rfl) ?_
      refine lz_get (G := G) (ci := 4) (v := .ref (q 3)) (C := RX4) (T := TX4) (N := 24) hx hb hu_wsX40 (fun _ h9 => h9) hown hK hP 0 rfl rfl 3 (by decide) hw2 rfl rfl dX4_rowFound_25 ?_
      refine lv_iload_n hx hb dX4_rowFound_28 rfl (lv_at hl 1 rfl) ?_
      refine lz_iald (f := mn) hx hb hK hP 2 rfl rr (by omega) (Nat.le_of_ble_eq_true rfl) dX4_rowFound_29 ?_
      refine lv_i2l hx hb dX4_rowFound_30 rfl ?_
      refine W.lcmp hx hb dX4_rowFound_31 ?_
      refine lv_if_le (tgt := 41) hx hb dX4_rowFound_32 (by decide) (fun c_32 => ?_) (fun c_32 => ?_)
      · skip
        have c_32 := (lg_cmp_le _ _).mp c_32
        have c_32' := Int64.not_lt.mpr c_32
        refine lv_aload_n hx hb dX4_rowFound_41 rfl (lv_at hl 0 rfl) ?_
        refine lv_iconst (v := 0) hx hb dX4_rowFound_42 (by decide) ?_
        refine lz_put (G := G) (ci := 4) (C := RX4) (T := TX4) (N := 24) hx hb hu_wsX40 (fun _ h9 => h9) tyX4 tyX4_ok nmX4 hown hK hP hD hS 0 rfl rfl 1 (by decide) hw3 rfl rfl (by decide +kernel) (Nat.le_of_ble_eq_true rfl) dX4_rowFound_43 (lzM m q (upd S 1 0) ++ (lzI G (q 2) 8 ln ++ (lzI G (q 3) 8 mn))) rfl (fun H locs hP hD hS => ?_)
        refine lv_iconst (v := 0) hx hb dX4_rowFound_46 (by decide) ?_
        exact rw_iret (S := Unit) (G := G) (Wd := fun _ : Unit => (lzM m q (upd S 1 0) ++ (lzI G (q 2) 8 ln ++ (lzI G (q 3) 8 mn)))) () hx hb hr hlk dX4_rowFound_47 hS (hP) (rfl)
      · skip
        have c_32 := mt (lg_cmp_le _ _).mpr c_32
        have c_32' := Int64.not_le.mp c_32
        exact absurd hp (by simp [plcM, c_32])
  · skip
    have c_6' := Int32.not_le.mp c_6
    exact absurd hm c_6
set_option maxHeartbeats 4000000 in
set_option maxRecDepth 100000 in
theorem c_X4_shares_null (l : Launch) (G : lzG) (m : Nat) (q : Nat → Nat) (S : Nat → Int32) (ln mn g f : Nat → Int32) (s N : Nat) (rr : Nat) (i : Int32) (hrw : rr < 8) (hN : f 2 = nI N) (hN8 : N ≤ 8) (hs : s < N) (hm : ln rr < 0) : Met l yX4_shares wsX4_shares ({ frames := 2, cells := 0, slots := 0, locals := 46 }) (va_Pc [.ref m, .int (nI s), .int (nI rr), .int i] (rwP G (lzM m q S ++ (lzI G (q 2) 8 ln ++ (lzI G (q 3) 8 mn ++ (lzI G (q 4) 320 g ++ (lzI G (q 5) 64 f))))))) (va_Qi (S := Unit) (fun (r : Int32) (_ : Unit) => r = -1000011) (rwB G (fun _ : Unit => (lzM m q (upd (upd S 0 0) 1 1) ++ (lzI G (q 2) 8 ln ++ (lzI G (q 3) 8 mn ++ (lzI G (q 4) 320 g ++ (lzI G (q 5) 64 f))))))) (lzA (lzM m q S ++ (lzI G (q 2) 8 ln ++ (lzI G (q 3) 8 mn ++ (lzI G (q 4) 320 g ++ (lzI G (q 5) 64 f))))))) 0 0 (lzA (lzM m q S ++ (lzI G (q 2) 8 ln ++ (lzI G (q 3) 8 mn ++ (lzI G (q 4) 320 g ++ (lzI G (q 5) 64 f)))))) := by
  have hA : inR (nI rr) 0 7 = true := inR_row hrw
  have hC9 : inR (nI s) 0 (f 2 - 1) = true := inR_ok hN hs (by omega)
  refine rw_start (S := Unit) (cc := cX4_shares) (maxL := 7) (ret := (some .int)) (by decide) rfl (Nat.le_of_ble_eq_true rfl) ?_
  intro pp ee ss mm bl me cd A hx hb hr hlk hml hts hown hP hK hD hAe hS ls hl
  have hA0 : ∀ zz : Nat, lzA (lzM m q S ++ (lzI G (q 2) 8 ln ++ (lzI G (q 3) 8 mn ++ (lzI G (q 4) 320 g ++ (lzI G (q 5) 64 f))))) zz → A zz := fun zz h9 => by rw [hAe]; exact h9
  rw [← hAe]
  clear hAe
  have hown : ss.vm.findClass RX4 = some mm.cls := hown
  have hw1 := hts (.fieldLink RX4 48 "LampSquaresModel" "thrown" "I") (List.mem_of_getElem? (i := 1) rfl)
  have hw3 := hts (.fieldLink RX4 19 "LampSquaresModel" "door" "[I") (List.mem_of_getElem? (i := 3) rfl)
  have hu_wsX40 : ∀ w ∈ wsX40, w.before ([.ref m, .int (nI s), .int (nI rr), .int i] : List Value).toArray ss = true := fun w h9 => hts w (List.mem_cons_of_mem _ (List.mem_append_right _ h9))
  have hl : lv_has ls 7 [(0, .ref m), (1, .int (nI s)), (2, .int (nI rr)), (3, .int i)] := hl
  refine lv_aload_n hx hb dX4_shares_0 rfl (lv_at hl 0 rfl) ?_
  refine lv_iconst (v := 0) hx hb dX4_shares_1 (by decide) ?_
  refine lz_put (G := G) (ci := 4) (C := RX4) (T := TX4) (N := 24) hx hb hu_wsX40 (fun _ h9 => h9) tyX4 tyX4_ok nmX4 hown hK hP hD hS 0 rfl rfl 0 (by decide) hw1 rfl rfl (by decide +kernel) (Nat.le_of_ble_eq_true rfl) dX4_shares_2 (lzM m q (upd S 0 0) ++ (lzI G (q 2) 8 ln ++ (lzI G (q 3) 8 mn ++ (lzI G (q 4) 320 g ++ (lzI G (q 5) 64 f))))) rfl (fun H locs hP hD hS => ?_)
  refine lv_aload_n hx hb dX4_shares_5 rfl (lv_at hl 0 rfl) ?_
  refine lv_iload_n hx hb dX4_shares_6 rfl (lv_at hl 1 rfl) ?_
  have hPc := hP.sub (ws' := (lzM m q (upd S 0 0) ++ lzI G (q 5) 64 f)) [0, 4] rfl
  refine ro_calli (va_runV (As := [.int (nI s)]) (rest := []) ⟨hx, hb, hml, hown, hts⟩ (c_X4_isSquare l G m q (upd S 0 0) f (nI s) ) (cwV 1 hts gX4_shares_X4_isSquare rfl rfl rfl (by decide +kernel) ⟨Nat.le_of_ble_eq_true rfl, Nat.le_of_ble_eq_true rfl⟩) (ro_preV hK hPc hP (ci := 4) (q0 := 0) rfl rfl) rfl rfl hl.1 rfl (lv_room (Nat.le_of_ble_eq_true rfl)) dX4_shares_7 ⟨Nat.zero_le _, Nat.zero_le _⟩) (fun r_1 hr_1 => ?_)
  refine lv_if_eq (tgt := 20) hx hb dX4_shares_10 (by decide) (fun c_10 => ?_) (fun c_10 => ?_)
  · skip
    have c_10 := b2_z hr_1 c_10
    exact Bool.noConfusion (hC9.symm.trans c_10)
  · skip
    have c_10 := b2_n hr_1 c_10
    refine lv_iload_n hx hb dX4_shares_13 rfl (lv_at hl 2 rfl) ?_
    refine ro_calli (va_runS (As := [.int (nI rr)]) (rest := []) ⟨hx, hb, hml, hown, hts⟩ (c_X4_isRow l G (nI rr) ) (cwS 1 hts gX4_shares_X4_isRow rfl rfl rfl (by decide +kernel) ⟨Nat.le_of_ble_eq_true rfl, Nat.le_of_ble_eq_true rfl⟩) (ro_pre hK (fun k q h => by simp at h)) rfl rfl hl.1 rfl (lv_room (Nat.le_of_ble_eq_true rfl)) dX4_shares_14 ⟨Nat.zero_le _, Nat.zero_le _⟩) (fun r_2 hr_2 => ?_)
    refine lv_if_ne (tgt := 23) hx hb dX4_shares_17 (by decide) (fun c_17 => ?_) (fun c_17 => ?_)
    · skip
      have c_17 := b2_n hr_2 c_17
      refine lv_aload_n hx hb dX4_shares_23 rfl (lv_at hl 0 rfl) ?_
      refine lv_iload_n hx hb dX4_shares_24 rfl (lv_at hl 2 rfl) ?_
      refine lv_iload_n hx hb dX4_shares_25 rfl (lv_at hl 3 rfl) ?_
      refine lv_aload_n hx hb dX4_shares_26 rfl (lv_at hl 0 rfl) ?_
      refine lz_get (G := G) (ci := 4) (v := .ref (q 5)) (C := RX4) (T := TX4) (N := 24) hx hb hu_wsX40 (fun _ h9 => h9) hown hK hP 0 rfl rfl 5 (by decide) hw3 rfl rfl dX4_shares_27 ?_
      refine lv_iconst (v := 3) hx hb dX4_shares_30 (by decide) ?_
      refine lz_iald (f := f) hx hb hK hP 4 rfl 3 (by omega) (Nat.le_of_ble_eq_true rfl) dX4_shares_31 ?_
      have hPc := hP.sub (ws' := (lzM m q (upd S 0 0) ++ (lzI G (q 2) 8 ln ++ (lzI G (q 3) 8 mn)))) [0, 1, 2] rfl
      have hDc := hD.sub (ws' := (lzM m q (upd S 0 0) ++ (lzI G (q 2) 8 ln ++ (lzI G (q 3) 8 mn)))) [0, 1, 2] (by decide) rfl
      have hFc : ∀ zz : Nat, lzA (lzM m q (upd S 0 0) ++ (lzI G (q 2) 8 ln ++ (lzI G (q 3) 8 mn))) zz → A zz := lz_free hD [0, 1, 2] rfl
      refine va_calli (va_runV (As := [.int (nI rr), .int i, .int (f 3)]) (rest := []) ⟨hx, hb, hml, hown, hts⟩ (c_X4_rowFound_null l G m q (upd S 0 0) ln mn rr i (f 3) (hrw) (hm)) (cwV 3 hts gX4_shares_X4_rowFound rfl rfl rfl (by decide +kernel) ⟨Nat.le_of_ble_eq_true rfl, Nat.le_of_ble_eq_true rfl⟩) (rw_preV hK hPc hDc hP (ci := 4) (q0 := 0) rfl rfl) rfl rfl hl.1 rfl (lv_room (Nat.le_of_ble_eq_true rfl)) dX4_shares_32 ⟨Nat.zero_le _, Nat.zero_le _⟩) hS (fun q _ h => hFc q h) hFc (fun r_3 u_4 t9 H1 locs ht hvm hr_3 hB hz1 hk1 hS => ?_)
      replace hB : va_P G.1 lzC _ t9.heap := hB
      rw [ht] at hB
      obtain ⟨hP, hD⟩ := lz_join (wc := (lzM m q (upd S 0 0) ++ (lzI G (q 2) 8 ln ++ (lzI G (q 3) 8 mn)))) (wr := ([(q 4, .inl (G.2 0, 320, .inl g)), (q 5, .inl (G.2 0, 64, .inl f))] : va_W)) (w1 := (lzM m q (upd (upd S 0 0) 1 1) ++ (lzI G (q 2) 8 ln ++ (lzI G (q 3) 8 mn)))) hP hD [0, 1, 2] [3, 4] rfl rfl (by decide) (by decide) rfl hk1 hB
      replace hP := hP.sub (ws' := (lzM m q (upd (upd S 0 0) 1 1) ++ (lzI G (q 2) 8 ln ++ (lzI G (q 3) 8 mn ++ (lzI G (q 4) 320 g ++ (lzI G (q 5) 64 f)))))) [2, 3, 4, 0, 1] rfl
      replace hD := hD.sub (ws' := (lzM m q (upd (upd S 0 0) 1 1) ++ (lzI G (q 2) 8 ln ++ (lzI G (q 3) 8 mn ++ (lzI G (q 4) 320 g ++ (lzI G (q 5) 64 f)))))) [2, 3, 4, 0, 1] (by decide) rfl
      clear ht hvm hB hz1 hk1
      generalize H1 = H at hP hS ⊢
      refine lz_top (y := -1000011) hr_3 ?_
      refine lv_istore (lv' := [(4, .int (-1000011)), (0, .ref m), (1, .int (nI s)), (2, .int (nI rr)), (3, .int i)]) hx hb dX4_shares_35 hl (by decide) rfl (fun ls hl => ?_)
      refine lv_iload hx hb dX4_shares_37 (lv_at hl 0 rfl) ?_
      refine lv_if_eq (tgt := 45) hx hb dX4_shares_39 (by decide) (fun c_39 => ?_) (fun c_39 => ?_)
      · skip
        exact False.elim (by revert c_39; decide)
      · skip
        refine lv_iload hx hb dX4_shares_42 (lv_at hl 0 rfl) ?_
        exact rw_iret (S := Unit) (G := G) (Wd := fun _ : Unit => (lzM m q (upd (upd S 0 0) 1 1) ++ (lzI G (q 2) 8 ln ++ (lzI G (q 3) 8 mn ++ (lzI G (q 4) 320 g ++ (lzI G (q 5) 64 f)))))) () hx hb hr hlk dX4_shares_44 hS (hP) (by first | rfl | assumption)
    · skip
      have c_17 := b2_z hr_2 c_17
      exact Bool.noConfusion (hA.symm.trans c_17)
set_option maxHeartbeats 4000000 in
set_option maxRecDepth 100000 in
theorem c_X4_shares_place (l : Launch) (G : lzG) (m : Nat) (q : Nat → Nat) (S : Nat → Int32) (ln mn g f : Nat → Int32) (s N : Nat) (rr : Nat) (i : Int32) (hrw : rr < 8) (hN : f 2 = nI N) (hN8 : N ≤ 8) (hs : s < N) (hm : 0 ≤ ln rr) (hp : plcM (mn rr) i (f 3) = true) : Met l yX4_shares wsX4_shares ({ frames := 2, cells := 0, slots := 0, locals := 46 }) (va_Pc [.ref m, .int (nI s), .int (nI rr), .int i] (rwP G (lzM m q S ++ (lzI G (q 2) 8 ln ++ (lzI G (q 3) 8 mn ++ (lzI G (q 4) 320 g ++ (lzI G (q 5) 64 f))))))) (va_Qi (S := Unit) (fun (r : Int32) (_ : Unit) => r = -1000012) (rwB G (fun _ : Unit => (lzM m q (upd (upd S 0 0) 1 2) ++ (lzI G (q 2) 8 ln ++ (lzI G (q 3) 8 mn ++ (lzI G (q 4) 320 g ++ (lzI G (q 5) 64 f))))))) (lzA (lzM m q S ++ (lzI G (q 2) 8 ln ++ (lzI G (q 3) 8 mn ++ (lzI G (q 4) 320 g ++ (lzI G (q 5) 64 f))))))) 0 0 (lzA (lzM m q S ++ (lzI G (q 2) 8 ln ++ (lzI G (q 3) 8 mn ++ (lzI G (q 4) 320 g ++ (lzI G (q 5) 64 f)))))) := by
  have hA : inR (nI rr) 0 7 = true := inR_row hrw
  have hC9 : inR (nI s) 0 (f 2 - 1) = true := inR_ok hN hs (by omega)
  refine rw_start (S := Unit) (cc := cX4_shares) (maxL := 7) (ret := (some .int)) (by decide) rfl (Nat.le_of_ble_eq_true rfl) ?_
  intro pp ee ss mm bl me cd A hx hb hr hlk hml hts hown hP hK hD hAe hS ls hl
  have hA0 : ∀ zz : Nat, lzA (lzM m q S ++ (lzI G (q 2) 8 ln ++ (lzI G (q 3) 8 mn ++ (lzI G (q 4) 320 g ++ (lzI G (q 5) 64 f))))) zz → A zz := fun zz h9 => by rw [hAe]; exact h9
  rw [← hAe]
  clear hAe
  have hown : ss.vm.findClass RX4 = some mm.cls := hown
  have hw1 := hts (.fieldLink RX4 48 "LampSquaresModel" "thrown" "I") (List.mem_of_getElem? (i := 1) rfl)
  have hw3 := hts (.fieldLink RX4 19 "LampSquaresModel" "door" "[I") (List.mem_of_getElem? (i := 3) rfl)
  have hu_wsX40 : ∀ w ∈ wsX40, w.before ([.ref m, .int (nI s), .int (nI rr), .int i] : List Value).toArray ss = true := fun w h9 => hts w (List.mem_cons_of_mem _ (List.mem_append_right _ h9))
  have hl : lv_has ls 7 [(0, .ref m), (1, .int (nI s)), (2, .int (nI rr)), (3, .int i)] := hl
  refine lv_aload_n hx hb dX4_shares_0 rfl (lv_at hl 0 rfl) ?_
  refine lv_iconst (v := 0) hx hb dX4_shares_1 (by decide) ?_
  refine lz_put (G := G) (ci := 4) (C := RX4) (T := TX4) (N := 24) hx hb hu_wsX40 (fun _ h9 => h9) tyX4 tyX4_ok nmX4 hown hK hP hD hS 0 rfl rfl 0 (by decide) hw1 rfl rfl (by decide +kernel) (Nat.le_of_ble_eq_true rfl) dX4_shares_2 (lzM m q (upd S 0 0) ++ (lzI G (q 2) 8 ln ++ (lzI G (q 3) 8 mn ++ (lzI G (q 4) 320 g ++ (lzI G (q 5) 64 f))))) rfl (fun H locs hP hD hS => ?_)
  refine lv_aload_n hx hb dX4_shares_5 rfl (lv_at hl 0 rfl) ?_
  refine lv_iload_n hx hb dX4_shares_6 rfl (lv_at hl 1 rfl) ?_
  have hPc := hP.sub (ws' := (lzM m q (upd S 0 0) ++ lzI G (q 5) 64 f)) [0, 4] rfl
  refine ro_calli (va_runV (As := [.int (nI s)]) (rest := []) ⟨hx, hb, hml, hown, hts⟩ (c_X4_isSquare l G m q (upd S 0 0) f (nI s) ) (cwV 1 hts gX4_shares_X4_isSquare rfl rfl rfl (by decide +kernel) ⟨Nat.le_of_ble_eq_true rfl, Nat.le_of_ble_eq_true rfl⟩) (ro_preV hK hPc hP (ci := 4) (q0 := 0) rfl rfl) rfl rfl hl.1 rfl (lv_room (Nat.le_of_ble_eq_true rfl)) dX4_shares_7 ⟨Nat.zero_le _, Nat.zero_le _⟩) (fun r_1 hr_1 => ?_)
  refine lv_if_eq (tgt := 20) hx hb dX4_shares_10 (by decide) (fun c_10 => ?_) (fun c_10 => ?_)
  · skip
    have c_10 := b2_z hr_1 c_10
    exact Bool.noConfusion (hC9.symm.trans c_10)
  · skip
    have c_10 := b2_n hr_1 c_10
    refine lv_iload_n hx hb dX4_shares_13 rfl (lv_at hl 2 rfl) ?_
    refine ro_calli (va_runS (As := [.int (nI rr)]) (rest := []) ⟨hx, hb, hml, hown, hts⟩ (c_X4_isRow l G (nI rr) ) (cwS 1 hts gX4_shares_X4_isRow rfl rfl rfl (by decide +kernel) ⟨Nat.le_of_ble_eq_true rfl, Nat.le_of_ble_eq_true rfl⟩) (ro_pre hK (fun k q h => by simp at h)) rfl rfl hl.1 rfl (lv_room (Nat.le_of_ble_eq_true rfl)) dX4_shares_14 ⟨Nat.zero_le _, Nat.zero_le _⟩) (fun r_2 hr_2 => ?_)
    refine lv_if_ne (tgt := 23) hx hb dX4_shares_17 (by decide) (fun c_17 => ?_) (fun c_17 => ?_)
    · skip
      have c_17 := b2_n hr_2 c_17
      refine lv_aload_n hx hb dX4_shares_23 rfl (lv_at hl 0 rfl) ?_
      refine lv_iload_n hx hb dX4_shares_24 rfl (lv_at hl 2 rfl) ?_
      refine lv_iload_n hx hb dX4_shares_25 rfl (lv_at hl 3 rfl) ?_
      refine lv_aload_n hx hb dX4_shares_26 rfl (lv_at hl 0 rfl) ?_
      refine lz_get (G := G) (ci := 4) (v := .ref (q 5)) (C := RX4) (T := TX4) (N := 24) hx hb hu_wsX40 (fun _ h9 => h9) hown hK hP 0 rfl rfl 5 (by decide) hw3 rfl rfl dX4_shares_27 ?_
      refine lv_iconst (v := 3) hx hb dX4_shares_30 (by decide) ?_
      refine lz_iald (f := f) hx hb hK hP 4 rfl 3 (by omega) (Nat.le_of_ble_eq_true rfl) dX4_shares_31 ?_
      have hPc := hP.sub (ws' := (lzM m q (upd S 0 0) ++ (lzI G (q 2) 8 ln ++ (lzI G (q 3) 8 mn)))) [0, 1, 2] rfl
      have hDc := hD.sub (ws' := (lzM m q (upd S 0 0) ++ (lzI G (q 2) 8 ln ++ (lzI G (q 3) 8 mn)))) [0, 1, 2] (by decide) rfl
      have hFc : ∀ zz : Nat, lzA (lzM m q (upd S 0 0) ++ (lzI G (q 2) 8 ln ++ (lzI G (q 3) 8 mn))) zz → A zz := lz_free hD [0, 1, 2] rfl
      refine va_calli (va_runV (As := [.int (nI rr), .int i, .int (f 3)]) (rest := []) ⟨hx, hb, hml, hown, hts⟩ (c_X4_rowFound_place l G m q (upd S 0 0) ln mn rr i (f 3) (hrw) (hm) (hp)) (cwV 3 hts gX4_shares_X4_rowFound rfl rfl rfl (by decide +kernel) ⟨Nat.le_of_ble_eq_true rfl, Nat.le_of_ble_eq_true rfl⟩) (rw_preV hK hPc hDc hP (ci := 4) (q0 := 0) rfl rfl) rfl rfl hl.1 rfl (lv_room (Nat.le_of_ble_eq_true rfl)) dX4_shares_32 ⟨Nat.zero_le _, Nat.zero_le _⟩) hS (fun q _ h => hFc q h) hFc (fun r_3 u_4 t9 H1 locs ht hvm hr_3 hB hz1 hk1 hS => ?_)
      replace hB : va_P G.1 lzC _ t9.heap := hB
      rw [ht] at hB
      obtain ⟨hP, hD⟩ := lz_join (wc := (lzM m q (upd S 0 0) ++ (lzI G (q 2) 8 ln ++ (lzI G (q 3) 8 mn)))) (wr := ([(q 4, .inl (G.2 0, 320, .inl g)), (q 5, .inl (G.2 0, 64, .inl f))] : va_W)) (w1 := (lzM m q (upd (upd S 0 0) 1 2) ++ (lzI G (q 2) 8 ln ++ (lzI G (q 3) 8 mn)))) hP hD [0, 1, 2] [3, 4] rfl rfl (by decide) (by decide) rfl hk1 hB
      replace hP := hP.sub (ws' := (lzM m q (upd (upd S 0 0) 1 2) ++ (lzI G (q 2) 8 ln ++ (lzI G (q 3) 8 mn ++ (lzI G (q 4) 320 g ++ (lzI G (q 5) 64 f)))))) [2, 3, 4, 0, 1] rfl
      replace hD := hD.sub (ws' := (lzM m q (upd (upd S 0 0) 1 2) ++ (lzI G (q 2) 8 ln ++ (lzI G (q 3) 8 mn ++ (lzI G (q 4) 320 g ++ (lzI G (q 5) 64 f)))))) [2, 3, 4, 0, 1] (by decide) rfl
      clear ht hvm hB hz1 hk1
      generalize H1 = H at hP hS ⊢
      refine lz_top (y := -1000012) hr_3 ?_
      refine lv_istore (lv' := [(4, .int (-1000012)), (0, .ref m), (1, .int (nI s)), (2, .int (nI rr)), (3, .int i)]) hx hb dX4_shares_35 hl (by decide) rfl (fun ls hl => ?_)
      refine lv_iload hx hb dX4_shares_37 (lv_at hl 0 rfl) ?_
      refine lv_if_eq (tgt := 45) hx hb dX4_shares_39 (by decide) (fun c_39 => ?_) (fun c_39 => ?_)
      · skip
        exact False.elim (by revert c_39; decide)
      · skip
        refine lv_iload hx hb dX4_shares_42 (lv_at hl 0 rfl) ?_
        exact rw_iret (S := Unit) (G := G) (Wd := fun _ : Unit => (lzM m q (upd (upd S 0 0) 1 2) ++ (lzI G (q 2) 8 ln ++ (lzI G (q 3) 8 mn ++ (lzI G (q 4) 320 g ++ (lzI G (q 5) 64 f)))))) () hx hb hr hlk dX4_shares_44 hS (hP) (by first | rfl | assumption)
    · skip
      have c_17 := b2_z hr_2 c_17
      exact Bool.noConfusion (hA.symm.trans c_17)
set_option maxHeartbeats 4000000 in
set_option maxRecDepth 100000 in
theorem c_X4_shares_ok (l : Launch) (G : lzG) (m : Nat) (q : Nat → Nat) (S : Nat → Int32) (ln mn g f : Nat → Int32) (s : Nat) (rr i N M : Nat) (hrw : rr < 8) (hN : f 2 = nI N) (hN8 : N ≤ 8) (hM : f 3 = nI M) (hM5 : M ≤ 5) (hs : s < N) (hm : 0 ≤ ln rr) (hp : plcM (mn rr) (nI i) (f 3) = false) (hi40 : i + M ≤ 40) : Met l yX4_shares wsX4_shares ({ frames := 3, cells := 0, slots := 0, locals := 71 }) (va_Pc [.ref m, .int (nI s), .int (nI rr), .int (nI i)] (rwP G (lzM m q S ++ (lzI G (q 2) 8 ln ++ (lzI G (q 3) 8 mn ++ (lzI G (q 4) 320 g ++ (lzI G (q 5) 64 f))))))) (va_Qi (S := Unit) (fun (r : Int32) (_ : Unit) => r = shrM f g s (40 * rr + i) M 10) (rwB G (fun _ : Unit => (lzM m q (upd (upd S 0 0) 1 0) ++ (lzI G (q 2) 8 ln ++ (lzI G (q 3) 8 mn ++ (lzI G (q 4) 320 g ++ (lzI G (q 5) 64 f))))))) (lzA (lzM m q S ++ (lzI G (q 2) 8 ln ++ (lzI G (q 3) 8 mn ++ (lzI G (q 4) 320 g ++ (lzI G (q 5) 64 f))))))) 0 0 (lzA (lzM m q S ++ (lzI G (q 2) 8 ln ++ (lzI G (q 3) 8 mn ++ (lzI G (q 4) 320 g ++ (lzI G (q 5) 64 f)))))) := by
  have hA : inR (nI rr) 0 7 = true := inR_row hrw
  have hC9 : inR (nI s) 0 (f 2 - 1) = true := inR_ok hN hs (by omega)
  refine rw_start (S := Unit) (cc := cX4_shares) (maxL := 7) (ret := (some .int)) (by decide) rfl (Nat.le_of_ble_eq_true rfl) ?_
  intro pp ee ss mm bl me cd A hx hb hr hlk hml hts hown hP hK hD hAe hS ls hl
  have hA0 : ∀ zz : Nat, lzA (lzM m q S ++ (lzI G (q 2) 8 ln ++ (lzI G (q 3) 8 mn ++ (lzI G (q 4) 320 g ++ (lzI G (q 5) 64 f))))) zz → A zz := fun zz h9 => by rw [hAe]; exact h9
  rw [← hAe]
  clear hAe
  have hown : ss.vm.findClass RX4 = some mm.cls := hown
  have hw1 := hts (.fieldLink RX4 48 "LampSquaresModel" "thrown" "I") (List.mem_of_getElem? (i := 1) rfl)
  have hw3 := hts (.fieldLink RX4 19 "LampSquaresModel" "door" "[I") (List.mem_of_getElem? (i := 3) rfl)
  have hu_wsX40 : ∀ w ∈ wsX40, w.before ([.ref m, .int (nI s), .int (nI rr), .int (nI i)] : List Value).toArray ss = true := fun w h9 => hts w (List.mem_cons_of_mem _ (List.mem_append_right _ h9))
  have hl : lv_has ls 7 [(0, .ref m), (1, .int (nI s)), (2, .int (nI rr)), (3, .int (nI i))] := hl
  refine lv_aload_n hx hb dX4_shares_0 rfl (lv_at hl 0 rfl) ?_
  refine lv_iconst (v := 0) hx hb dX4_shares_1 (by decide) ?_
  refine lz_put (G := G) (ci := 4) (C := RX4) (T := TX4) (N := 24) hx hb hu_wsX40 (fun _ h9 => h9) tyX4 tyX4_ok nmX4 hown hK hP hD hS 0 rfl rfl 0 (by decide) hw1 rfl rfl (by decide +kernel) (Nat.le_of_ble_eq_true rfl) dX4_shares_2 (lzM m q (upd S 0 0) ++ (lzI G (q 2) 8 ln ++ (lzI G (q 3) 8 mn ++ (lzI G (q 4) 320 g ++ (lzI G (q 5) 64 f))))) rfl (fun H locs hP hD hS => ?_)
  refine lv_aload_n hx hb dX4_shares_5 rfl (lv_at hl 0 rfl) ?_
  refine lv_iload_n hx hb dX4_shares_6 rfl (lv_at hl 1 rfl) ?_
  have hPc := hP.sub (ws' := (lzM m q (upd S 0 0) ++ lzI G (q 5) 64 f)) [0, 4] rfl
  refine ro_calli (va_runV (As := [.int (nI s)]) (rest := []) ⟨hx, hb, hml, hown, hts⟩ (c_X4_isSquare l G m q (upd S 0 0) f (nI s) ) (cwV 1 hts gX4_shares_X4_isSquare rfl rfl rfl (by decide +kernel) ⟨Nat.le_of_ble_eq_true rfl, Nat.le_of_ble_eq_true rfl⟩) (ro_preV hK hPc hP (ci := 4) (q0 := 0) rfl rfl) rfl rfl hl.1 rfl (lv_room (Nat.le_of_ble_eq_true rfl)) dX4_shares_7 ⟨Nat.zero_le _, Nat.zero_le _⟩) (fun r_1 hr_1 => ?_)
  refine lv_if_eq (tgt := 20) hx hb dX4_shares_10 (by decide) (fun c_10 => ?_) (fun c_10 => ?_)
  · skip
    have c_10 := b2_z hr_1 c_10
    exact Bool.noConfusion (hC9.symm.trans c_10)
  · skip
    have c_10 := b2_n hr_1 c_10
    refine lv_iload_n hx hb dX4_shares_13 rfl (lv_at hl 2 rfl) ?_
    refine ro_calli (va_runS (As := [.int (nI rr)]) (rest := []) ⟨hx, hb, hml, hown, hts⟩ (c_X4_isRow l G (nI rr) ) (cwS 1 hts gX4_shares_X4_isRow rfl rfl rfl (by decide +kernel) ⟨Nat.le_of_ble_eq_true rfl, Nat.le_of_ble_eq_true rfl⟩) (ro_pre hK (fun k q h => by simp at h)) rfl rfl hl.1 rfl (lv_room (Nat.le_of_ble_eq_true rfl)) dX4_shares_14 ⟨Nat.zero_le _, Nat.zero_le _⟩) (fun r_2 hr_2 => ?_)
    refine lv_if_ne (tgt := 23) hx hb dX4_shares_17 (by decide) (fun c_17 => ?_) (fun c_17 => ?_)
    · skip
      have c_17 := b2_n hr_2 c_17
      refine lv_aload_n hx hb dX4_shares_23 rfl (lv_at hl 0 rfl) ?_
      refine lv_iload_n hx hb dX4_shares_24 rfl (lv_at hl 2 rfl) ?_
      refine lv_iload_n hx hb dX4_shares_25 rfl (lv_at hl 3 rfl) ?_
      refine lv_aload_n hx hb dX4_shares_26 rfl (lv_at hl 0 rfl) ?_
      refine lz_get (G := G) (ci := 4) (v := .ref (q 5)) (C := RX4) (T := TX4) (N := 24) hx hb hu_wsX40 (fun _ h9 => h9) hown hK hP 0 rfl rfl 5 (by decide) hw3 rfl rfl dX4_shares_27 ?_
      refine lv_iconst (v := 3) hx hb dX4_shares_30 (by decide) ?_
      refine lz_iald (f := f) hx hb hK hP 4 rfl 3 (by omega) (Nat.le_of_ble_eq_true rfl) dX4_shares_31 ?_
      have hPc := hP.sub (ws' := (lzM m q (upd S 0 0) ++ (lzI G (q 2) 8 ln ++ (lzI G (q 3) 8 mn)))) [0, 1, 2] rfl
      have hDc := hD.sub (ws' := (lzM m q (upd S 0 0) ++ (lzI G (q 2) 8 ln ++ (lzI G (q 3) 8 mn)))) [0, 1, 2] (by decide) rfl
      have hFc : ∀ zz : Nat, lzA (lzM m q (upd S 0 0) ++ (lzI G (q 2) 8 ln ++ (lzI G (q 3) 8 mn))) zz → A zz := lz_free hD [0, 1, 2] rfl
      refine va_calli (va_runV (As := [.int (nI rr), .int (nI i), .int (f 3)]) (rest := []) ⟨hx, hb, hml, hown, hts⟩ (c_X4_rowFound_ok l G m q (upd S 0 0) ln mn rr (nI i) (f 3) (hrw) (hm) (hp)) (cwV 3 hts gX4_shares_X4_rowFound rfl rfl rfl (by decide +kernel) ⟨Nat.le_of_ble_eq_true rfl, Nat.le_of_ble_eq_true rfl⟩) (rw_preV hK hPc hDc hP (ci := 4) (q0 := 0) rfl rfl) rfl rfl hl.1 rfl (lv_room (Nat.le_of_ble_eq_true rfl)) dX4_shares_32 ⟨Nat.zero_le _, Nat.zero_le _⟩) hS (fun q _ h => hFc q h) hFc (fun r_3 u_4 t9 H1 locs ht hvm hr_3 hB hz1 hk1 hS => ?_)
      replace hB : va_P G.1 lzC _ t9.heap := hB
      rw [ht] at hB
      obtain ⟨hP, hD⟩ := lz_join (wc := (lzM m q (upd S 0 0) ++ (lzI G (q 2) 8 ln ++ (lzI G (q 3) 8 mn)))) (wr := ([(q 4, .inl (G.2 0, 320, .inl g)), (q 5, .inl (G.2 0, 64, .inl f))] : va_W)) (w1 := (lzM m q (upd (upd S 0 0) 1 0) ++ (lzI G (q 2) 8 ln ++ (lzI G (q 3) 8 mn)))) hP hD [0, 1, 2] [3, 4] rfl rfl (by decide) (by decide) rfl hk1 hB
      replace hP := hP.sub (ws' := (lzM m q (upd (upd S 0 0) 1 0) ++ (lzI G (q 2) 8 ln ++ (lzI G (q 3) 8 mn ++ (lzI G (q 4) 320 g ++ (lzI G (q 5) 64 f)))))) [2, 3, 4, 0, 1] rfl
      replace hD := hD.sub (ws' := (lzM m q (upd (upd S 0 0) 1 0) ++ (lzI G (q 2) 8 ln ++ (lzI G (q 3) 8 mn ++ (lzI G (q 4) 320 g ++ (lzI G (q 5) 64 f)))))) [2, 3, 4, 0, 1] (by decide) rfl
      clear ht hvm hB hz1 hk1
      generalize H1 = H at hP hS ⊢
      refine lz_top (y := 0) hr_3 ?_
      refine lv_istore (lv' := [(4, .int 0), (0, .ref m), (1, .int (nI s)), (2, .int (nI rr)), (3, .int (nI i))]) hx hb dX4_shares_35 hl (by decide) rfl (fun ls hl => ?_)
      refine lv_iload hx hb dX4_shares_37 (lv_at hl 0 rfl) ?_
      refine lv_if_eq (tgt := 45) hx hb dX4_shares_39 (by decide) (fun c_39 => ?_) (fun c_39 => ?_)
      · skip
        refine lv_iconst (v := 0) hx hb dX4_shares_45 (by decide) ?_
        refine lv_istore (lv' := [(5, .int 0), (4, .int 0), (0, .ref m), (1, .int (nI s)), (2, .int (nI rr)), (3, .int (nI i))]) hx hb dX4_shares_46 hl (by decide) rfl (fun ls hl => ?_)
        refine lv_iconst (v := 0) hx hb dX4_shares_48 (by decide) ?_
        refine lv_istore (lv' := [(6, .int 0), (5, .int 0), (4, .int 0), (0, .ref m), (1, .int (nI s)), (2, .int (nI rr)), (3, .int (nI i))]) hx hb dX4_shares_49 hl (by decide) rfl (fun ls hl => ?_)
        have J_51 : ∀ (n9 : Nat), ∀ (k : Nat), (k ≤ 10) → 10 - k < n9 → ∀ (H : Heap) (locs : List Loc), va_P G.1 lzC (lzM m q (upd (upd S 0 0) 1 0) ++ (lzI G (q 2) 8 ln ++ (lzI G (q 3) 8 mn ++ (lzI G (q 4) 320 g ++ (lzI G (q 5) 64 f))))) H → va_D A (lzM m q (upd (upd S 0 0) 1 0) ++ (lzI G (q 2) 8 ln ++ (lzI G (q 3) 8 mn ++ (lzI G (q 4) 320 g ++ (lzI G (q 5) 64 f))))) → va_S A ss.heap H locs → ∀ ls : Array Slot, lv_has ls 7 [(5, .int (shrM f g s (40 * rr + i) M k)), (6, .int (nI k)), (4, .int 0), (0, .ref m), (1, .int (nI s)), (2, .int (nI rr)), (3, .int (nI i))] → W pp l ee ({ frames := 3, cells := 0, slots := 0, locals := 71 }) ss mm ([.ref m, .int (nI s), .int (nI rr), .int (nI i)] : List Value).toArray bl me cd H locs 0 0 (MQ bl (va_Qi (S := Unit) (fun (r : Int32) (_ : Unit) => r = shrM f g s (40 * rr + i) M 10) (rwB G (fun _ : Unit => (lzM m q (upd (upd S 0 0) 1 0) ++ (lzI G (q 2) 8 ln ++ (lzI G (q 3) 8 mn ++ (lzI G (q 4) 320 g ++ (lzI G (q 5) 64 f))))))) A) ([.ref m, .int (nI s), .int (nI rr), .int (nI i)] : List Value).toArray ss 0 0 A) (F0 mm 51 ls []) := by
          intro n9
          induction n9 with
          | zero => intro k hk hn; exact absurd hn (Nat.not_lt_zero _)
          | succ n9 ih_51 =>
            intro k hk hn_51 H locs hP hD hS ls hl
            refine lv_iload hx hb dX4_shares_51 (lv_at hl 1 rfl) ?_
            refine lv_bipush (v := 10) hx hb dX4_shares_53 (by decide) ?_
            refine lv_icmp_ge (tgt := 101) hx hb dX4_shares_55 (by decide) (fun c_55 => ?_) (fun c_55 => ?_)
            · skip
              have c_55' := Int32.not_lt.mpr c_55
              have hk2 : 10 ≤ k := lz_ge (N := 10) rfl c_55 (by omega) (by omega)
              have hk3 : k = 10 := by omega
              refine lv_iload hx hb dX4_shares_101 (lv_at hl 0 rfl) ?_
              exact rw_iret (S := Unit) (G := G) (Wd := fun _ : Unit => (lzM m q (upd (upd S 0 0) 1 0) ++ (lzI G (q 2) 8 ln ++ (lzI G (q 3) 8 mn ++ (lzI G (q 4) 320 g ++ (lzI G (q 5) 64 f)))))) () hx hb hr hlk dX4_shares_103 hS (hP) (by first | rfl | (rw [hk3]))
            · skip
              have c_55' := Int32.not_le.mp c_55
              have hk2 : k < 10 := lz_lt (N := 10) rfl c_55 (by omega) (by omega)
              refine lv_iload hx hb dX4_shares_58 (lv_at hl 0 rfl) ?_
              refine lv_aload_n hx hb dX4_shares_60 rfl (lv_at hl 3 rfl) ?_
              refine lv_aload_n hx hb dX4_shares_61 rfl (lv_at hl 3 rfl) ?_
              refine lz_get (G := G) (ci := 4) (v := .ref (q 5)) (C := RX4) (T := TX4) (N := 24) hx hb hu_wsX40 (fun _ h9 => h9) hown hK hP 0 rfl rfl 5 (by decide) hw3 rfl rfl dX4_shares_62 ?_
              refine lv_iload_n hx hb dX4_shares_65 rfl (lv_at hl 4 rfl) ?_
              refine lv_iconst (v := 0) hx hb dX4_shares_66 (by decide) ?_
              have hPc := hP.sub (ws' := lzI G (q 5) 64 f) [4] rfl
              refine ro_calli (va_runS (As := [.ref (q 5), .int (nI s), .int 0]) (rest := [.ref m, .int (shrM f g s (40 * rr + i) M k)]) ⟨hx, hb, hml, hown, hts⟩ (c_X4_of l G (q 5) f s 0 (by omega) (by decide)) (cwS 3 hts gX4_shares_X4_of rfl rfl rfl (by decide +kernel) ⟨Nat.le_of_ble_eq_true rfl, Nat.le_of_ble_eq_true rfl⟩) (ro_pre hK hPc) rfl rfl hl.1 rfl (lv_room (Nat.le_of_ble_eq_true rfl)) dX4_shares_67 ⟨Nat.zero_le _, Nat.zero_le _⟩) (fun r_5 hr_5 => ?_)
              refine lz_top (y := f (4 + 5 * s)) hr_5 ?_
              refine lv_iload hx hb dX4_shares_70 (lv_at hl 1 rfl) ?_
              refine lv_bipush (v := 40) hx hb dX4_shares_72 (by decide) ?_
              refine lv_iload_n hx hb dX4_shares_74 rfl (lv_at hl 5 rfl) ?_
              refine lv_imul hx hb dX4_shares_75 ?_
              refine lv_iload_n hx hb dX4_shares_76 rfl (lv_at hl 6 rfl) ?_
              refine lv_iadd hx hb dX4_shares_77 ?_
              refine lz_top (y := nI (40 * rr + i)) (by simp only [fa_lit, pk_mul, nI_add]) ?_
              have hPc := hP.sub (ws' := (lzM m q (upd (upd S 0 0) 1 0) ++ (lzI G (q 4) 320 g ++ (lzI G (q 5) 64 f)))) [0, 3, 4] rfl
              refine ro_calli (va_runV (As := [.int (f (4 + 5 * s)), .int (nI k), .int (nI (40 * rr + i))]) (rest := [.int (shrM f g s (40 * rr + i) M k)]) ⟨hx, hb, hml, hown, hts⟩ (c_X4_allClickSo l G m q (upd (upd S 0 0) 1 0) g f (f (4 + 5 * s)) (nI k) (40 * rr + i) M (hM) (hM5) (by omega)) (cwV 3 hts gX4_shares_X4_allClickSo rfl rfl rfl (by decide +kernel) ⟨Nat.le_of_ble_eq_true rfl, Nat.le_of_ble_eq_true rfl⟩) (ro_preV hK hPc hP (ci := 4) (q0 := 0) rfl rfl) rfl rfl hl.1 rfl (lv_room (Nat.le_of_ble_eq_true rfl)) dX4_shares_78 ⟨Nat.zero_le _, Nat.zero_le _⟩) (fun r_6 hr_6 => ?_)
              refine lv_if_eq (tgt := 91) hx hb dX4_shares_81 (by decide) (fun c_81 => ?_) (fun c_81 => ?_)
              · skip
                have c_81 := b2_z hr_6 c_81
                refine lv_iconst (v := 0) hx hb dX4_shares_91 (by decide) ?_
                refine lv_ior hx hb dX4_shares_92 ?_
                refine lv_topi (fun x_7 ex_7 => ?_)
                refine lv_istore (lv' := [(5, .int x_7), (6, .int (nI k)), (4, .int 0), (0, .ref m), (1, .int (nI s)), (2, .int (nI rr)), (3, .int (nI i))]) hx hb dX4_shares_93 hl (by decide) rfl (fun ls hl => ?_)
                refine lv_iinc (v := nI (k + 1)) (lv' := [(6, .int (nI (k + 1))), (5, .int x_7), (4, .int 0), (0, .ref m), (1, .int (nI s)), (2, .int (nI rr)), (3, .int (nI i))]) hx hb dX4_shares_95 hl (k := 1) rfl (nI_1 _) (by decide) rfl (fun ls hl => ?_)
                refine lv_goto (tgt := 51) hx hb dX4_shares_98 (by decide) ?_
                obtain rfl : x_7 = shrM f g s (40 * rr + i) M (k + 1) := by rw [ex_7]; have hq := c_81; change allV f g (40 * rr + i) _ _ _ = _ at hq; simp [shrM, kndM, whoM, carM, bitsI, hq, c_10, c_17, c_55, c_55', c_81]
                exact ih_51 (k + 1) (by omega) (by omega) _ _ hP hD hS _ (lv_sub hl [1, 0, 2, 3, 4, 5, 6] rfl)
              · skip
                have c_81 := b2_n hr_6 c_81
                refine lv_iconst (v := 1) hx hb dX4_shares_84 (by decide) ?_
                refine lv_iload hx hb dX4_shares_85 (lv_at hl 1 rfl) ?_
                refine lv_ishl hx hb dX4_shares_87 ?_
                refine lv_goto (tgt := 92) hx hb dX4_shares_88 (by decide) ?_
                refine lv_ior hx hb dX4_shares_92 ?_
                refine lv_topi (fun x_8 ex_8 => ?_)
                refine lv_istore (lv' := [(5, .int x_8), (6, .int (nI k)), (4, .int 0), (0, .ref m), (1, .int (nI s)), (2, .int (nI rr)), (3, .int (nI i))]) hx hb dX4_shares_93 hl (by decide) rfl (fun ls hl => ?_)
                refine lv_iinc (v := nI (k + 1)) (lv' := [(6, .int (nI (k + 1))), (5, .int x_8), (4, .int 0), (0, .ref m), (1, .int (nI s)), (2, .int (nI rr)), (3, .int (nI i))]) hx hb dX4_shares_95 hl (k := 1) rfl (nI_1 _) (by decide) rfl (fun ls hl => ?_)
                refine lv_goto (tgt := 51) hx hb dX4_shares_98 (by decide) ?_
                obtain rfl : x_8 = shrM f g s (40 * rr + i) M (k + 1) := by rw [ex_8]; have hq := c_81; change allV f g (40 * rr + i) _ _ _ = _ at hq; simp [shrM, kndM, whoM, carM, bitsI, hq, c_10, c_17, c_55, c_55', c_81]
                exact ih_51 (k + 1) (by omega) (by omega) _ _ hP hD hS _ (lv_sub hl [1, 0, 2, 3, 4, 5, 6] rfl)
        exact J_51 _ 0 (by omega) (Nat.lt_succ_self _) _ _ hP hD hS _ (lv_sub hl [1, 0, 2, 3, 4, 5, 6] rfl)
      · skip
        exact False.elim (by revert c_39; decide)
    · skip
      have c_17 := b2_z hr_2 c_17
      exact Bool.noConfusion (hA.symm.trans c_17)
set_option maxHeartbeats 4000000 in
set_option maxRecDepth 100000 in
theorem c_X4_kinds_null (l : Launch) (G : lzG) (m : Nat) (q : Nat → Nat) (S : Nat → Int32) (ln mn g f : Nat → Int32) (s N : Nat) (rr : Nat) (i : Int32) (hrw : rr < 8) (hN : f 2 = nI N) (hN8 : N ≤ 8) (hs : s < N) (hm : ln rr < 0) : Met l yX4_kinds wsX4_kinds ({ frames := 2, cells := 0, slots := 0, locals := 46 }) (va_Pc [.ref m, .int (nI s), .int (nI rr), .int i] (rwP G (lzM m q S ++ (lzI G (q 2) 8 ln ++ (lzI G (q 3) 8 mn ++ (lzI G (q 4) 320 g ++ (lzI G (q 5) 64 f))))))) (va_Qi (S := Unit) (fun (r : Int32) (_ : Unit) => r = -1000011) (rwB G (fun _ : Unit => (lzM m q (upd (upd S 0 0) 1 1) ++ (lzI G (q 2) 8 ln ++ (lzI G (q 3) 8 mn ++ (lzI G (q 4) 320 g ++ (lzI G (q 5) 64 f))))))) (lzA (lzM m q S ++ (lzI G (q 2) 8 ln ++ (lzI G (q 3) 8 mn ++ (lzI G (q 4) 320 g ++ (lzI G (q 5) 64 f))))))) 0 0 (lzA (lzM m q S ++ (lzI G (q 2) 8 ln ++ (lzI G (q 3) 8 mn ++ (lzI G (q 4) 320 g ++ (lzI G (q 5) 64 f)))))) := by
  have hA : inR (nI rr) 0 7 = true := inR_row hrw
  have hC9 : inR (nI s) 0 (f 2 - 1) = true := inR_ok hN hs (by omega)
  refine rw_start (S := Unit) (cc := cX4_kinds) (maxL := 7) (ret := (some .int)) (by decide) rfl (Nat.le_of_ble_eq_true rfl) ?_
  intro pp ee ss mm bl me cd A hx hb hr hlk hml hts hown hP hK hD hAe hS ls hl
  have hA0 : ∀ zz : Nat, lzA (lzM m q S ++ (lzI G (q 2) 8 ln ++ (lzI G (q 3) 8 mn ++ (lzI G (q 4) 320 g ++ (lzI G (q 5) 64 f))))) zz → A zz := fun zz h9 => by rw [hAe]; exact h9
  rw [← hAe]
  clear hAe
  have hown : ss.vm.findClass RX4 = some mm.cls := hown
  have hw1 := hts (.fieldLink RX4 48 "LampSquaresModel" "thrown" "I") (List.mem_of_getElem? (i := 1) rfl)
  have hw3 := hts (.fieldLink RX4 19 "LampSquaresModel" "door" "[I") (List.mem_of_getElem? (i := 3) rfl)
  have hu_wsX40 : ∀ w ∈ wsX40, w.before ([.ref m, .int (nI s), .int (nI rr), .int i] : List Value).toArray ss = true := fun w h9 => hts w (List.mem_cons_of_mem _ (List.mem_append_right _ h9))
  have hl : lv_has ls 7 [(0, .ref m), (1, .int (nI s)), (2, .int (nI rr)), (3, .int i)] := hl
  refine lv_aload_n hx hb dX4_kinds_0 rfl (lv_at hl 0 rfl) ?_
  refine lv_iconst (v := 0) hx hb dX4_kinds_1 (by decide) ?_
  refine lz_put (G := G) (ci := 4) (C := RX4) (T := TX4) (N := 24) hx hb hu_wsX40 (fun _ h9 => h9) tyX4 tyX4_ok nmX4 hown hK hP hD hS 0 rfl rfl 0 (by decide) hw1 rfl rfl (by decide +kernel) (Nat.le_of_ble_eq_true rfl) dX4_kinds_2 (lzM m q (upd S 0 0) ++ (lzI G (q 2) 8 ln ++ (lzI G (q 3) 8 mn ++ (lzI G (q 4) 320 g ++ (lzI G (q 5) 64 f))))) rfl (fun H locs hP hD hS => ?_)
  refine lv_aload_n hx hb dX4_kinds_5 rfl (lv_at hl 0 rfl) ?_
  refine lv_iload_n hx hb dX4_kinds_6 rfl (lv_at hl 1 rfl) ?_
  have hPc := hP.sub (ws' := (lzM m q (upd S 0 0) ++ lzI G (q 5) 64 f)) [0, 4] rfl
  refine ro_calli (va_runV (As := [.int (nI s)]) (rest := []) ⟨hx, hb, hml, hown, hts⟩ (c_X4_isSquare l G m q (upd S 0 0) f (nI s) ) (cwV 1 hts gX4_kinds_X4_isSquare rfl rfl rfl (by decide +kernel) ⟨Nat.le_of_ble_eq_true rfl, Nat.le_of_ble_eq_true rfl⟩) (ro_preV hK hPc hP (ci := 4) (q0 := 0) rfl rfl) rfl rfl hl.1 rfl (lv_room (Nat.le_of_ble_eq_true rfl)) dX4_kinds_7 ⟨Nat.zero_le _, Nat.zero_le _⟩) (fun r_1 hr_1 => ?_)
  refine lv_if_eq (tgt := 20) hx hb dX4_kinds_10 (by decide) (fun c_10 => ?_) (fun c_10 => ?_)
  · skip
    have c_10 := b2_z hr_1 c_10
    exact Bool.noConfusion (hC9.symm.trans c_10)
  · skip
    have c_10 := b2_n hr_1 c_10
    refine lv_iload_n hx hb dX4_kinds_13 rfl (lv_at hl 2 rfl) ?_
    refine ro_calli (va_runS (As := [.int (nI rr)]) (rest := []) ⟨hx, hb, hml, hown, hts⟩ (c_X4_isRow l G (nI rr) ) (cwS 1 hts gX4_kinds_X4_isRow rfl rfl rfl (by decide +kernel) ⟨Nat.le_of_ble_eq_true rfl, Nat.le_of_ble_eq_true rfl⟩) (ro_pre hK (fun k q h => by simp at h)) rfl rfl hl.1 rfl (lv_room (Nat.le_of_ble_eq_true rfl)) dX4_kinds_14 ⟨Nat.zero_le _, Nat.zero_le _⟩) (fun r_2 hr_2 => ?_)
    refine lv_if_ne (tgt := 23) hx hb dX4_kinds_17 (by decide) (fun c_17 => ?_) (fun c_17 => ?_)
    · skip
      have c_17 := b2_n hr_2 c_17
      refine lv_aload_n hx hb dX4_kinds_23 rfl (lv_at hl 0 rfl) ?_
      refine lv_iload_n hx hb dX4_kinds_24 rfl (lv_at hl 2 rfl) ?_
      refine lv_iload_n hx hb dX4_kinds_25 rfl (lv_at hl 3 rfl) ?_
      refine lv_aload_n hx hb dX4_kinds_26 rfl (lv_at hl 0 rfl) ?_
      refine lz_get (G := G) (ci := 4) (v := .ref (q 5)) (C := RX4) (T := TX4) (N := 24) hx hb hu_wsX40 (fun _ h9 => h9) hown hK hP 0 rfl rfl 5 (by decide) hw3 rfl rfl dX4_kinds_27 ?_
      refine lv_iconst (v := 3) hx hb dX4_kinds_30 (by decide) ?_
      refine lz_iald (f := f) hx hb hK hP 4 rfl 3 (by omega) (Nat.le_of_ble_eq_true rfl) dX4_kinds_31 ?_
      have hPc := hP.sub (ws' := (lzM m q (upd S 0 0) ++ (lzI G (q 2) 8 ln ++ (lzI G (q 3) 8 mn)))) [0, 1, 2] rfl
      have hDc := hD.sub (ws' := (lzM m q (upd S 0 0) ++ (lzI G (q 2) 8 ln ++ (lzI G (q 3) 8 mn)))) [0, 1, 2] (by decide) rfl
      have hFc : ∀ zz : Nat, lzA (lzM m q (upd S 0 0) ++ (lzI G (q 2) 8 ln ++ (lzI G (q 3) 8 mn))) zz → A zz := lz_free hD [0, 1, 2] rfl
      refine va_calli (va_runV (As := [.int (nI rr), .int i, .int (f 3)]) (rest := []) ⟨hx, hb, hml, hown, hts⟩ (c_X4_rowFound_null l G m q (upd S 0 0) ln mn rr i (f 3) (hrw) (hm)) (cwV 3 hts gX4_kinds_X4_rowFound rfl rfl rfl (by decide +kernel) ⟨Nat.le_of_ble_eq_true rfl, Nat.le_of_ble_eq_true rfl⟩) (rw_preV hK hPc hDc hP (ci := 4) (q0 := 0) rfl rfl) rfl rfl hl.1 rfl (lv_room (Nat.le_of_ble_eq_true rfl)) dX4_kinds_32 ⟨Nat.zero_le _, Nat.zero_le _⟩) hS (fun q _ h => hFc q h) hFc (fun r_3 u_4 t9 H1 locs ht hvm hr_3 hB hz1 hk1 hS => ?_)
      replace hB : va_P G.1 lzC _ t9.heap := hB
      rw [ht] at hB
      obtain ⟨hP, hD⟩ := lz_join (wc := (lzM m q (upd S 0 0) ++ (lzI G (q 2) 8 ln ++ (lzI G (q 3) 8 mn)))) (wr := ([(q 4, .inl (G.2 0, 320, .inl g)), (q 5, .inl (G.2 0, 64, .inl f))] : va_W)) (w1 := (lzM m q (upd (upd S 0 0) 1 1) ++ (lzI G (q 2) 8 ln ++ (lzI G (q 3) 8 mn)))) hP hD [0, 1, 2] [3, 4] rfl rfl (by decide) (by decide) rfl hk1 hB
      replace hP := hP.sub (ws' := (lzM m q (upd (upd S 0 0) 1 1) ++ (lzI G (q 2) 8 ln ++ (lzI G (q 3) 8 mn ++ (lzI G (q 4) 320 g ++ (lzI G (q 5) 64 f)))))) [2, 3, 4, 0, 1] rfl
      replace hD := hD.sub (ws' := (lzM m q (upd (upd S 0 0) 1 1) ++ (lzI G (q 2) 8 ln ++ (lzI G (q 3) 8 mn ++ (lzI G (q 4) 320 g ++ (lzI G (q 5) 64 f)))))) [2, 3, 4, 0, 1] (by decide) rfl
      clear ht hvm hB hz1 hk1
      generalize H1 = H at hP hS ⊢
      refine lz_top (y := -1000011) hr_3 ?_
      refine lv_istore (lv' := [(4, .int (-1000011)), (0, .ref m), (1, .int (nI s)), (2, .int (nI rr)), (3, .int i)]) hx hb dX4_kinds_35 hl (by decide) rfl (fun ls hl => ?_)
      refine lv_iload hx hb dX4_kinds_37 (lv_at hl 0 rfl) ?_
      refine lv_if_eq (tgt := 45) hx hb dX4_kinds_39 (by decide) (fun c_39 => ?_) (fun c_39 => ?_)
      · skip
        exact False.elim (by revert c_39; decide)
      · skip
        refine lv_iload hx hb dX4_kinds_42 (lv_at hl 0 rfl) ?_
        exact rw_iret (S := Unit) (G := G) (Wd := fun _ : Unit => (lzM m q (upd (upd S 0 0) 1 1) ++ (lzI G (q 2) 8 ln ++ (lzI G (q 3) 8 mn ++ (lzI G (q 4) 320 g ++ (lzI G (q 5) 64 f)))))) () hx hb hr hlk dX4_kinds_44 hS (hP) (by first | rfl | assumption)
    · skip
      have c_17 := b2_z hr_2 c_17
      exact Bool.noConfusion (hA.symm.trans c_17)
set_option maxHeartbeats 4000000 in
set_option maxRecDepth 100000 in
theorem c_X4_kinds_place (l : Launch) (G : lzG) (m : Nat) (q : Nat → Nat) (S : Nat → Int32) (ln mn g f : Nat → Int32) (s N : Nat) (rr : Nat) (i : Int32) (hrw : rr < 8) (hN : f 2 = nI N) (hN8 : N ≤ 8) (hs : s < N) (hm : 0 ≤ ln rr) (hp : plcM (mn rr) i (f 3) = true) : Met l yX4_kinds wsX4_kinds ({ frames := 2, cells := 0, slots := 0, locals := 46 }) (va_Pc [.ref m, .int (nI s), .int (nI rr), .int i] (rwP G (lzM m q S ++ (lzI G (q 2) 8 ln ++ (lzI G (q 3) 8 mn ++ (lzI G (q 4) 320 g ++ (lzI G (q 5) 64 f))))))) (va_Qi (S := Unit) (fun (r : Int32) (_ : Unit) => r = -1000012) (rwB G (fun _ : Unit => (lzM m q (upd (upd S 0 0) 1 2) ++ (lzI G (q 2) 8 ln ++ (lzI G (q 3) 8 mn ++ (lzI G (q 4) 320 g ++ (lzI G (q 5) 64 f))))))) (lzA (lzM m q S ++ (lzI G (q 2) 8 ln ++ (lzI G (q 3) 8 mn ++ (lzI G (q 4) 320 g ++ (lzI G (q 5) 64 f))))))) 0 0 (lzA (lzM m q S ++ (lzI G (q 2) 8 ln ++ (lzI G (q 3) 8 mn ++ (lzI G (q 4) 320 g ++ (lzI G (q 5) 64 f)))))) := by
  have hA : inR (nI rr) 0 7 = true := inR_row hrw
  have hC9 : inR (nI s) 0 (f 2 - 1) = true := inR_ok hN hs (by omega)
  refine rw_start (S := Unit) (cc := cX4_kinds) (maxL := 7) (ret := (some .int)) (by decide) rfl (Nat.le_of_ble_eq_true rfl) ?_
  intro pp ee ss mm bl me cd A hx hb hr hlk hml hts hown hP hK hD hAe hS ls hl
  have hA0 : ∀ zz : Nat, lzA (lzM m q S ++ (lzI G (q 2) 8 ln ++ (lzI G (q 3) 8 mn ++ (lzI G (q 4) 320 g ++ (lzI G (q 5) 64 f))))) zz → A zz := fun zz h9 => by rw [hAe]; exact h9
  rw [← hAe]
  clear hAe
  have hown : ss.vm.findClass RX4 = some mm.cls := hown
  have hw1 := hts (.fieldLink RX4 48 "LampSquaresModel" "thrown" "I") (List.mem_of_getElem? (i := 1) rfl)
  have hw3 := hts (.fieldLink RX4 19 "LampSquaresModel" "door" "[I") (List.mem_of_getElem? (i := 3) rfl)
  have hu_wsX40 : ∀ w ∈ wsX40, w.before ([.ref m, .int (nI s), .int (nI rr), .int i] : List Value).toArray ss = true := fun w h9 => hts w (List.mem_cons_of_mem _ (List.mem_append_right _ h9))
  have hl : lv_has ls 7 [(0, .ref m), (1, .int (nI s)), (2, .int (nI rr)), (3, .int i)] := hl
  refine lv_aload_n hx hb dX4_kinds_0 rfl (lv_at hl 0 rfl) ?_
  refine lv_iconst (v := 0) hx hb dX4_kinds_1 (by decide) ?_
  refine lz_put (G := G) (ci := 4) (C := RX4) (T := TX4) (N := 24) hx hb hu_wsX40 (fun _ h9 => h9) tyX4 tyX4_ok nmX4 hown hK hP hD hS 0 rfl rfl 0 (by decide) hw1 rfl rfl (by decide +kernel) (Nat.le_of_ble_eq_true rfl) dX4_kinds_2 (lzM m q (upd S 0 0) ++ (lzI G (q 2) 8 ln ++ (lzI G (q 3) 8 mn ++ (lzI G (q 4) 320 g ++ (lzI G (q 5) 64 f))))) rfl (fun H locs hP hD hS => ?_)
  refine lv_aload_n hx hb dX4_kinds_5 rfl (lv_at hl 0 rfl) ?_
  refine lv_iload_n hx hb dX4_kinds_6 rfl (lv_at hl 1 rfl) ?_
  have hPc := hP.sub (ws' := (lzM m q (upd S 0 0) ++ lzI G (q 5) 64 f)) [0, 4] rfl
  refine ro_calli (va_runV (As := [.int (nI s)]) (rest := []) ⟨hx, hb, hml, hown, hts⟩ (c_X4_isSquare l G m q (upd S 0 0) f (nI s) ) (cwV 1 hts gX4_kinds_X4_isSquare rfl rfl rfl (by decide +kernel) ⟨Nat.le_of_ble_eq_true rfl, Nat.le_of_ble_eq_true rfl⟩) (ro_preV hK hPc hP (ci := 4) (q0 := 0) rfl rfl) rfl rfl hl.1 rfl (lv_room (Nat.le_of_ble_eq_true rfl)) dX4_kinds_7 ⟨Nat.zero_le _, Nat.zero_le _⟩) (fun r_1 hr_1 => ?_)
  refine lv_if_eq (tgt := 20) hx hb dX4_kinds_10 (by decide) (fun c_10 => ?_) (fun c_10 => ?_)
  · skip
    have c_10 := b2_z hr_1 c_10
    exact Bool.noConfusion (hC9.symm.trans c_10)
  · skip
    have c_10 := b2_n hr_1 c_10
    refine lv_iload_n hx hb dX4_kinds_13 rfl (lv_at hl 2 rfl) ?_
    refine ro_calli (va_runS (As := [.int (nI rr)]) (rest := []) ⟨hx, hb, hml, hown, hts⟩ (c_X4_isRow l G (nI rr) ) (cwS 1 hts gX4_kinds_X4_isRow rfl rfl rfl (by decide +kernel) ⟨Nat.le_of_ble_eq_true rfl, Nat.le_of_ble_eq_true rfl⟩) (ro_pre hK (fun k q h => by simp at h)) rfl rfl hl.1 rfl (lv_room (Nat.le_of_ble_eq_true rfl)) dX4_kinds_14 ⟨Nat.zero_le _, Nat.zero_le _⟩) (fun r_2 hr_2 => ?_)
    refine lv_if_ne (tgt := 23) hx hb dX4_kinds_17 (by decide) (fun c_17 => ?_) (fun c_17 => ?_)
    · skip
      have c_17 := b2_n hr_2 c_17
      refine lv_aload_n hx hb dX4_kinds_23 rfl (lv_at hl 0 rfl) ?_
      refine lv_iload_n hx hb dX4_kinds_24 rfl (lv_at hl 2 rfl) ?_
      refine lv_iload_n hx hb dX4_kinds_25 rfl (lv_at hl 3 rfl) ?_
      refine lv_aload_n hx hb dX4_kinds_26 rfl (lv_at hl 0 rfl) ?_
      refine lz_get (G := G) (ci := 4) (v := .ref (q 5)) (C := RX4) (T := TX4) (N := 24) hx hb hu_wsX40 (fun _ h9 => h9) hown hK hP 0 rfl rfl 5 (by decide) hw3 rfl rfl dX4_kinds_27 ?_
      refine lv_iconst (v := 3) hx hb dX4_kinds_30 (by decide) ?_
      refine lz_iald (f := f) hx hb hK hP 4 rfl 3 (by omega) (Nat.le_of_ble_eq_true rfl) dX4_kinds_31 ?_
      have hPc := hP.sub (ws' := (lzM m q (upd S 0 0) ++ (lzI G (q 2) 8 ln ++ (lzI G (q 3) 8 mn)))) [0, 1, 2] rfl
      have hDc := hD.sub (ws' := (lzM m q (upd S 0 0) ++ (lzI G (q 2) 8 ln ++ (lzI G (q 3) 8 mn)))) [0, 1, 2] (by decide) rfl
      have hFc : ∀ zz : Nat, lzA (lzM m q (upd S 0 0) ++ (lzI G (q 2) 8 ln ++ (lzI G (q 3) 8 mn))) zz → A zz := lz_free hD [0, 1, 2] rfl
      refine va_calli (va_runV (As := [.int (nI rr), .int i, .int (f 3)]) (rest := []) ⟨hx, hb, hml, hown, hts⟩ (c_X4_rowFound_place l G m q (upd S 0 0) ln mn rr i (f 3) (hrw) (hm) (hp)) (cwV 3 hts gX4_kinds_X4_rowFound rfl rfl rfl (by decide +kernel) ⟨Nat.le_of_ble_eq_true rfl, Nat.le_of_ble_eq_true rfl⟩) (rw_preV hK hPc hDc hP (ci := 4) (q0 := 0) rfl rfl) rfl rfl hl.1 rfl (lv_room (Nat.le_of_ble_eq_true rfl)) dX4_kinds_32 ⟨Nat.zero_le _, Nat.zero_le _⟩) hS (fun q _ h => hFc q h) hFc (fun r_3 u_4 t9 H1 locs ht hvm hr_3 hB hz1 hk1 hS => ?_)
      replace hB : va_P G.1 lzC _ t9.heap := hB
      rw [ht] at hB
      obtain ⟨hP, hD⟩ := lz_join (wc := (lzM m q (upd S 0 0) ++ (lzI G (q 2) 8 ln ++ (lzI G (q 3) 8 mn)))) (wr := ([(q 4, .inl (G.2 0, 320, .inl g)), (q 5, .inl (G.2 0, 64, .inl f))] : va_W)) (w1 := (lzM m q (upd (upd S 0 0) 1 2) ++ (lzI G (q 2) 8 ln ++ (lzI G (q 3) 8 mn)))) hP hD [0, 1, 2] [3, 4] rfl rfl (by decide) (by decide) rfl hk1 hB
      replace hP := hP.sub (ws' := (lzM m q (upd (upd S 0 0) 1 2) ++ (lzI G (q 2) 8 ln ++ (lzI G (q 3) 8 mn ++ (lzI G (q 4) 320 g ++ (lzI G (q 5) 64 f)))))) [2, 3, 4, 0, 1] rfl
      replace hD := hD.sub (ws' := (lzM m q (upd (upd S 0 0) 1 2) ++ (lzI G (q 2) 8 ln ++ (lzI G (q 3) 8 mn ++ (lzI G (q 4) 320 g ++ (lzI G (q 5) 64 f)))))) [2, 3, 4, 0, 1] (by decide) rfl
      clear ht hvm hB hz1 hk1
      generalize H1 = H at hP hS ⊢
      refine lz_top (y := -1000012) hr_3 ?_
      refine lv_istore (lv' := [(4, .int (-1000012)), (0, .ref m), (1, .int (nI s)), (2, .int (nI rr)), (3, .int i)]) hx hb dX4_kinds_35 hl (by decide) rfl (fun ls hl => ?_)
      refine lv_iload hx hb dX4_kinds_37 (lv_at hl 0 rfl) ?_
      refine lv_if_eq (tgt := 45) hx hb dX4_kinds_39 (by decide) (fun c_39 => ?_) (fun c_39 => ?_)
      · skip
        exact False.elim (by revert c_39; decide)
      · skip
        refine lv_iload hx hb dX4_kinds_42 (lv_at hl 0 rfl) ?_
        exact rw_iret (S := Unit) (G := G) (Wd := fun _ : Unit => (lzM m q (upd (upd S 0 0) 1 2) ++ (lzI G (q 2) 8 ln ++ (lzI G (q 3) 8 mn ++ (lzI G (q 4) 320 g ++ (lzI G (q 5) 64 f)))))) () hx hb hr hlk dX4_kinds_44 hS (hP) (by first | rfl | assumption)
    · skip
      have c_17 := b2_z hr_2 c_17
      exact Bool.noConfusion (hA.symm.trans c_17)
set_option maxHeartbeats 4000000 in
set_option maxRecDepth 100000 in
theorem c_X4_kinds_ok (l : Launch) (G : lzG) (m : Nat) (q : Nat → Nat) (S : Nat → Int32) (ln mn g f : Nat → Int32) (s : Nat) (rr i N M : Nat) (hrw : rr < 8) (hN : f 2 = nI N) (hN8 : N ≤ 8) (hM : f 3 = nI M) (hM5 : M ≤ 5) (hs : s < N) (hm : 0 ≤ ln rr) (hp : plcM (mn rr) (nI i) (f 3) = false) (hi40 : i + M ≤ 40) : Met l yX4_kinds wsX4_kinds ({ frames := 3, cells := 0, slots := 0, locals := 71 }) (va_Pc [.ref m, .int (nI s), .int (nI rr), .int (nI i)] (rwP G (lzM m q S ++ (lzI G (q 2) 8 ln ++ (lzI G (q 3) 8 mn ++ (lzI G (q 4) 320 g ++ (lzI G (q 5) 64 f))))))) (va_Qi (S := Unit) (fun (r : Int32) (_ : Unit) => r = kndM f g s (40 * rr + i) M 6) (rwB G (fun _ : Unit => (lzM m q (upd (upd S 0 0) 1 0) ++ (lzI G (q 2) 8 ln ++ (lzI G (q 3) 8 mn ++ (lzI G (q 4) 320 g ++ (lzI G (q 5) 64 f))))))) (lzA (lzM m q S ++ (lzI G (q 2) 8 ln ++ (lzI G (q 3) 8 mn ++ (lzI G (q 4) 320 g ++ (lzI G (q 5) 64 f))))))) 0 0 (lzA (lzM m q S ++ (lzI G (q 2) 8 ln ++ (lzI G (q 3) 8 mn ++ (lzI G (q 4) 320 g ++ (lzI G (q 5) 64 f)))))) := by
  have hA : inR (nI rr) 0 7 = true := inR_row hrw
  have hC9 : inR (nI s) 0 (f 2 - 1) = true := inR_ok hN hs (by omega)
  refine rw_start (S := Unit) (cc := cX4_kinds) (maxL := 7) (ret := (some .int)) (by decide) rfl (Nat.le_of_ble_eq_true rfl) ?_
  intro pp ee ss mm bl me cd A hx hb hr hlk hml hts hown hP hK hD hAe hS ls hl
  have hA0 : ∀ zz : Nat, lzA (lzM m q S ++ (lzI G (q 2) 8 ln ++ (lzI G (q 3) 8 mn ++ (lzI G (q 4) 320 g ++ (lzI G (q 5) 64 f))))) zz → A zz := fun zz h9 => by rw [hAe]; exact h9
  rw [← hAe]
  clear hAe
  have hown : ss.vm.findClass RX4 = some mm.cls := hown
  have hw1 := hts (.fieldLink RX4 48 "LampSquaresModel" "thrown" "I") (List.mem_of_getElem? (i := 1) rfl)
  have hw3 := hts (.fieldLink RX4 19 "LampSquaresModel" "door" "[I") (List.mem_of_getElem? (i := 3) rfl)
  have hu_wsX40 : ∀ w ∈ wsX40, w.before ([.ref m, .int (nI s), .int (nI rr), .int (nI i)] : List Value).toArray ss = true := fun w h9 => hts w (List.mem_cons_of_mem _ (List.mem_append_right _ h9))
  have hl : lv_has ls 7 [(0, .ref m), (1, .int (nI s)), (2, .int (nI rr)), (3, .int (nI i))] := hl
  refine lv_aload_n hx hb dX4_kinds_0 rfl (lv_at hl 0 rfl) ?_
  refine lv_iconst (v := 0) hx hb dX4_kinds_1 (by decide) ?_
  refine lz_put (G := G) (ci := 4) (C := RX4) (T := TX4) (N := 24) hx hb hu_wsX40 (fun _ h9 => h9) tyX4 tyX4_ok nmX4 hown hK hP hD hS 0 rfl rfl 0 (by decide) hw1 rfl rfl (by decide +kernel) (Nat.le_of_ble_eq_true rfl) dX4_kinds_2 (lzM m q (upd S 0 0) ++ (lzI G (q 2) 8 ln ++ (lzI G (q 3) 8 mn ++ (lzI G (q 4) 320 g ++ (lzI G (q 5) 64 f))))) rfl (fun H locs hP hD hS => ?_)
  refine lv_aload_n hx hb dX4_kinds_5 rfl (lv_at hl 0 rfl) ?_
  refine lv_iload_n hx hb dX4_kinds_6 rfl (lv_at hl 1 rfl) ?_
  have hPc := hP.sub (ws' := (lzM m q (upd S 0 0) ++ lzI G (q 5) 64 f)) [0, 4] rfl
  refine ro_calli (va_runV (As := [.int (nI s)]) (rest := []) ⟨hx, hb, hml, hown, hts⟩ (c_X4_isSquare l G m q (upd S 0 0) f (nI s) ) (cwV 1 hts gX4_kinds_X4_isSquare rfl rfl rfl (by decide +kernel) ⟨Nat.le_of_ble_eq_true rfl, Nat.le_of_ble_eq_true rfl⟩) (ro_preV hK hPc hP (ci := 4) (q0 := 0) rfl rfl) rfl rfl hl.1 rfl (lv_room (Nat.le_of_ble_eq_true rfl)) dX4_kinds_7 ⟨Nat.zero_le _, Nat.zero_le _⟩) (fun r_1 hr_1 => ?_)
  refine lv_if_eq (tgt := 20) hx hb dX4_kinds_10 (by decide) (fun c_10 => ?_) (fun c_10 => ?_)
  · skip
    have c_10 := b2_z hr_1 c_10
    exact Bool.noConfusion (hC9.symm.trans c_10)
  · skip
    have c_10 := b2_n hr_1 c_10
    refine lv_iload_n hx hb dX4_kinds_13 rfl (lv_at hl 2 rfl) ?_
    refine ro_calli (va_runS (As := [.int (nI rr)]) (rest := []) ⟨hx, hb, hml, hown, hts⟩ (c_X4_isRow l G (nI rr) ) (cwS 1 hts gX4_kinds_X4_isRow rfl rfl rfl (by decide +kernel) ⟨Nat.le_of_ble_eq_true rfl, Nat.le_of_ble_eq_true rfl⟩) (ro_pre hK (fun k q h => by simp at h)) rfl rfl hl.1 rfl (lv_room (Nat.le_of_ble_eq_true rfl)) dX4_kinds_14 ⟨Nat.zero_le _, Nat.zero_le _⟩) (fun r_2 hr_2 => ?_)
    refine lv_if_ne (tgt := 23) hx hb dX4_kinds_17 (by decide) (fun c_17 => ?_) (fun c_17 => ?_)
    · skip
      have c_17 := b2_n hr_2 c_17
      refine lv_aload_n hx hb dX4_kinds_23 rfl (lv_at hl 0 rfl) ?_
      refine lv_iload_n hx hb dX4_kinds_24 rfl (lv_at hl 2 rfl) ?_
      refine lv_iload_n hx hb dX4_kinds_25 rfl (lv_at hl 3 rfl) ?_
      refine lv_aload_n hx hb dX4_kinds_26 rfl (lv_at hl 0 rfl) ?_
      refine lz_get (G := G) (ci := 4) (v := .ref (q 5)) (C := RX4) (T := TX4) (N := 24) hx hb hu_wsX40 (fun _ h9 => h9) hown hK hP 0 rfl rfl 5 (by decide) hw3 rfl rfl dX4_kinds_27 ?_
      refine lv_iconst (v := 3) hx hb dX4_kinds_30 (by decide) ?_
      refine lz_iald (f := f) hx hb hK hP 4 rfl 3 (by omega) (Nat.le_of_ble_eq_true rfl) dX4_kinds_31 ?_
      have hPc := hP.sub (ws' := (lzM m q (upd S 0 0) ++ (lzI G (q 2) 8 ln ++ (lzI G (q 3) 8 mn)))) [0, 1, 2] rfl
      have hDc := hD.sub (ws' := (lzM m q (upd S 0 0) ++ (lzI G (q 2) 8 ln ++ (lzI G (q 3) 8 mn)))) [0, 1, 2] (by decide) rfl
      have hFc : ∀ zz : Nat, lzA (lzM m q (upd S 0 0) ++ (lzI G (q 2) 8 ln ++ (lzI G (q 3) 8 mn))) zz → A zz := lz_free hD [0, 1, 2] rfl
      refine va_calli (va_runV (As := [.int (nI rr), .int (nI i), .int (f 3)]) (rest := []) ⟨hx, hb, hml, hown, hts⟩ (c_X4_rowFound_ok l G m q (upd S 0 0) ln mn rr (nI i) (f 3) (hrw) (hm) (hp)) (cwV 3 hts gX4_kinds_X4_rowFound rfl rfl rfl (by decide +kernel) ⟨Nat.le_of_ble_eq_true rfl, Nat.le_of_ble_eq_true rfl⟩) (rw_preV hK hPc hDc hP (ci := 4) (q0 := 0) rfl rfl) rfl rfl hl.1 rfl (lv_room (Nat.le_of_ble_eq_true rfl)) dX4_kinds_32 ⟨Nat.zero_le _, Nat.zero_le _⟩) hS (fun q _ h => hFc q h) hFc (fun r_3 u_4 t9 H1 locs ht hvm hr_3 hB hz1 hk1 hS => ?_)
      replace hB : va_P G.1 lzC _ t9.heap := hB
      rw [ht] at hB
      obtain ⟨hP, hD⟩ := lz_join (wc := (lzM m q (upd S 0 0) ++ (lzI G (q 2) 8 ln ++ (lzI G (q 3) 8 mn)))) (wr := ([(q 4, .inl (G.2 0, 320, .inl g)), (q 5, .inl (G.2 0, 64, .inl f))] : va_W)) (w1 := (lzM m q (upd (upd S 0 0) 1 0) ++ (lzI G (q 2) 8 ln ++ (lzI G (q 3) 8 mn)))) hP hD [0, 1, 2] [3, 4] rfl rfl (by decide) (by decide) rfl hk1 hB
      replace hP := hP.sub (ws' := (lzM m q (upd (upd S 0 0) 1 0) ++ (lzI G (q 2) 8 ln ++ (lzI G (q 3) 8 mn ++ (lzI G (q 4) 320 g ++ (lzI G (q 5) 64 f)))))) [2, 3, 4, 0, 1] rfl
      replace hD := hD.sub (ws' := (lzM m q (upd (upd S 0 0) 1 0) ++ (lzI G (q 2) 8 ln ++ (lzI G (q 3) 8 mn ++ (lzI G (q 4) 320 g ++ (lzI G (q 5) 64 f)))))) [2, 3, 4, 0, 1] (by decide) rfl
      clear ht hvm hB hz1 hk1
      generalize H1 = H at hP hS ⊢
      refine lz_top (y := 0) hr_3 ?_
      refine lv_istore (lv' := [(4, .int 0), (0, .ref m), (1, .int (nI s)), (2, .int (nI rr)), (3, .int (nI i))]) hx hb dX4_kinds_35 hl (by decide) rfl (fun ls hl => ?_)
      refine lv_iload hx hb dX4_kinds_37 (lv_at hl 0 rfl) ?_
      refine lv_if_eq (tgt := 45) hx hb dX4_kinds_39 (by decide) (fun c_39 => ?_) (fun c_39 => ?_)
      · skip
        refine lv_iconst (v := 0) hx hb dX4_kinds_45 (by decide) ?_
        refine lz_top (y := kndM f g s (40 * rr + i) M 1) (by simp [kndM, bitsI]) ?_
        refine lv_topi (fun x_5 ex_5 => ?_)
        refine lv_istore (lv' := [(5, .int x_5), (4, .int 0), (0, .ref m), (1, .int (nI s)), (2, .int (nI rr)), (3, .int (nI i))]) hx hb dX4_kinds_46 hl (by decide) rfl (fun ls hl => ?_)
        refine lv_iconst (v := 1) hx hb dX4_kinds_48 (by decide) ?_
        refine lv_istore (lv' := [(6, .int 1), (5, .int x_5), (4, .int 0), (0, .ref m), (1, .int (nI s)), (2, .int (nI rr)), (3, .int (nI i))]) hx hb dX4_kinds_49 hl (by decide) rfl (fun ls hl => ?_)
        have J_51 : ∀ (n9 : Nat), ∀ (k : Nat), (k ≤ 6) → (1 ≤ k) → 6 - k < n9 → ∀ (H : Heap) (locs : List Loc), va_P G.1 lzC (lzM m q (upd (upd S 0 0) 1 0) ++ (lzI G (q 2) 8 ln ++ (lzI G (q 3) 8 mn ++ (lzI G (q 4) 320 g ++ (lzI G (q 5) 64 f))))) H → va_D A (lzM m q (upd (upd S 0 0) 1 0) ++ (lzI G (q 2) 8 ln ++ (lzI G (q 3) 8 mn ++ (lzI G (q 4) 320 g ++ (lzI G (q 5) 64 f))))) → va_S A ss.heap H locs → ∀ ls : Array Slot, lv_has ls 7 [(5, .int (kndM f g s (40 * rr + i) M k)), (6, .int (nI k)), (4, .int 0), (0, .ref m), (1, .int (nI s)), (2, .int (nI rr)), (3, .int (nI i))] → W pp l ee ({ frames := 3, cells := 0, slots := 0, locals := 71 }) ss mm ([.ref m, .int (nI s), .int (nI rr), .int (nI i)] : List Value).toArray bl me cd H locs 0 0 (MQ bl (va_Qi (S := Unit) (fun (r : Int32) (_ : Unit) => r = kndM f g s (40 * rr + i) M 6) (rwB G (fun _ : Unit => (lzM m q (upd (upd S 0 0) 1 0) ++ (lzI G (q 2) 8 ln ++ (lzI G (q 3) 8 mn ++ (lzI G (q 4) 320 g ++ (lzI G (q 5) 64 f))))))) A) ([.ref m, .int (nI s), .int (nI rr), .int (nI i)] : List Value).toArray ss 0 0 A) (F0 mm 51 ls []) := by
          intro n9
          induction n9 with
          | zero => intro k hk hk1 hn; exact absurd hn (Nat.not_lt_zero _)
          | succ n9 ih_51 =>
            intro k hk hk1 hn_51 H locs hP hD hS ls hl
            refine lv_iload hx hb dX4_kinds_51 (lv_at hl 1 rfl) ?_
            refine lv_iconst (v := 5) hx hb dX4_kinds_53 (by decide) ?_
            refine lv_icmp_gt (tgt := 100) hx hb dX4_kinds_54 (by decide) (fun c_54 => ?_) (fun c_54 => ?_)
            · skip
              have c_54' := Int32.not_le.mpr c_54
              have hk2 : 6 ≤ k := by have h9 : ¬ nI k ≤ 5 := fun h8 => absurd h8 (Int32.not_le.mpr c_54); have := mt (nI_leI (b := 5) (by omega) (by decide)).mpr h9; omega
              have hk3 : k = 6 := by omega
              refine lv_iload hx hb dX4_kinds_100 (lv_at hl 0 rfl) ?_
              exact rw_iret (S := Unit) (G := G) (Wd := fun _ : Unit => (lzM m q (upd (upd S 0 0) 1 0) ++ (lzI G (q 2) 8 ln ++ (lzI G (q 3) 8 mn ++ (lzI G (q 4) 320 g ++ (lzI G (q 5) 64 f)))))) () hx hb hr hlk dX4_kinds_102 hS (hP) (by first | rfl | (rw [hk3]))
            · skip
              have c_54' := Int32.not_lt.mp c_54
              have hk2 : k < 6 := by have h9 : nI k ≤ 5 := c_54'; have := (nI_leI (b := 5) (by omega) (by decide)).mp h9; omega
              have hk0 : ¬ k = 0 := by omega
              refine lv_iload hx hb dX4_kinds_57 (lv_at hl 0 rfl) ?_
              refine lv_aload_n hx hb dX4_kinds_59 rfl (lv_at hl 3 rfl) ?_
              refine lv_iload hx hb dX4_kinds_60 (lv_at hl 1 rfl) ?_
              refine lv_aload_n hx hb dX4_kinds_62 rfl (lv_at hl 3 rfl) ?_
              refine lz_get (G := G) (ci := 4) (v := .ref (q 5)) (C := RX4) (T := TX4) (N := 24) hx hb hu_wsX40 (fun _ h9 => h9) hown hK hP 0 rfl rfl 5 (by decide) hw3 rfl rfl dX4_kinds_63 ?_
              refine lv_iload_n hx hb dX4_kinds_66 rfl (lv_at hl 4 rfl) ?_
              refine lv_iconst (v := 1) hx hb dX4_kinds_67 (by decide) ?_
              have hPc := hP.sub (ws' := lzI G (q 5) 64 f) [4] rfl
              refine ro_calli (va_runS (As := [.ref (q 5), .int (nI s), .int 1]) (rest := [.int (nI k), .ref m, .int (kndM f g s (40 * rr + i) M k)]) ⟨hx, hb, hml, hown, hts⟩ (c_X4_of l G (q 5) f s 1 (by omega) (by decide)) (cwS 3 hts gX4_kinds_X4_of rfl rfl rfl (by decide +kernel) ⟨Nat.le_of_ble_eq_true rfl, Nat.le_of_ble_eq_true rfl⟩) (ro_pre hK hPc) rfl rfl hl.1 rfl (lv_room (Nat.le_of_ble_eq_true rfl)) dX4_kinds_68 ⟨Nat.zero_le _, Nat.zero_le _⟩) (fun r_6 hr_6 => ?_)
              refine lz_top (y := f (4 + 5 * s + 1)) hr_6 ?_
              refine lv_bipush (v := 40) hx hb dX4_kinds_71 (by decide) ?_
              refine lv_iload_n hx hb dX4_kinds_73 rfl (lv_at hl 5 rfl) ?_
              refine lv_imul hx hb dX4_kinds_74 ?_
              refine lv_iload_n hx hb dX4_kinds_75 rfl (lv_at hl 6 rfl) ?_
              refine lv_iadd hx hb dX4_kinds_76 ?_
              refine lz_top (y := nI (40 * rr + i)) (by simp only [fa_lit, pk_mul, nI_add]) ?_
              have hPc := hP.sub (ws' := (lzM m q (upd (upd S 0 0) 1 0) ++ (lzI G (q 4) 320 g ++ (lzI G (q 5) 64 f)))) [0, 3, 4] rfl
              refine ro_calli (va_runV (As := [.int (nI k), .int (f (4 + 5 * s + 1)), .int (nI (40 * rr + i))]) (rest := [.int (kndM f g s (40 * rr + i) M k)]) ⟨hx, hb, hml, hown, hts⟩ (c_X4_allClickSo l G m q (upd (upd S 0 0) 1 0) g f (nI k) (f (4 + 5 * s + 1)) (40 * rr + i) M (hM) (hM5) (by omega)) (cwV 3 hts gX4_kinds_X4_allClickSo rfl rfl rfl (by decide +kernel) ⟨Nat.le_of_ble_eq_true rfl, Nat.le_of_ble_eq_true rfl⟩) (ro_preV hK hPc hP (ci := 4) (q0 := 0) rfl rfl) rfl rfl hl.1 rfl (lv_room (Nat.le_of_ble_eq_true rfl)) dX4_kinds_77 ⟨Nat.zero_le _, Nat.zero_le _⟩) (fun r_7 hr_7 => ?_)
              refine lv_if_eq (tgt := 90) hx hb dX4_kinds_80 (by decide) (fun c_80 => ?_) (fun c_80 => ?_)
              · skip
                have c_80 := b2_z hr_7 c_80
                refine lv_iconst (v := 0) hx hb dX4_kinds_90 (by decide) ?_
                refine lv_ior hx hb dX4_kinds_91 ?_
                refine lv_topi (fun x_8 ex_8 => ?_)
                refine lv_istore (lv' := [(5, .int x_8), (6, .int (nI k)), (4, .int 0), (0, .ref m), (1, .int (nI s)), (2, .int (nI rr)), (3, .int (nI i))]) hx hb dX4_kinds_92 hl (by decide) rfl (fun ls hl => ?_)
                refine lv_iinc (v := nI (k + 1)) (lv' := [(6, .int (nI (k + 1))), (5, .int x_8), (4, .int 0), (0, .ref m), (1, .int (nI s)), (2, .int (nI rr)), (3, .int (nI i))]) hx hb dX4_kinds_94 hl (k := 1) rfl (nI_1 _) (by decide) rfl (fun ls hl => ?_)
                refine lv_goto (tgt := 51) hx hb dX4_kinds_97 (by decide) ?_
                obtain rfl : x_8 = kndM f g s (40 * rr + i) M (k + 1) := by rw [ex_8]; have hq := c_80; change allV f g (40 * rr + i) _ _ _ = _ at hq; simp [shrM, kndM, whoM, carM, bitsI, hq, hk0, c_10, c_17, c_54, c_54', c_80]
                exact ih_51 (k + 1) (by omega) (by omega) (by omega) _ _ hP hD hS _ (lv_sub hl [1, 0, 2, 3, 4, 5, 6] rfl)
              · skip
                have c_80 := b2_n hr_7 c_80
                refine lv_iconst (v := 1) hx hb dX4_kinds_83 (by decide) ?_
                refine lv_iload hx hb dX4_kinds_84 (lv_at hl 1 rfl) ?_
                refine lv_ishl hx hb dX4_kinds_86 ?_
                refine lv_goto (tgt := 91) hx hb dX4_kinds_87 (by decide) ?_
                refine lv_ior hx hb dX4_kinds_91 ?_
                refine lv_topi (fun x_9 ex_9 => ?_)
                refine lv_istore (lv' := [(5, .int x_9), (6, .int (nI k)), (4, .int 0), (0, .ref m), (1, .int (nI s)), (2, .int (nI rr)), (3, .int (nI i))]) hx hb dX4_kinds_92 hl (by decide) rfl (fun ls hl => ?_)
                refine lv_iinc (v := nI (k + 1)) (lv' := [(6, .int (nI (k + 1))), (5, .int x_9), (4, .int 0), (0, .ref m), (1, .int (nI s)), (2, .int (nI rr)), (3, .int (nI i))]) hx hb dX4_kinds_94 hl (k := 1) rfl (nI_1 _) (by decide) rfl (fun ls hl => ?_)
                refine lv_goto (tgt := 51) hx hb dX4_kinds_97 (by decide) ?_
                obtain rfl : x_9 = kndM f g s (40 * rr + i) M (k + 1) := by rw [ex_9]; have hq := c_80; change allV f g (40 * rr + i) _ _ _ = _ at hq; simp [shrM, kndM, whoM, carM, bitsI, hq, hk0, c_10, c_17, c_54, c_54', c_80]
                exact ih_51 (k + 1) (by omega) (by omega) (by omega) _ _ hP hD hS _ (lv_sub hl [1, 0, 2, 3, 4, 5, 6] rfl)
        obtain rfl : x_5 = kndM f g s (40 * rr + i) M 1 := by rw [ex_5]
        exact J_51 _ 1 (by omega) (by omega) (Nat.lt_succ_self _) _ _ hP hD hS _ (lv_sub hl [1, 0, 2, 3, 4, 5, 6] rfl)
      · skip
        exact False.elim (by revert c_39; decide)
    · skip
      have c_17 := b2_z hr_2 c_17
      exact Bool.noConfusion (hA.symm.trans c_17)
set_option maxHeartbeats 4000000 in
set_option maxRecDepth 100000 in
theorem c_X4_who_null (l : Launch) (G : lzG) (m : Nat) (q : Nat → Nat) (S : Nat → Int32) (ln mn g f : Nat → Int32) (rr : Nat) (i : Int32) (hrw : rr < 8) (hR : (decide (0 < f 0)) = true) (hm : ln rr < 0) : Met l yX4_who wsX4_who ({ frames := 2, cells := 0, slots := 0, locals := 45 }) (va_Pc [.ref m, .int (nI rr), .int i] (rwP G (lzM m q S ++ (lzI G (q 2) 8 ln ++ (lzI G (q 3) 8 mn ++ (lzI G (q 4) 320 g ++ (lzI G (q 5) 64 f))))))) (va_Qi (S := Unit) (fun (r : Int32) (_ : Unit) => r = -1000011) (rwB G (fun _ : Unit => (lzM m q (upd (upd S 0 0) 1 1) ++ (lzI G (q 2) 8 ln ++ (lzI G (q 3) 8 mn ++ (lzI G (q 4) 320 g ++ (lzI G (q 5) 64 f))))))) (lzA (lzM m q S ++ (lzI G (q 2) 8 ln ++ (lzI G (q 3) 8 mn ++ (lzI G (q 4) 320 g ++ (lzI G (q 5) 64 f))))))) 0 0 (lzA (lzM m q S ++ (lzI G (q 2) 8 ln ++ (lzI G (q 3) 8 mn ++ (lzI G (q 4) 320 g ++ (lzI G (q 5) 64 f)))))) := by
  have hA : inR (nI rr) 0 7 = true := inR_row hrw
  refine rw_start (S := Unit) (cc := cX4_who) (maxL := 6) (ret := (some .int)) (by decide) rfl (Nat.le_of_ble_eq_true rfl) ?_
  intro pp ee ss mm bl me cd A hx hb hr hlk hml hts hown hP hK hD hAe hS ls hl
  have hA0 : ∀ zz : Nat, lzA (lzM m q S ++ (lzI G (q 2) 8 ln ++ (lzI G (q 3) 8 mn ++ (lzI G (q 4) 320 g ++ (lzI G (q 5) 64 f))))) zz → A zz := fun zz h9 => by rw [hAe]; exact h9
  rw [← hAe]
  clear hAe
  have hown : ss.vm.findClass RX4 = some mm.cls := hown
  have hw1 := hts (.fieldLink RX4 48 "LampSquaresModel" "thrown" "I") (List.mem_of_getElem? (i := 1) rfl)
  have hw4 := hts (.fieldLink RX4 19 "LampSquaresModel" "door" "[I") (List.mem_of_getElem? (i := 4) rfl)
  have hu_wsX40 : ∀ w ∈ wsX40, w.before ([.ref m, .int (nI rr), .int i] : List Value).toArray ss = true := fun w h9 => hts w (List.mem_cons_of_mem _ (List.mem_append_right _ h9))
  have hl : lv_has ls 6 [(0, .ref m), (1, .int (nI rr)), (2, .int i)] := hl
  refine lv_aload_n hx hb dX4_who_0 rfl (lv_at hl 0 rfl) ?_
  refine lv_iconst (v := 0) hx hb dX4_who_1 (by decide) ?_
  refine lz_put (G := G) (ci := 4) (C := RX4) (T := TX4) (N := 24) hx hb hu_wsX40 (fun _ h9 => h9) tyX4 tyX4_ok nmX4 hown hK hP hD hS 0 rfl rfl 0 (by decide) hw1 rfl rfl (by decide +kernel) (Nat.le_of_ble_eq_true rfl) dX4_who_2 (lzM m q (upd S 0 0) ++ (lzI G (q 2) 8 ln ++ (lzI G (q 3) 8 mn ++ (lzI G (q 4) 320 g ++ (lzI G (q 5) 64 f))))) rfl (fun H locs hP hD hS => ?_)
  refine lv_aload_n hx hb dX4_who_5 rfl (lv_at hl 0 rfl) ?_
  have hPc := hP.sub (ws' := (lzM m q (upd S 0 0) ++ lzI G (q 5) 64 f)) [0, 4] rfl
  refine ro_calli (va_runV (As := []) (rest := []) ⟨hx, hb, hml, hown, hts⟩ (c_X4_isThere l G m q (upd S 0 0) f ) (cwV 0 hts gX4_who_X4_isThere rfl rfl rfl (by decide +kernel) ⟨Nat.le_of_ble_eq_true rfl, Nat.le_of_ble_eq_true rfl⟩) (ro_preV hK hPc hP (ci := 4) (q0 := 0) rfl rfl) rfl rfl hl.1 rfl (lv_room (Nat.le_of_ble_eq_true rfl)) dX4_who_6 ⟨Nat.zero_le _, Nat.zero_le _⟩) (fun r_1 hr_1 => ?_)
  refine lv_if_ne (tgt := 15) hx hb dX4_who_9 (by decide) (fun c_9 => ?_) (fun c_9 => ?_)
  · skip
    have c_9 := b2_n hr_1 c_9
    refine lv_iload_n hx hb dX4_who_15 rfl (lv_at hl 1 rfl) ?_
    refine ro_calli (va_runS (As := [.int (nI rr)]) (rest := []) ⟨hx, hb, hml, hown, hts⟩ (c_X4_isRow l G (nI rr) ) (cwS 1 hts gX4_who_X4_isRow rfl rfl rfl (by decide +kernel) ⟨Nat.le_of_ble_eq_true rfl, Nat.le_of_ble_eq_true rfl⟩) (ro_pre hK (fun k q h => by simp at h)) rfl rfl hl.1 rfl (lv_room (Nat.le_of_ble_eq_true rfl)) dX4_who_16 ⟨Nat.zero_le _, Nat.zero_le _⟩) (fun r_2 hr_2 => ?_)
    refine lv_if_ne (tgt := 25) hx hb dX4_who_19 (by decide) (fun c_19 => ?_) (fun c_19 => ?_)
    · skip
      have c_19 := b2_n hr_2 c_19
      refine lv_aload_n hx hb dX4_who_25 rfl (lv_at hl 0 rfl) ?_
      refine lv_iload_n hx hb dX4_who_26 rfl (lv_at hl 1 rfl) ?_
      refine lv_iload_n hx hb dX4_who_27 rfl (lv_at hl 2 rfl) ?_
      refine lv_aload_n hx hb dX4_who_28 rfl (lv_at hl 0 rfl) ?_
      refine lz_get (G := G) (ci := 4) (v := .ref (q 5)) (C := RX4) (T := TX4) (N := 24) hx hb hu_wsX40 (fun _ h9 => h9) hown hK hP 0 rfl rfl 5 (by decide) hw4 rfl rfl dX4_who_29 ?_
      refine lv_iconst (v := 2) hx hb dX4_who_32 (by decide) ?_
      refine lz_iald (f := f) hx hb hK hP 4 rfl 2 (by omega) (Nat.le_of_ble_eq_true rfl) dX4_who_33 ?_
      have hPc := hP.sub (ws' := (lzM m q (upd S 0 0) ++ (lzI G (q 2) 8 ln ++ (lzI G (q 3) 8 mn)))) [0, 1, 2] rfl
      have hDc := hD.sub (ws' := (lzM m q (upd S 0 0) ++ (lzI G (q 2) 8 ln ++ (lzI G (q 3) 8 mn)))) [0, 1, 2] (by decide) rfl
      have hFc : ∀ zz : Nat, lzA (lzM m q (upd S 0 0) ++ (lzI G (q 2) 8 ln ++ (lzI G (q 3) 8 mn))) zz → A zz := lz_free hD [0, 1, 2] rfl
      refine va_calli (va_runV (As := [.int (nI rr), .int i, .int (f 2)]) (rest := []) ⟨hx, hb, hml, hown, hts⟩ (c_X4_rowFound_null l G m q (upd S 0 0) ln mn rr i (f 2) (hrw) (hm)) (cwV 3 hts gX4_who_X4_rowFound rfl rfl rfl (by decide +kernel) ⟨Nat.le_of_ble_eq_true rfl, Nat.le_of_ble_eq_true rfl⟩) (rw_preV hK hPc hDc hP (ci := 4) (q0 := 0) rfl rfl) rfl rfl hl.1 rfl (lv_room (Nat.le_of_ble_eq_true rfl)) dX4_who_34 ⟨Nat.zero_le _, Nat.zero_le _⟩) hS (fun q _ h => hFc q h) hFc (fun r_3 u_4 t9 H1 locs ht hvm hr_3 hB hz1 hk1 hS => ?_)
      replace hB : va_P G.1 lzC _ t9.heap := hB
      rw [ht] at hB
      obtain ⟨hP, hD⟩ := lz_join (wc := (lzM m q (upd S 0 0) ++ (lzI G (q 2) 8 ln ++ (lzI G (q 3) 8 mn)))) (wr := ([(q 4, .inl (G.2 0, 320, .inl g)), (q 5, .inl (G.2 0, 64, .inl f))] : va_W)) (w1 := (lzM m q (upd (upd S 0 0) 1 1) ++ (lzI G (q 2) 8 ln ++ (lzI G (q 3) 8 mn)))) hP hD [0, 1, 2] [3, 4] rfl rfl (by decide) (by decide) rfl hk1 hB
      replace hP := hP.sub (ws' := (lzM m q (upd (upd S 0 0) 1 1) ++ (lzI G (q 2) 8 ln ++ (lzI G (q 3) 8 mn ++ (lzI G (q 4) 320 g ++ (lzI G (q 5) 64 f)))))) [2, 3, 4, 0, 1] rfl
      replace hD := hD.sub (ws' := (lzM m q (upd (upd S 0 0) 1 1) ++ (lzI G (q 2) 8 ln ++ (lzI G (q 3) 8 mn ++ (lzI G (q 4) 320 g ++ (lzI G (q 5) 64 f)))))) [2, 3, 4, 0, 1] (by decide) rfl
      clear ht hvm hB hz1 hk1
      generalize H1 = H at hP hS ⊢
      refine lz_top (y := -1000011) hr_3 ?_
      refine lv_istore_n (lv' := [(3, .int (-1000011)), (0, .ref m), (1, .int (nI rr)), (2, .int i)]) hx hb dX4_who_37 rfl hl (by decide) rfl (fun ls hl => ?_)
      refine lv_iload_n hx hb dX4_who_38 rfl (lv_at hl 0 rfl) ?_
      refine lv_if_eq (tgt := 44) hx hb dX4_who_39 (by decide) (fun c_39 => ?_) (fun c_39 => ?_)
      · skip
        exact False.elim (by revert c_39; decide)
      · skip
        refine lv_iload_n hx hb dX4_who_42 rfl (lv_at hl 0 rfl) ?_
        exact rw_iret (S := Unit) (G := G) (Wd := fun _ : Unit => (lzM m q (upd (upd S 0 0) 1 1) ++ (lzI G (q 2) 8 ln ++ (lzI G (q 3) 8 mn ++ (lzI G (q 4) 320 g ++ (lzI G (q 5) 64 f)))))) () hx hb hr hlk dX4_who_43 hS (hP) (by first | rfl | assumption)
    · skip
      have c_19 := b2_z hr_2 c_19
      exact Bool.noConfusion (hA.symm.trans c_19)
  · skip
    have c_9 := b2_z hr_1 c_9
    exact Bool.noConfusion (hR.symm.trans c_9)
set_option maxHeartbeats 4000000 in
set_option maxRecDepth 100000 in
theorem c_X4_who_place (l : Launch) (G : lzG) (m : Nat) (q : Nat → Nat) (S : Nat → Int32) (ln mn g f : Nat → Int32) (rr : Nat) (i : Int32) (hrw : rr < 8) (hR : (decide (0 < f 0)) = true) (hm : 0 ≤ ln rr) (hp : plcM (mn rr) i (f 2) = true) : Met l yX4_who wsX4_who ({ frames := 2, cells := 0, slots := 0, locals := 45 }) (va_Pc [.ref m, .int (nI rr), .int i] (rwP G (lzM m q S ++ (lzI G (q 2) 8 ln ++ (lzI G (q 3) 8 mn ++ (lzI G (q 4) 320 g ++ (lzI G (q 5) 64 f))))))) (va_Qi (S := Unit) (fun (r : Int32) (_ : Unit) => r = -1000012) (rwB G (fun _ : Unit => (lzM m q (upd (upd S 0 0) 1 2) ++ (lzI G (q 2) 8 ln ++ (lzI G (q 3) 8 mn ++ (lzI G (q 4) 320 g ++ (lzI G (q 5) 64 f))))))) (lzA (lzM m q S ++ (lzI G (q 2) 8 ln ++ (lzI G (q 3) 8 mn ++ (lzI G (q 4) 320 g ++ (lzI G (q 5) 64 f))))))) 0 0 (lzA (lzM m q S ++ (lzI G (q 2) 8 ln ++ (lzI G (q 3) 8 mn ++ (lzI G (q 4) 320 g ++ (lzI G (q 5) 64 f)))))) := by
  have hA : inR (nI rr) 0 7 = true := inR_row hrw
  refine rw_start (S := Unit) (cc := cX4_who) (maxL := 6) (ret := (some .int)) (by decide) rfl (Nat.le_of_ble_eq_true rfl) ?_
  intro pp ee ss mm bl me cd A hx hb hr hlk hml hts hown hP hK hD hAe hS ls hl
  have hA0 : ∀ zz : Nat, lzA (lzM m q S ++ (lzI G (q 2) 8 ln ++ (lzI G (q 3) 8 mn ++ (lzI G (q 4) 320 g ++ (lzI G (q 5) 64 f))))) zz → A zz := fun zz h9 => by rw [hAe]; exact h9
  rw [← hAe]
  clear hAe
  have hown : ss.vm.findClass RX4 = some mm.cls := hown
  have hw1 := hts (.fieldLink RX4 48 "LampSquaresModel" "thrown" "I") (List.mem_of_getElem? (i := 1) rfl)
  have hw4 := hts (.fieldLink RX4 19 "LampSquaresModel" "door" "[I") (List.mem_of_getElem? (i := 4) rfl)
  have hu_wsX40 : ∀ w ∈ wsX40, w.before ([.ref m, .int (nI rr), .int i] : List Value).toArray ss = true := fun w h9 => hts w (List.mem_cons_of_mem _ (List.mem_append_right _ h9))
  have hl : lv_has ls 6 [(0, .ref m), (1, .int (nI rr)), (2, .int i)] := hl
  refine lv_aload_n hx hb dX4_who_0 rfl (lv_at hl 0 rfl) ?_
  refine lv_iconst (v := 0) hx hb dX4_who_1 (by decide) ?_
  refine lz_put (G := G) (ci := 4) (C := RX4) (T := TX4) (N := 24) hx hb hu_wsX40 (fun _ h9 => h9) tyX4 tyX4_ok nmX4 hown hK hP hD hS 0 rfl rfl 0 (by decide) hw1 rfl rfl (by decide +kernel) (Nat.le_of_ble_eq_true rfl) dX4_who_2 (lzM m q (upd S 0 0) ++ (lzI G (q 2) 8 ln ++ (lzI G (q 3) 8 mn ++ (lzI G (q 4) 320 g ++ (lzI G (q 5) 64 f))))) rfl (fun H locs hP hD hS => ?_)
  refine lv_aload_n hx hb dX4_who_5 rfl (lv_at hl 0 rfl) ?_
  have hPc := hP.sub (ws' := (lzM m q (upd S 0 0) ++ lzI G (q 5) 64 f)) [0, 4] rfl
  refine ro_calli (va_runV (As := []) (rest := []) ⟨hx, hb, hml, hown, hts⟩ (c_X4_isThere l G m q (upd S 0 0) f ) (cwV 0 hts gX4_who_X4_isThere rfl rfl rfl (by decide +kernel) ⟨Nat.le_of_ble_eq_true rfl, Nat.le_of_ble_eq_true rfl⟩) (ro_preV hK hPc hP (ci := 4) (q0 := 0) rfl rfl) rfl rfl hl.1 rfl (lv_room (Nat.le_of_ble_eq_true rfl)) dX4_who_6 ⟨Nat.zero_le _, Nat.zero_le _⟩) (fun r_1 hr_1 => ?_)
  refine lv_if_ne (tgt := 15) hx hb dX4_who_9 (by decide) (fun c_9 => ?_) (fun c_9 => ?_)
  · skip
    have c_9 := b2_n hr_1 c_9
    refine lv_iload_n hx hb dX4_who_15 rfl (lv_at hl 1 rfl) ?_
    refine ro_calli (va_runS (As := [.int (nI rr)]) (rest := []) ⟨hx, hb, hml, hown, hts⟩ (c_X4_isRow l G (nI rr) ) (cwS 1 hts gX4_who_X4_isRow rfl rfl rfl (by decide +kernel) ⟨Nat.le_of_ble_eq_true rfl, Nat.le_of_ble_eq_true rfl⟩) (ro_pre hK (fun k q h => by simp at h)) rfl rfl hl.1 rfl (lv_room (Nat.le_of_ble_eq_true rfl)) dX4_who_16 ⟨Nat.zero_le _, Nat.zero_le _⟩) (fun r_2 hr_2 => ?_)
    refine lv_if_ne (tgt := 25) hx hb dX4_who_19 (by decide) (fun c_19 => ?_) (fun c_19 => ?_)
    · skip
      have c_19 := b2_n hr_2 c_19
      refine lv_aload_n hx hb dX4_who_25 rfl (lv_at hl 0 rfl) ?_
      refine lv_iload_n hx hb dX4_who_26 rfl (lv_at hl 1 rfl) ?_
      refine lv_iload_n hx hb dX4_who_27 rfl (lv_at hl 2 rfl) ?_
      refine lv_aload_n hx hb dX4_who_28 rfl (lv_at hl 0 rfl) ?_
      refine lz_get (G := G) (ci := 4) (v := .ref (q 5)) (C := RX4) (T := TX4) (N := 24) hx hb hu_wsX40 (fun _ h9 => h9) hown hK hP 0 rfl rfl 5 (by decide) hw4 rfl rfl dX4_who_29 ?_
      refine lv_iconst (v := 2) hx hb dX4_who_32 (by decide) ?_
      refine lz_iald (f := f) hx hb hK hP 4 rfl 2 (by omega) (Nat.le_of_ble_eq_true rfl) dX4_who_33 ?_
      have hPc := hP.sub (ws' := (lzM m q (upd S 0 0) ++ (lzI G (q 2) 8 ln ++ (lzI G (q 3) 8 mn)))) [0, 1, 2] rfl
      have hDc := hD.sub (ws' := (lzM m q (upd S 0 0) ++ (lzI G (q 2) 8 ln ++ (lzI G (q 3) 8 mn)))) [0, 1, 2] (by decide) rfl
      have hFc : ∀ zz : Nat, lzA (lzM m q (upd S 0 0) ++ (lzI G (q 2) 8 ln ++ (lzI G (q 3) 8 mn))) zz → A zz := lz_free hD [0, 1, 2] rfl
      refine va_calli (va_runV (As := [.int (nI rr), .int i, .int (f 2)]) (rest := []) ⟨hx, hb, hml, hown, hts⟩ (c_X4_rowFound_place l G m q (upd S 0 0) ln mn rr i (f 2) (hrw) (hm) (hp)) (cwV 3 hts gX4_who_X4_rowFound rfl rfl rfl (by decide +kernel) ⟨Nat.le_of_ble_eq_true rfl, Nat.le_of_ble_eq_true rfl⟩) (rw_preV hK hPc hDc hP (ci := 4) (q0 := 0) rfl rfl) rfl rfl hl.1 rfl (lv_room (Nat.le_of_ble_eq_true rfl)) dX4_who_34 ⟨Nat.zero_le _, Nat.zero_le _⟩) hS (fun q _ h => hFc q h) hFc (fun r_3 u_4 t9 H1 locs ht hvm hr_3 hB hz1 hk1 hS => ?_)
      replace hB : va_P G.1 lzC _ t9.heap := hB
      rw [ht] at hB
      obtain ⟨hP, hD⟩ := lz_join (wc := (lzM m q (upd S 0 0) ++ (lzI G (q 2) 8 ln ++ (lzI G (q 3) 8 mn)))) (wr := ([(q 4, .inl (G.2 0, 320, .inl g)), (q 5, .inl (G.2 0, 64, .inl f))] : va_W)) (w1 := (lzM m q (upd (upd S 0 0) 1 2) ++ (lzI G (q 2) 8 ln ++ (lzI G (q 3) 8 mn)))) hP hD [0, 1, 2] [3, 4] rfl rfl (by decide) (by decide) rfl hk1 hB
      replace hP := hP.sub (ws' := (lzM m q (upd (upd S 0 0) 1 2) ++ (lzI G (q 2) 8 ln ++ (lzI G (q 3) 8 mn ++ (lzI G (q 4) 320 g ++ (lzI G (q 5) 64 f)))))) [2, 3, 4, 0, 1] rfl
      replace hD := hD.sub (ws' := (lzM m q (upd (upd S 0 0) 1 2) ++ (lzI G (q 2) 8 ln ++ (lzI G (q 3) 8 mn ++ (lzI G (q 4) 320 g ++ (lzI G (q 5) 64 f)))))) [2, 3, 4, 0, 1] (by decide) rfl
      clear ht hvm hB hz1 hk1
      generalize H1 = H at hP hS ⊢
      refine lz_top (y := -1000012) hr_3 ?_
      refine lv_istore_n (lv' := [(3, .int (-1000012)), (0, .ref m), (1, .int (nI rr)), (2, .int i)]) hx hb dX4_who_37 rfl hl (by decide) rfl (fun ls hl => ?_)
      refine lv_iload_n hx hb dX4_who_38 rfl (lv_at hl 0 rfl) ?_
      refine lv_if_eq (tgt := 44) hx hb dX4_who_39 (by decide) (fun c_39 => ?_) (fun c_39 => ?_)
      · skip
        exact False.elim (by revert c_39; decide)
      · skip
        refine lv_iload_n hx hb dX4_who_42 rfl (lv_at hl 0 rfl) ?_
        exact rw_iret (S := Unit) (G := G) (Wd := fun _ : Unit => (lzM m q (upd (upd S 0 0) 1 2) ++ (lzI G (q 2) 8 ln ++ (lzI G (q 3) 8 mn ++ (lzI G (q 4) 320 g ++ (lzI G (q 5) 64 f)))))) () hx hb hr hlk dX4_who_43 hS (hP) (by first | rfl | assumption)
    · skip
      have c_19 := b2_z hr_2 c_19
      exact Bool.noConfusion (hA.symm.trans c_19)
  · skip
    have c_9 := b2_z hr_1 c_9
    exact Bool.noConfusion (hR.symm.trans c_9)
set_option maxHeartbeats 4000000 in
set_option maxRecDepth 100000 in
theorem c_X4_who_ok (l : Launch) (G : lzG) (m : Nat) (q : Nat → Nat) (S : Nat → Int32) (ln mn g f : Nat → Int32) (rr i N M : Nat) (hrw : rr < 8) (hR : (decide (0 < f 0)) = true) (hN : f 2 = nI N) (hN8 : N ≤ 8) (hM : f 3 = nI M) (hM5 : M ≤ 5) (hm : 0 ≤ ln rr) (hp : plcM (mn rr) (nI i) (f 2) = false) (hi40 : i + N ≤ 40) : Met l yX4_who wsX4_who ({ frames := 3, cells := 0, slots := 0, locals := 71 }) (va_Pc [.ref m, .int (nI rr), .int (nI i)] (rwP G (lzM m q S ++ (lzI G (q 2) 8 ln ++ (lzI G (q 3) 8 mn ++ (lzI G (q 4) 320 g ++ (lzI G (q 5) 64 f))))))) (va_Qi (S := Unit) (fun (r : Int32) (_ : Unit) => r = whoM f g (40 * rr + i) N M) (rwB G (fun _ : Unit => (lzM m q (upd (upd S 0 0) 1 0) ++ (lzI G (q 2) 8 ln ++ (lzI G (q 3) 8 mn ++ (lzI G (q 4) 320 g ++ (lzI G (q 5) 64 f))))))) (lzA (lzM m q S ++ (lzI G (q 2) 8 ln ++ (lzI G (q 3) 8 mn ++ (lzI G (q 4) 320 g ++ (lzI G (q 5) 64 f))))))) 0 0 (lzA (lzM m q S ++ (lzI G (q 2) 8 ln ++ (lzI G (q 3) 8 mn ++ (lzI G (q 4) 320 g ++ (lzI G (q 5) 64 f)))))) := by
  have hA : inR (nI rr) 0 7 = true := inR_row hrw
  refine rw_start (S := Unit) (cc := cX4_who) (maxL := 6) (ret := (some .int)) (by decide) rfl (Nat.le_of_ble_eq_true rfl) ?_
  intro pp ee ss mm bl me cd A hx hb hr hlk hml hts hown hP hK hD hAe hS ls hl
  have hA0 : ∀ zz : Nat, lzA (lzM m q S ++ (lzI G (q 2) 8 ln ++ (lzI G (q 3) 8 mn ++ (lzI G (q 4) 320 g ++ (lzI G (q 5) 64 f))))) zz → A zz := fun zz h9 => by rw [hAe]; exact h9
  rw [← hAe]
  clear hAe
  have hown : ss.vm.findClass RX4 = some mm.cls := hown
  have hw1 := hts (.fieldLink RX4 48 "LampSquaresModel" "thrown" "I") (List.mem_of_getElem? (i := 1) rfl)
  have hw4 := hts (.fieldLink RX4 19 "LampSquaresModel" "door" "[I") (List.mem_of_getElem? (i := 4) rfl)
  have hu_wsX40 : ∀ w ∈ wsX40, w.before ([.ref m, .int (nI rr), .int (nI i)] : List Value).toArray ss = true := fun w h9 => hts w (List.mem_cons_of_mem _ (List.mem_append_right _ h9))
  have hl : lv_has ls 6 [(0, .ref m), (1, .int (nI rr)), (2, .int (nI i))] := hl
  refine lv_aload_n hx hb dX4_who_0 rfl (lv_at hl 0 rfl) ?_
  refine lv_iconst (v := 0) hx hb dX4_who_1 (by decide) ?_
  refine lz_put (G := G) (ci := 4) (C := RX4) (T := TX4) (N := 24) hx hb hu_wsX40 (fun _ h9 => h9) tyX4 tyX4_ok nmX4 hown hK hP hD hS 0 rfl rfl 0 (by decide) hw1 rfl rfl (by decide +kernel) (Nat.le_of_ble_eq_true rfl) dX4_who_2 (lzM m q (upd S 0 0) ++ (lzI G (q 2) 8 ln ++ (lzI G (q 3) 8 mn ++ (lzI G (q 4) 320 g ++ (lzI G (q 5) 64 f))))) rfl (fun H locs hP hD hS => ?_)
  refine lv_aload_n hx hb dX4_who_5 rfl (lv_at hl 0 rfl) ?_
  have hPc := hP.sub (ws' := (lzM m q (upd S 0 0) ++ lzI G (q 5) 64 f)) [0, 4] rfl
  refine ro_calli (va_runV (As := []) (rest := []) ⟨hx, hb, hml, hown, hts⟩ (c_X4_isThere l G m q (upd S 0 0) f ) (cwV 0 hts gX4_who_X4_isThere rfl rfl rfl (by decide +kernel) ⟨Nat.le_of_ble_eq_true rfl, Nat.le_of_ble_eq_true rfl⟩) (ro_preV hK hPc hP (ci := 4) (q0 := 0) rfl rfl) rfl rfl hl.1 rfl (lv_room (Nat.le_of_ble_eq_true rfl)) dX4_who_6 ⟨Nat.zero_le _, Nat.zero_le _⟩) (fun r_1 hr_1 => ?_)
  refine lv_if_ne (tgt := 15) hx hb dX4_who_9 (by decide) (fun c_9 => ?_) (fun c_9 => ?_)
  · skip
    have c_9 := b2_n hr_1 c_9
    refine lv_iload_n hx hb dX4_who_15 rfl (lv_at hl 1 rfl) ?_
    refine ro_calli (va_runS (As := [.int (nI rr)]) (rest := []) ⟨hx, hb, hml, hown, hts⟩ (c_X4_isRow l G (nI rr) ) (cwS 1 hts gX4_who_X4_isRow rfl rfl rfl (by decide +kernel) ⟨Nat.le_of_ble_eq_true rfl, Nat.le_of_ble_eq_true rfl⟩) (ro_pre hK (fun k q h => by simp at h)) rfl rfl hl.1 rfl (lv_room (Nat.le_of_ble_eq_true rfl)) dX4_who_16 ⟨Nat.zero_le _, Nat.zero_le _⟩) (fun r_2 hr_2 => ?_)
    refine lv_if_ne (tgt := 25) hx hb dX4_who_19 (by decide) (fun c_19 => ?_) (fun c_19 => ?_)
    · skip
      have c_19 := b2_n hr_2 c_19
      refine lv_aload_n hx hb dX4_who_25 rfl (lv_at hl 0 rfl) ?_
      refine lv_iload_n hx hb dX4_who_26 rfl (lv_at hl 1 rfl) ?_
      refine lv_iload_n hx hb dX4_who_27 rfl (lv_at hl 2 rfl) ?_
      refine lv_aload_n hx hb dX4_who_28 rfl (lv_at hl 0 rfl) ?_
      refine lz_get (G := G) (ci := 4) (v := .ref (q 5)) (C := RX4) (T := TX4) (N := 24) hx hb hu_wsX40 (fun _ h9 => h9) hown hK hP 0 rfl rfl 5 (by decide) hw4 rfl rfl dX4_who_29 ?_
      refine lv_iconst (v := 2) hx hb dX4_who_32 (by decide) ?_
      refine lz_iald (f := f) hx hb hK hP 4 rfl 2 (by omega) (Nat.le_of_ble_eq_true rfl) dX4_who_33 ?_
      have hPc := hP.sub (ws' := (lzM m q (upd S 0 0) ++ (lzI G (q 2) 8 ln ++ (lzI G (q 3) 8 mn)))) [0, 1, 2] rfl
      have hDc := hD.sub (ws' := (lzM m q (upd S 0 0) ++ (lzI G (q 2) 8 ln ++ (lzI G (q 3) 8 mn)))) [0, 1, 2] (by decide) rfl
      have hFc : ∀ zz : Nat, lzA (lzM m q (upd S 0 0) ++ (lzI G (q 2) 8 ln ++ (lzI G (q 3) 8 mn))) zz → A zz := lz_free hD [0, 1, 2] rfl
      refine va_calli (va_runV (As := [.int (nI rr), .int (nI i), .int (f 2)]) (rest := []) ⟨hx, hb, hml, hown, hts⟩ (c_X4_rowFound_ok l G m q (upd S 0 0) ln mn rr (nI i) (f 2) (hrw) (hm) (hp)) (cwV 3 hts gX4_who_X4_rowFound rfl rfl rfl (by decide +kernel) ⟨Nat.le_of_ble_eq_true rfl, Nat.le_of_ble_eq_true rfl⟩) (rw_preV hK hPc hDc hP (ci := 4) (q0 := 0) rfl rfl) rfl rfl hl.1 rfl (lv_room (Nat.le_of_ble_eq_true rfl)) dX4_who_34 ⟨Nat.zero_le _, Nat.zero_le _⟩) hS (fun q _ h => hFc q h) hFc (fun r_3 u_4 t9 H1 locs ht hvm hr_3 hB hz1 hk1 hS => ?_)
      replace hB : va_P G.1 lzC _ t9.heap := hB
      rw [ht] at hB
      obtain ⟨hP, hD⟩ := lz_join (wc := (lzM m q (upd S 0 0) ++ (lzI G (q 2) 8 ln ++ (lzI G (q 3) 8 mn)))) (wr := ([(q 4, .inl (G.2 0, 320, .inl g)), (q 5, .inl (G.2 0, 64, .inl f))] : va_W)) (w1 := (lzM m q (upd (upd S 0 0) 1 0) ++ (lzI G (q 2) 8 ln ++ (lzI G (q 3) 8 mn)))) hP hD [0, 1, 2] [3, 4] rfl rfl (by decide) (by decide) rfl hk1 hB
      replace hP := hP.sub (ws' := (lzM m q (upd (upd S 0 0) 1 0) ++ (lzI G (q 2) 8 ln ++ (lzI G (q 3) 8 mn ++ (lzI G (q 4) 320 g ++ (lzI G (q 5) 64 f)))))) [2, 3, 4, 0, 1] rfl
      replace hD := hD.sub (ws' := (lzM m q (upd (upd S 0 0) 1 0) ++ (lzI G (q 2) 8 ln ++ (lzI G (q 3) 8 mn ++ (lzI G (q 4) 320 g ++ (lzI G (q 5) 64 f)))))) [2, 3, 4, 0, 1] (by decide) rfl
      clear ht hvm hB hz1 hk1
      generalize H1 = H at hP hS ⊢
      refine lz_top (y := 0) hr_3 ?_
      refine lv_istore_n (lv' := [(3, .int 0), (0, .ref m), (1, .int (nI rr)), (2, .int (nI i))]) hx hb dX4_who_37 rfl hl (by decide) rfl (fun ls hl => ?_)
      refine lv_iload_n hx hb dX4_who_38 rfl (lv_at hl 0 rfl) ?_
      refine lv_if_eq (tgt := 44) hx hb dX4_who_39 (by decide) (fun c_39 => ?_) (fun c_39 => ?_)
      · skip
        refine lv_iconst (v := 0) hx hb dX4_who_44 (by decide) ?_
        refine lv_istore (lv' := [(4, .int 0), (3, .int 0), (0, .ref m), (1, .int (nI rr)), (2, .int (nI i))]) hx hb dX4_who_45 hl (by decide) rfl (fun ls hl => ?_)
        refine lv_iconst (v := 0) hx hb dX4_who_47 (by decide) ?_
        refine lv_istore (lv' := [(5, .int 0), (4, .int 0), (3, .int 0), (0, .ref m), (1, .int (nI rr)), (2, .int (nI i))]) hx hb dX4_who_48 hl (by decide) rfl (fun ls hl => ?_)
        have J_50 : ∀ (n9 : Nat), ∀ (k : Nat), (k ≤ M) → M - k < n9 → ∀ (H : Heap) (locs : List Loc), va_P G.1 lzC (lzM m q (upd (upd S 0 0) 1 0) ++ (lzI G (q 2) 8 ln ++ (lzI G (q 3) 8 mn ++ (lzI G (q 4) 320 g ++ (lzI G (q 5) 64 f))))) H → va_D A (lzM m q (upd (upd S 0 0) 1 0) ++ (lzI G (q 2) 8 ln ++ (lzI G (q 3) 8 mn ++ (lzI G (q 4) 320 g ++ (lzI G (q 5) 64 f))))) → va_S A ss.heap H locs → ∀ ls : Array Slot, lv_has ls 6 [(4, .int (whoM f g (40 * rr + i) N k)), (5, .int (nI k)), (3, .int 0), (0, .ref m), (1, .int (nI rr)), (2, .int (nI i))] → W pp l ee ({ frames := 3, cells := 0, slots := 0, locals := 71 }) ss mm ([.ref m, .int (nI rr), .int (nI i)] : List Value).toArray bl me cd H locs 0 0 (MQ bl (va_Qi (S := Unit) (fun (r : Int32) (_ : Unit) => r = whoM f g (40 * rr + i) N M) (rwB G (fun _ : Unit => (lzM m q (upd (upd S 0 0) 1 0) ++ (lzI G (q 2) 8 ln ++ (lzI G (q 3) 8 mn ++ (lzI G (q 4) 320 g ++ (lzI G (q 5) 64 f))))))) A) ([.ref m, .int (nI rr), .int (nI i)] : List Value).toArray ss 0 0 A) (F0 mm 50 ls []) := by
          intro n9
          induction n9 with
          | zero => intro k hk hn; exact absurd hn (Nat.not_lt_zero _)
          | succ n9 ih_50 =>
            intro k hk hn_50 H locs hP hD hS ls hl
            refine lv_iload hx hb dX4_who_50 (lv_at hl 1 rfl) ?_
            refine lv_aload_n hx hb dX4_who_52 rfl (lv_at hl 3 rfl) ?_
            refine lz_get (G := G) (ci := 4) (v := .ref (q 5)) (C := RX4) (T := TX4) (N := 24) hx hb hu_wsX40 (fun _ h9 => h9) hown hK hP 0 rfl rfl 5 (by decide) hw4 rfl rfl dX4_who_53 ?_
            refine lv_iconst (v := 3) hx hb dX4_who_56 (by decide) ?_
            refine lz_iald (f := f) hx hb hK hP 4 rfl 3 (by omega) (Nat.le_of_ble_eq_true rfl) dX4_who_57 ?_
            refine lv_icmp_ge (tgt := 113) hx hb dX4_who_58 (by decide) (fun c_58 => ?_) (fun c_58 => ?_)
            · skip
              have c_58' := Int32.not_lt.mpr c_58
              have hk2 : M ≤ k := lz_ge hM c_58 (by omega) (by omega)
              have hk3 : k = M := by omega
              refine lv_iload hx hb dX4_who_113 (lv_at hl 0 rfl) ?_
              exact rw_iret (S := Unit) (G := G) (Wd := fun _ : Unit => (lzM m q (upd (upd S 0 0) 1 0) ++ (lzI G (q 2) 8 ln ++ (lzI G (q 3) 8 mn ++ (lzI G (q 4) 320 g ++ (lzI G (q 5) 64 f)))))) () hx hb hr hlk dX4_who_115 hS (hP) (by first | rfl | (rw [hk3]))
            · skip
              have c_58' := Int32.not_le.mp c_58
              have hk2 : k < M := lz_lt hM c_58 (by omega) (by omega)
              refine lv_iload hx hb dX4_who_61 (lv_at hl 0 rfl) ?_
              refine lv_aload_n hx hb dX4_who_63 rfl (lv_at hl 3 rfl) ?_
              refine lv_aload_n hx hb dX4_who_64 rfl (lv_at hl 3 rfl) ?_
              refine lz_get (G := G) (ci := 4) (v := .ref (q 5)) (C := RX4) (T := TX4) (N := 24) hx hb hu_wsX40 (fun _ h9 => h9) hown hK hP 0 rfl rfl 5 (by decide) hw4 rfl rfl dX4_who_65 ?_
              refine lv_iload hx hb dX4_who_68 (lv_at hl 1 rfl) ?_
              refine lv_iconst (v := 0) hx hb dX4_who_70 (by decide) ?_
              have hPc := hP.sub (ws' := lzI G (q 5) 64 f) [4] rfl
              refine ro_calli (va_runS (As := [.ref (q 5), .int (nI k), .int 0]) (rest := [.ref m, .int (whoM f g (40 * rr + i) N k)]) ⟨hx, hb, hml, hown, hts⟩ (c_X4_guest l G (q 5) f k 0 (by omega) (by decide)) (cwS 3 hts gX4_who_X4_guest rfl rfl rfl (by decide +kernel) ⟨Nat.le_of_ble_eq_true rfl, Nat.le_of_ble_eq_true rfl⟩) (ro_pre hK hPc) rfl rfl hl.1 rfl (lv_room (Nat.le_of_ble_eq_true rfl)) dX4_who_71 ⟨Nat.zero_le _, Nat.zero_le _⟩) (fun r_5 hr_5 => ?_)
              refine lz_top (y := f (44 + 4 * k)) hr_5 ?_
              refine lv_aload_n hx hb dX4_who_74 rfl (lv_at hl 3 rfl) ?_
              refine lz_get (G := G) (ci := 4) (v := .ref (q 5)) (C := RX4) (T := TX4) (N := 24) hx hb hu_wsX40 (fun _ h9 => h9) hown hK hP 0 rfl rfl 5 (by decide) hw4 rfl rfl dX4_who_75 ?_
              refine lv_iload hx hb dX4_who_78 (lv_at hl 1 rfl) ?_
              refine lv_iconst (v := 1) hx hb dX4_who_80 (by decide) ?_
              have hPc := hP.sub (ws' := lzI G (q 5) 64 f) [4] rfl
              refine ro_calli (va_runS (As := [.ref (q 5), .int (nI k), .int 1]) (rest := [.int (f (44 + 4 * k)), .ref m, .int (whoM f g (40 * rr + i) N k)]) ⟨hx, hb, hml, hown, hts⟩ (c_X4_guest l G (q 5) f k 1 (by omega) (by decide)) (cwS 3 hts gX4_who_X4_guest rfl rfl rfl (by decide +kernel) ⟨Nat.le_of_ble_eq_true rfl, Nat.le_of_ble_eq_true rfl⟩) (ro_pre hK hPc) rfl rfl hl.1 rfl (lv_room (Nat.le_of_ble_eq_true rfl)) dX4_who_81 ⟨Nat.zero_le _, Nat.zero_le _⟩) (fun r_6 hr_6 => ?_)
              refine lz_top (y := f (44 + 4 * k + 1)) hr_6 ?_
              refine lv_bipush (v := 40) hx hb dX4_who_84 (by decide) ?_
              refine lv_iload_n hx hb dX4_who_86 rfl (lv_at hl 4 rfl) ?_
              refine lv_imul hx hb dX4_who_87 ?_
              refine lv_iload_n hx hb dX4_who_88 rfl (lv_at hl 5 rfl) ?_
              refine lv_iadd hx hb dX4_who_89 ?_
              refine lz_top (y := nI (40 * rr + i)) (by simp only [fa_lit, pk_mul, nI_add]) ?_
              have hPc := hP.sub (ws' := (lzM m q (upd (upd S 0 0) 1 0) ++ (lzI G (q 4) 320 g ++ (lzI G (q 5) 64 f)))) [0, 3, 4] rfl
              refine ro_calli (va_runV (As := [.int (f (44 + 4 * k)), .int (f (44 + 4 * k + 1)), .int (nI (40 * rr + i))]) (rest := [.int (whoM f g (40 * rr + i) N k)]) ⟨hx, hb, hml, hown, hts⟩ (c_X4_clicksSo l G m q (upd (upd S 0 0) 1 0) g f (f (44 + 4 * k)) (f (44 + 4 * k + 1)) (40 * rr + i) N (hN) (hN8) (by omega)) (cwV 3 hts gX4_who_X4_clicksSo rfl rfl rfl (by decide +kernel) ⟨Nat.le_of_ble_eq_true rfl, Nat.le_of_ble_eq_true rfl⟩) (ro_preV hK hPc hP (ci := 4) (q0 := 0) rfl rfl) rfl rfl hl.1 rfl (lv_room (Nat.le_of_ble_eq_true rfl)) dX4_who_90 ⟨Nat.zero_le _, Nat.zero_le _⟩) (fun r_7 hr_7 => ?_)
              refine lv_if_eq (tgt := 103) hx hb dX4_who_93 (by decide) (fun c_93 => ?_) (fun c_93 => ?_)
              · skip
                have c_93 := b2_z hr_7 c_93
                refine lv_iconst (v := 0) hx hb dX4_who_103 (by decide) ?_
                refine lv_ior hx hb dX4_who_104 ?_
                refine lv_topi (fun x_8 ex_8 => ?_)
                refine lv_istore (lv' := [(4, .int x_8), (5, .int (nI k)), (3, .int 0), (0, .ref m), (1, .int (nI rr)), (2, .int (nI i))]) hx hb dX4_who_105 hl (by decide) rfl (fun ls hl => ?_)
                refine lv_iinc (v := nI (k + 1)) (lv' := [(5, .int (nI (k + 1))), (4, .int x_8), (3, .int 0), (0, .ref m), (1, .int (nI rr)), (2, .int (nI i))]) hx hb dX4_who_107 hl (k := 1) rfl (nI_1 _) (by decide) rfl (fun ls hl => ?_)
                refine lv_goto (tgt := 50) hx hb dX4_who_110 (by decide) ?_
                obtain rfl : x_8 = whoM f g (40 * rr + i) N (k + 1) := by rw [ex_8]; have hq := c_93; change allS f g (40 * rr + i) _ _ _ = _ at hq; simp [whoM, bitsI, hq]
                exact ih_50 (k + 1) (by omega) (by omega) _ _ hP hD hS _ (lv_sub hl [1, 0, 2, 3, 4, 5] rfl)
              · skip
                have c_93 := b2_n hr_7 c_93
                refine lv_iconst (v := 1) hx hb dX4_who_96 (by decide) ?_
                refine lv_iload hx hb dX4_who_97 (lv_at hl 1 rfl) ?_
                refine lv_ishl hx hb dX4_who_99 ?_
                refine lv_goto (tgt := 104) hx hb dX4_who_100 (by decide) ?_
                refine lv_ior hx hb dX4_who_104 ?_
                refine lv_topi (fun x_9 ex_9 => ?_)
                refine lv_istore (lv' := [(4, .int x_9), (5, .int (nI k)), (3, .int 0), (0, .ref m), (1, .int (nI rr)), (2, .int (nI i))]) hx hb dX4_who_105 hl (by decide) rfl (fun ls hl => ?_)
                refine lv_iinc (v := nI (k + 1)) (lv' := [(5, .int (nI (k + 1))), (4, .int x_9), (3, .int 0), (0, .ref m), (1, .int (nI rr)), (2, .int (nI i))]) hx hb dX4_who_107 hl (k := 1) rfl (nI_1 _) (by decide) rfl (fun ls hl => ?_)
                refine lv_goto (tgt := 50) hx hb dX4_who_110 (by decide) ?_
                obtain rfl : x_9 = whoM f g (40 * rr + i) N (k + 1) := by rw [ex_9]; have hq := c_93; change allS f g (40 * rr + i) _ _ _ = _ at hq; simp [whoM, bitsI, hq]
                exact ih_50 (k + 1) (by omega) (by omega) _ _ hP hD hS _ (lv_sub hl [1, 0, 2, 3, 4, 5] rfl)
        exact J_50 _ 0 (by omega) (Nat.lt_succ_self _) _ _ hP hD hS _ (lv_sub hl [1, 0, 2, 3, 4, 5] rfl)
      · skip
        exact False.elim (by revert c_39; decide)
    · skip
      have c_19 := b2_z hr_2 c_19
      exact Bool.noConfusion (hA.symm.trans c_19)
  · skip
    have c_9 := b2_z hr_1 c_9
    exact Bool.noConfusion (hR.symm.trans c_9)
set_option maxHeartbeats 4000000 in
set_option maxRecDepth 100000 in
theorem c_X4_cares_null (l : Launch) (G : lzG) (m : Nat) (q : Nat → Nat) (S : Nat → Int32) (ln mn g f : Nat → Int32) (ear : Int32) (rr : Nat) (i : Int32) (hrw : rr < 8) (hR : (decide (0 < f 0)) = true) (he : inR ear 0 9 = true) (hm : ln rr < 0) : Met l yX4_cares wsX4_cares ({ frames := 2, cells := 0, slots := 0, locals := 45 }) (va_Pc [.ref m, .int ear, .int (nI rr), .int i] (rwP G (lzM m q S ++ (lzI G (q 2) 8 ln ++ (lzI G (q 3) 8 mn ++ (lzI G (q 4) 320 g ++ (lzI G (q 5) 64 f))))))) (va_Qi (S := Unit) (fun (r : Int32) (_ : Unit) => r = -1000011) (rwB G (fun _ : Unit => (lzM m q (upd (upd S 0 0) 1 1) ++ (lzI G (q 2) 8 ln ++ (lzI G (q 3) 8 mn ++ (lzI G (q 4) 320 g ++ (lzI G (q 5) 64 f))))))) (lzA (lzM m q S ++ (lzI G (q 2) 8 ln ++ (lzI G (q 3) 8 mn ++ (lzI G (q 4) 320 g ++ (lzI G (q 5) 64 f))))))) 0 0 (lzA (lzM m q S ++ (lzI G (q 2) 8 ln ++ (lzI G (q 3) 8 mn ++ (lzI G (q 4) 320 g ++ (lzI G (q 5) 64 f)))))) := by
  have hA : inR (nI rr) 0 7 = true := inR_row hrw
  have heL : inL ear.toInt64 0 9 = true := (inL_of ear 0 9).trans he
  refine rw_start (S := Unit) (cc := cX4_cares) (maxL := 7) (ret := (some .int)) (by decide) rfl (Nat.le_of_ble_eq_true rfl) ?_
  intro pp ee ss mm bl me cd A hx hb hr hlk hml hts hown hP hK hD hAe hS ls hl
  have hA0 : ∀ zz : Nat, lzA (lzM m q S ++ (lzI G (q 2) 8 ln ++ (lzI G (q 3) 8 mn ++ (lzI G (q 4) 320 g ++ (lzI G (q 5) 64 f))))) zz → A zz := fun zz h9 => by rw [hAe]; exact h9
  rw [← hAe]
  clear hAe
  have hown : ss.vm.findClass RX4 = some mm.cls := hown
  have hw1 := hts (.fieldLink RX4 48 "LampSquaresModel" "thrown" "I") (List.mem_of_getElem? (i := 1) rfl)
  have hw3 := hts (.constantLong RX4 210 (9)) (List.mem_of_getElem? (i := 3) rfl)
  have hw5 := hts (.fieldLink RX4 19 "LampSquaresModel" "door" "[I") (List.mem_of_getElem? (i := 5) rfl)
  have hu_wsX40 : ∀ w ∈ wsX40, w.before ([.ref m, .int ear, .int (nI rr), .int i] : List Value).toArray ss = true := fun w h9 => hts w (List.mem_cons_of_mem _ (List.mem_append_right _ h9))
  have hl : lv_has ls 7 [(0, .ref m), (1, .int ear), (2, .int (nI rr)), (3, .int i)] := hl
  refine lv_aload_n hx hb dX4_cares_0 rfl (lv_at hl 0 rfl) ?_
  refine lv_iconst (v := 0) hx hb dX4_cares_1 (by decide) ?_
  refine lz_put (G := G) (ci := 4) (C := RX4) (T := TX4) (N := 24) hx hb hu_wsX40 (fun _ h9 => h9) tyX4 tyX4_ok nmX4 hown hK hP hD hS 0 rfl rfl 0 (by decide) hw1 rfl rfl (by decide +kernel) (Nat.le_of_ble_eq_true rfl) dX4_cares_2 (lzM m q (upd S 0 0) ++ (lzI G (q 2) 8 ln ++ (lzI G (q 3) 8 mn ++ (lzI G (q 4) 320 g ++ (lzI G (q 5) 64 f))))) rfl (fun H locs hP hD hS => ?_)
  refine lv_aload_n hx hb dX4_cares_5 rfl (lv_at hl 0 rfl) ?_
  have hPc := hP.sub (ws' := (lzM m q (upd S 0 0) ++ lzI G (q 5) 64 f)) [0, 4] rfl
  refine ro_calli (va_runV (As := []) (rest := []) ⟨hx, hb, hml, hown, hts⟩ (c_X4_isThere l G m q (upd S 0 0) f ) (cwV 0 hts gX4_cares_X4_isThere rfl rfl rfl (by decide +kernel) ⟨Nat.le_of_ble_eq_true rfl, Nat.le_of_ble_eq_true rfl⟩) (ro_preV hK hPc hP (ci := 4) (q0 := 0) rfl rfl) rfl rfl hl.1 rfl (lv_room (Nat.le_of_ble_eq_true rfl)) dX4_cares_6 ⟨Nat.zero_le _, Nat.zero_le _⟩) (fun r_1 hr_1 => ?_)
  refine lv_if_ne (tgt := 15) hx hb dX4_cares_9 (by decide) (fun c_9 => ?_) (fun c_9 => ?_)
  · skip
    have c_9 := b2_n hr_1 c_9
    refine lv_iload_n hx hb dX4_cares_15 rfl (lv_at hl 1 rfl) ?_
    refine lv_i2l hx hb dX4_cares_16 rfl ?_
    refine lv_lconst (v := 0) hx hb dX4_cares_17 (by decide) ?_
    refine lv_ldc2 hx hb hown hw3 dX4_cares_18 ?_
    refine ro_calli (va_runS (As := [.long ear.toInt64, .long 0, .long 9]) (rest := []) ⟨hx, hb, hml, hown, hts⟩ (c_X4_in l G ear.toInt64 0 9 ) (cwS 3 hts gX4_cares_X4_in rfl rfl rfl (by decide +kernel) ⟨Nat.le_of_ble_eq_true rfl, Nat.le_of_ble_eq_true rfl⟩) (ro_pre hK (fun k q h => by simp at h)) rfl rfl hl.1 rfl (lv_room (Nat.le_of_ble_eq_true rfl)) dX4_cares_21 ⟨Nat.zero_le _, Nat.zero_le _⟩) (fun r_2 hr_2 => ?_)
    refine lv_if_eq (tgt := 34) hx hb dX4_cares_24 (by decide) (fun c_24 => ?_) (fun c_24 => ?_)
    · skip
      have c_24 := b2_z hr_2 c_24
      exact Bool.noConfusion (heL.symm.trans c_24)
    · skip
      have c_24 := b2_n hr_2 c_24
      refine lv_iload_n hx hb dX4_cares_27 rfl (lv_at hl 2 rfl) ?_
      refine ro_calli (va_runS (As := [.int (nI rr)]) (rest := []) ⟨hx, hb, hml, hown, hts⟩ (c_X4_isRow l G (nI rr) ) (cwS 1 hts gX4_cares_X4_isRow rfl rfl rfl (by decide +kernel) ⟨Nat.le_of_ble_eq_true rfl, Nat.le_of_ble_eq_true rfl⟩) (ro_pre hK (fun k q h => by simp at h)) rfl rfl hl.1 rfl (lv_room (Nat.le_of_ble_eq_true rfl)) dX4_cares_28 ⟨Nat.zero_le _, Nat.zero_le _⟩) (fun r_3 hr_3 => ?_)
      refine lv_if_ne (tgt := 37) hx hb dX4_cares_31 (by decide) (fun c_31 => ?_) (fun c_31 => ?_)
      · skip
        have c_31 := b2_n hr_3 c_31
        refine lv_aload_n hx hb dX4_cares_37 rfl (lv_at hl 0 rfl) ?_
        refine lv_iload_n hx hb dX4_cares_38 rfl (lv_at hl 2 rfl) ?_
        refine lv_iload_n hx hb dX4_cares_39 rfl (lv_at hl 3 rfl) ?_
        refine lv_aload_n hx hb dX4_cares_40 rfl (lv_at hl 0 rfl) ?_
        refine lz_get (G := G) (ci := 4) (v := .ref (q 5)) (C := RX4) (T := TX4) (N := 24) hx hb hu_wsX40 (fun _ h9 => h9) hown hK hP 0 rfl rfl 5 (by decide) hw5 rfl rfl dX4_cares_41 ?_
        refine lv_iconst (v := 2) hx hb dX4_cares_44 (by decide) ?_
        refine lz_iald (f := f) hx hb hK hP 4 rfl 2 (by omega) (Nat.le_of_ble_eq_true rfl) dX4_cares_45 ?_
        have hPc := hP.sub (ws' := (lzM m q (upd S 0 0) ++ (lzI G (q 2) 8 ln ++ (lzI G (q 3) 8 mn)))) [0, 1, 2] rfl
        have hDc := hD.sub (ws' := (lzM m q (upd S 0 0) ++ (lzI G (q 2) 8 ln ++ (lzI G (q 3) 8 mn)))) [0, 1, 2] (by decide) rfl
        have hFc : ∀ zz : Nat, lzA (lzM m q (upd S 0 0) ++ (lzI G (q 2) 8 ln ++ (lzI G (q 3) 8 mn))) zz → A zz := lz_free hD [0, 1, 2] rfl
        refine va_calli (va_runV (As := [.int (nI rr), .int i, .int (f 2)]) (rest := []) ⟨hx, hb, hml, hown, hts⟩ (c_X4_rowFound_null l G m q (upd S 0 0) ln mn rr i (f 2) (hrw) (hm)) (cwV 3 hts gX4_cares_X4_rowFound rfl rfl rfl (by decide +kernel) ⟨Nat.le_of_ble_eq_true rfl, Nat.le_of_ble_eq_true rfl⟩) (rw_preV hK hPc hDc hP (ci := 4) (q0 := 0) rfl rfl) rfl rfl hl.1 rfl (lv_room (Nat.le_of_ble_eq_true rfl)) dX4_cares_46 ⟨Nat.zero_le _, Nat.zero_le _⟩) hS (fun q _ h => hFc q h) hFc (fun r_4 u_5 t9 H1 locs ht hvm hr_4 hB hz1 hk1 hS => ?_)
        replace hB : va_P G.1 lzC _ t9.heap := hB
        rw [ht] at hB
        obtain ⟨hP, hD⟩ := lz_join (wc := (lzM m q (upd S 0 0) ++ (lzI G (q 2) 8 ln ++ (lzI G (q 3) 8 mn)))) (wr := ([(q 4, .inl (G.2 0, 320, .inl g)), (q 5, .inl (G.2 0, 64, .inl f))] : va_W)) (w1 := (lzM m q (upd (upd S 0 0) 1 1) ++ (lzI G (q 2) 8 ln ++ (lzI G (q 3) 8 mn)))) hP hD [0, 1, 2] [3, 4] rfl rfl (by decide) (by decide) rfl hk1 hB
        replace hP := hP.sub (ws' := (lzM m q (upd (upd S 0 0) 1 1) ++ (lzI G (q 2) 8 ln ++ (lzI G (q 3) 8 mn ++ (lzI G (q 4) 320 g ++ (lzI G (q 5) 64 f)))))) [2, 3, 4, 0, 1] rfl
        replace hD := hD.sub (ws' := (lzM m q (upd (upd S 0 0) 1 1) ++ (lzI G (q 2) 8 ln ++ (lzI G (q 3) 8 mn ++ (lzI G (q 4) 320 g ++ (lzI G (q 5) 64 f)))))) [2, 3, 4, 0, 1] (by decide) rfl
        clear ht hvm hB hz1 hk1
        generalize H1 = H at hP hS ⊢
        refine lz_top (y := -1000011) hr_4 ?_
        refine lv_istore (lv' := [(4, .int (-1000011)), (0, .ref m), (1, .int ear), (2, .int (nI rr)), (3, .int i)]) hx hb dX4_cares_49 hl (by decide) rfl (fun ls hl => ?_)
        refine lv_iload hx hb dX4_cares_51 (lv_at hl 0 rfl) ?_
        refine lv_if_eq (tgt := 59) hx hb dX4_cares_53 (by decide) (fun c_53 => ?_) (fun c_53 => ?_)
        · skip
          exact False.elim (by revert c_53; decide)
        · skip
          refine lv_iload hx hb dX4_cares_56 (lv_at hl 0 rfl) ?_
          exact rw_iret (S := Unit) (G := G) (Wd := fun _ : Unit => (lzM m q (upd (upd S 0 0) 1 1) ++ (lzI G (q 2) 8 ln ++ (lzI G (q 3) 8 mn ++ (lzI G (q 4) 320 g ++ (lzI G (q 5) 64 f)))))) () hx hb hr hlk dX4_cares_58 hS (hP) (by first | rfl | assumption)
      · skip
        have c_31 := b2_z hr_3 c_31
        exact Bool.noConfusion (hA.symm.trans c_31)
  · skip
    have c_9 := b2_z hr_1 c_9
    exact Bool.noConfusion (hR.symm.trans c_9)
set_option maxHeartbeats 4000000 in
set_option maxRecDepth 100000 in
theorem c_X4_cares_place (l : Launch) (G : lzG) (m : Nat) (q : Nat → Nat) (S : Nat → Int32) (ln mn g f : Nat → Int32) (ear : Int32) (rr : Nat) (i : Int32) (hrw : rr < 8) (hR : (decide (0 < f 0)) = true) (he : inR ear 0 9 = true) (hm : 0 ≤ ln rr) (hp : plcM (mn rr) i (f 2) = true) : Met l yX4_cares wsX4_cares ({ frames := 2, cells := 0, slots := 0, locals := 45 }) (va_Pc [.ref m, .int ear, .int (nI rr), .int i] (rwP G (lzM m q S ++ (lzI G (q 2) 8 ln ++ (lzI G (q 3) 8 mn ++ (lzI G (q 4) 320 g ++ (lzI G (q 5) 64 f))))))) (va_Qi (S := Unit) (fun (r : Int32) (_ : Unit) => r = -1000012) (rwB G (fun _ : Unit => (lzM m q (upd (upd S 0 0) 1 2) ++ (lzI G (q 2) 8 ln ++ (lzI G (q 3) 8 mn ++ (lzI G (q 4) 320 g ++ (lzI G (q 5) 64 f))))))) (lzA (lzM m q S ++ (lzI G (q 2) 8 ln ++ (lzI G (q 3) 8 mn ++ (lzI G (q 4) 320 g ++ (lzI G (q 5) 64 f))))))) 0 0 (lzA (lzM m q S ++ (lzI G (q 2) 8 ln ++ (lzI G (q 3) 8 mn ++ (lzI G (q 4) 320 g ++ (lzI G (q 5) 64 f)))))) := by
  have hA : inR (nI rr) 0 7 = true := inR_row hrw
  have heL : inL ear.toInt64 0 9 = true := (inL_of ear 0 9).trans he
  refine rw_start (S := Unit) (cc := cX4_cares) (maxL := 7) (ret := (some .int)) (by decide) rfl (Nat.le_of_ble_eq_true rfl) ?_
  intro pp ee ss mm bl me cd A hx hb hr hlk hml hts hown hP hK hD hAe hS ls hl
  have hA0 : ∀ zz : Nat, lzA (lzM m q S ++ (lzI G (q 2) 8 ln ++ (lzI G (q 3) 8 mn ++ (lzI G (q 4) 320 g ++ (lzI G (q 5) 64 f))))) zz → A zz := fun zz h9 => by rw [hAe]; exact h9
  rw [← hAe]
  clear hAe
  have hown : ss.vm.findClass RX4 = some mm.cls := hown
  have hw1 := hts (.fieldLink RX4 48 "LampSquaresModel" "thrown" "I") (List.mem_of_getElem? (i := 1) rfl)
  have hw3 := hts (.constantLong RX4 210 (9)) (List.mem_of_getElem? (i := 3) rfl)
  have hw5 := hts (.fieldLink RX4 19 "LampSquaresModel" "door" "[I") (List.mem_of_getElem? (i := 5) rfl)
  have hu_wsX40 : ∀ w ∈ wsX40, w.before ([.ref m, .int ear, .int (nI rr), .int i] : List Value).toArray ss = true := fun w h9 => hts w (List.mem_cons_of_mem _ (List.mem_append_right _ h9))
  have hl : lv_has ls 7 [(0, .ref m), (1, .int ear), (2, .int (nI rr)), (3, .int i)] := hl
  refine lv_aload_n hx hb dX4_cares_0 rfl (lv_at hl 0 rfl) ?_
  refine lv_iconst (v := 0) hx hb dX4_cares_1 (by decide) ?_
  refine lz_put (G := G) (ci := 4) (C := RX4) (T := TX4) (N := 24) hx hb hu_wsX40 (fun _ h9 => h9) tyX4 tyX4_ok nmX4 hown hK hP hD hS 0 rfl rfl 0 (by decide) hw1 rfl rfl (by decide +kernel) (Nat.le_of_ble_eq_true rfl) dX4_cares_2 (lzM m q (upd S 0 0) ++ (lzI G (q 2) 8 ln ++ (lzI G (q 3) 8 mn ++ (lzI G (q 4) 320 g ++ (lzI G (q 5) 64 f))))) rfl (fun H locs hP hD hS => ?_)
  refine lv_aload_n hx hb dX4_cares_5 rfl (lv_at hl 0 rfl) ?_
  have hPc := hP.sub (ws' := (lzM m q (upd S 0 0) ++ lzI G (q 5) 64 f)) [0, 4] rfl
  refine ro_calli (va_runV (As := []) (rest := []) ⟨hx, hb, hml, hown, hts⟩ (c_X4_isThere l G m q (upd S 0 0) f ) (cwV 0 hts gX4_cares_X4_isThere rfl rfl rfl (by decide +kernel) ⟨Nat.le_of_ble_eq_true rfl, Nat.le_of_ble_eq_true rfl⟩) (ro_preV hK hPc hP (ci := 4) (q0 := 0) rfl rfl) rfl rfl hl.1 rfl (lv_room (Nat.le_of_ble_eq_true rfl)) dX4_cares_6 ⟨Nat.zero_le _, Nat.zero_le _⟩) (fun r_1 hr_1 => ?_)
  refine lv_if_ne (tgt := 15) hx hb dX4_cares_9 (by decide) (fun c_9 => ?_) (fun c_9 => ?_)
  · skip
    have c_9 := b2_n hr_1 c_9
    refine lv_iload_n hx hb dX4_cares_15 rfl (lv_at hl 1 rfl) ?_
    refine lv_i2l hx hb dX4_cares_16 rfl ?_
    refine lv_lconst (v := 0) hx hb dX4_cares_17 (by decide) ?_
    refine lv_ldc2 hx hb hown hw3 dX4_cares_18 ?_
    refine ro_calli (va_runS (As := [.long ear.toInt64, .long 0, .long 9]) (rest := []) ⟨hx, hb, hml, hown, hts⟩ (c_X4_in l G ear.toInt64 0 9 ) (cwS 3 hts gX4_cares_X4_in rfl rfl rfl (by decide +kernel) ⟨Nat.le_of_ble_eq_true rfl, Nat.le_of_ble_eq_true rfl⟩) (ro_pre hK (fun k q h => by simp at h)) rfl rfl hl.1 rfl (lv_room (Nat.le_of_ble_eq_true rfl)) dX4_cares_21 ⟨Nat.zero_le _, Nat.zero_le _⟩) (fun r_2 hr_2 => ?_)
    refine lv_if_eq (tgt := 34) hx hb dX4_cares_24 (by decide) (fun c_24 => ?_) (fun c_24 => ?_)
    · skip
      have c_24 := b2_z hr_2 c_24
      exact Bool.noConfusion (heL.symm.trans c_24)
    · skip
      have c_24 := b2_n hr_2 c_24
      refine lv_iload_n hx hb dX4_cares_27 rfl (lv_at hl 2 rfl) ?_
      refine ro_calli (va_runS (As := [.int (nI rr)]) (rest := []) ⟨hx, hb, hml, hown, hts⟩ (c_X4_isRow l G (nI rr) ) (cwS 1 hts gX4_cares_X4_isRow rfl rfl rfl (by decide +kernel) ⟨Nat.le_of_ble_eq_true rfl, Nat.le_of_ble_eq_true rfl⟩) (ro_pre hK (fun k q h => by simp at h)) rfl rfl hl.1 rfl (lv_room (Nat.le_of_ble_eq_true rfl)) dX4_cares_28 ⟨Nat.zero_le _, Nat.zero_le _⟩) (fun r_3 hr_3 => ?_)
      refine lv_if_ne (tgt := 37) hx hb dX4_cares_31 (by decide) (fun c_31 => ?_) (fun c_31 => ?_)
      · skip
        have c_31 := b2_n hr_3 c_31
        refine lv_aload_n hx hb dX4_cares_37 rfl (lv_at hl 0 rfl) ?_
        refine lv_iload_n hx hb dX4_cares_38 rfl (lv_at hl 2 rfl) ?_
        refine lv_iload_n hx hb dX4_cares_39 rfl (lv_at hl 3 rfl) ?_
        refine lv_aload_n hx hb dX4_cares_40 rfl (lv_at hl 0 rfl) ?_
        refine lz_get (G := G) (ci := 4) (v := .ref (q 5)) (C := RX4) (T := TX4) (N := 24) hx hb hu_wsX40 (fun _ h9 => h9) hown hK hP 0 rfl rfl 5 (by decide) hw5 rfl rfl dX4_cares_41 ?_
        refine lv_iconst (v := 2) hx hb dX4_cares_44 (by decide) ?_
        refine lz_iald (f := f) hx hb hK hP 4 rfl 2 (by omega) (Nat.le_of_ble_eq_true rfl) dX4_cares_45 ?_
        have hPc := hP.sub (ws' := (lzM m q (upd S 0 0) ++ (lzI G (q 2) 8 ln ++ (lzI G (q 3) 8 mn)))) [0, 1, 2] rfl
        have hDc := hD.sub (ws' := (lzM m q (upd S 0 0) ++ (lzI G (q 2) 8 ln ++ (lzI G (q 3) 8 mn)))) [0, 1, 2] (by decide) rfl
        have hFc : ∀ zz : Nat, lzA (lzM m q (upd S 0 0) ++ (lzI G (q 2) 8 ln ++ (lzI G (q 3) 8 mn))) zz → A zz := lz_free hD [0, 1, 2] rfl
        refine va_calli (va_runV (As := [.int (nI rr), .int i, .int (f 2)]) (rest := []) ⟨hx, hb, hml, hown, hts⟩ (c_X4_rowFound_place l G m q (upd S 0 0) ln mn rr i (f 2) (hrw) (hm) (hp)) (cwV 3 hts gX4_cares_X4_rowFound rfl rfl rfl (by decide +kernel) ⟨Nat.le_of_ble_eq_true rfl, Nat.le_of_ble_eq_true rfl⟩) (rw_preV hK hPc hDc hP (ci := 4) (q0 := 0) rfl rfl) rfl rfl hl.1 rfl (lv_room (Nat.le_of_ble_eq_true rfl)) dX4_cares_46 ⟨Nat.zero_le _, Nat.zero_le _⟩) hS (fun q _ h => hFc q h) hFc (fun r_4 u_5 t9 H1 locs ht hvm hr_4 hB hz1 hk1 hS => ?_)
        replace hB : va_P G.1 lzC _ t9.heap := hB
        rw [ht] at hB
        obtain ⟨hP, hD⟩ := lz_join (wc := (lzM m q (upd S 0 0) ++ (lzI G (q 2) 8 ln ++ (lzI G (q 3) 8 mn)))) (wr := ([(q 4, .inl (G.2 0, 320, .inl g)), (q 5, .inl (G.2 0, 64, .inl f))] : va_W)) (w1 := (lzM m q (upd (upd S 0 0) 1 2) ++ (lzI G (q 2) 8 ln ++ (lzI G (q 3) 8 mn)))) hP hD [0, 1, 2] [3, 4] rfl rfl (by decide) (by decide) rfl hk1 hB
        replace hP := hP.sub (ws' := (lzM m q (upd (upd S 0 0) 1 2) ++ (lzI G (q 2) 8 ln ++ (lzI G (q 3) 8 mn ++ (lzI G (q 4) 320 g ++ (lzI G (q 5) 64 f)))))) [2, 3, 4, 0, 1] rfl
        replace hD := hD.sub (ws' := (lzM m q (upd (upd S 0 0) 1 2) ++ (lzI G (q 2) 8 ln ++ (lzI G (q 3) 8 mn ++ (lzI G (q 4) 320 g ++ (lzI G (q 5) 64 f)))))) [2, 3, 4, 0, 1] (by decide) rfl
        clear ht hvm hB hz1 hk1
        generalize H1 = H at hP hS ⊢
        refine lz_top (y := -1000012) hr_4 ?_
        refine lv_istore (lv' := [(4, .int (-1000012)), (0, .ref m), (1, .int ear), (2, .int (nI rr)), (3, .int i)]) hx hb dX4_cares_49 hl (by decide) rfl (fun ls hl => ?_)
        refine lv_iload hx hb dX4_cares_51 (lv_at hl 0 rfl) ?_
        refine lv_if_eq (tgt := 59) hx hb dX4_cares_53 (by decide) (fun c_53 => ?_) (fun c_53 => ?_)
        · skip
          exact False.elim (by revert c_53; decide)
        · skip
          refine lv_iload hx hb dX4_cares_56 (lv_at hl 0 rfl) ?_
          exact rw_iret (S := Unit) (G := G) (Wd := fun _ : Unit => (lzM m q (upd (upd S 0 0) 1 2) ++ (lzI G (q 2) 8 ln ++ (lzI G (q 3) 8 mn ++ (lzI G (q 4) 320 g ++ (lzI G (q 5) 64 f)))))) () hx hb hr hlk dX4_cares_58 hS (hP) (by first | rfl | assumption)
      · skip
        have c_31 := b2_z hr_3 c_31
        exact Bool.noConfusion (hA.symm.trans c_31)
  · skip
    have c_9 := b2_z hr_1 c_9
    exact Bool.noConfusion (hR.symm.trans c_9)
set_option maxHeartbeats 4000000 in
set_option maxRecDepth 100000 in
theorem c_X4_cares_ok (l : Launch) (G : lzG) (m : Nat) (q : Nat → Nat) (S : Nat → Int32) (ln mn g f : Nat → Int32) (ear : Int32) (rr i N M : Nat) (hrw : rr < 8) (hR : (decide (0 < f 0)) = true) (he : inR ear 0 9 = true) (hN : f 2 = nI N) (hN8 : N ≤ 8) (hM : f 3 = nI M) (hM5 : M ≤ 5) (hm : 0 ≤ ln rr) (hp : plcM (mn rr) (nI i) (f 2) = false) (hi40 : i + N ≤ 40) : Met l yX4_cares wsX4_cares ({ frames := 3, cells := 0, slots := 0, locals := 71 }) (va_Pc [.ref m, .int ear, .int (nI rr), .int (nI i)] (rwP G (lzM m q S ++ (lzI G (q 2) 8 ln ++ (lzI G (q 3) 8 mn ++ (lzI G (q 4) 320 g ++ (lzI G (q 5) 64 f))))))) (va_Qi (S := Unit) (fun (r : Int32) (_ : Unit) => r = carM f g (40 * rr + i) N ear 10) (rwB G (fun _ : Unit => (lzM m q (upd (upd S 0 0) 1 0) ++ (lzI G (q 2) 8 ln ++ (lzI G (q 3) 8 mn ++ (lzI G (q 4) 320 g ++ (lzI G (q 5) 64 f))))))) (lzA (lzM m q S ++ (lzI G (q 2) 8 ln ++ (lzI G (q 3) 8 mn ++ (lzI G (q 4) 320 g ++ (lzI G (q 5) 64 f))))))) 0 0 (lzA (lzM m q S ++ (lzI G (q 2) 8 ln ++ (lzI G (q 3) 8 mn ++ (lzI G (q 4) 320 g ++ (lzI G (q 5) 64 f)))))) := by
  have hA : inR (nI rr) 0 7 = true := inR_row hrw
  have heL : inL ear.toInt64 0 9 = true := (inL_of ear 0 9).trans he
  refine rw_start (S := Unit) (cc := cX4_cares) (maxL := 7) (ret := (some .int)) (by decide) rfl (Nat.le_of_ble_eq_true rfl) ?_
  intro pp ee ss mm bl me cd A hx hb hr hlk hml hts hown hP hK hD hAe hS ls hl
  have hA0 : ∀ zz : Nat, lzA (lzM m q S ++ (lzI G (q 2) 8 ln ++ (lzI G (q 3) 8 mn ++ (lzI G (q 4) 320 g ++ (lzI G (q 5) 64 f))))) zz → A zz := fun zz h9 => by rw [hAe]; exact h9
  rw [← hAe]
  clear hAe
  have hown : ss.vm.findClass RX4 = some mm.cls := hown
  have hw1 := hts (.fieldLink RX4 48 "LampSquaresModel" "thrown" "I") (List.mem_of_getElem? (i := 1) rfl)
  have hw3 := hts (.constantLong RX4 210 (9)) (List.mem_of_getElem? (i := 3) rfl)
  have hw5 := hts (.fieldLink RX4 19 "LampSquaresModel" "door" "[I") (List.mem_of_getElem? (i := 5) rfl)
  have hu_wsX40 : ∀ w ∈ wsX40, w.before ([.ref m, .int ear, .int (nI rr), .int (nI i)] : List Value).toArray ss = true := fun w h9 => hts w (List.mem_cons_of_mem _ (List.mem_append_right _ h9))
  have hl : lv_has ls 7 [(0, .ref m), (1, .int ear), (2, .int (nI rr)), (3, .int (nI i))] := hl
  refine lv_aload_n hx hb dX4_cares_0 rfl (lv_at hl 0 rfl) ?_
  refine lv_iconst (v := 0) hx hb dX4_cares_1 (by decide) ?_
  refine lz_put (G := G) (ci := 4) (C := RX4) (T := TX4) (N := 24) hx hb hu_wsX40 (fun _ h9 => h9) tyX4 tyX4_ok nmX4 hown hK hP hD hS 0 rfl rfl 0 (by decide) hw1 rfl rfl (by decide +kernel) (Nat.le_of_ble_eq_true rfl) dX4_cares_2 (lzM m q (upd S 0 0) ++ (lzI G (q 2) 8 ln ++ (lzI G (q 3) 8 mn ++ (lzI G (q 4) 320 g ++ (lzI G (q 5) 64 f))))) rfl (fun H locs hP hD hS => ?_)
  refine lv_aload_n hx hb dX4_cares_5 rfl (lv_at hl 0 rfl) ?_
  have hPc := hP.sub (ws' := (lzM m q (upd S 0 0) ++ lzI G (q 5) 64 f)) [0, 4] rfl
  refine ro_calli (va_runV (As := []) (rest := []) ⟨hx, hb, hml, hown, hts⟩ (c_X4_isThere l G m q (upd S 0 0) f ) (cwV 0 hts gX4_cares_X4_isThere rfl rfl rfl (by decide +kernel) ⟨Nat.le_of_ble_eq_true rfl, Nat.le_of_ble_eq_true rfl⟩) (ro_preV hK hPc hP (ci := 4) (q0 := 0) rfl rfl) rfl rfl hl.1 rfl (lv_room (Nat.le_of_ble_eq_true rfl)) dX4_cares_6 ⟨Nat.zero_le _, Nat.zero_le _⟩) (fun r_1 hr_1 => ?_)
  refine lv_if_ne (tgt := 15) hx hb dX4_cares_9 (by decide) (fun c_9 => ?_) (fun c_9 => ?_)
  · skip
    have c_9 := b2_n hr_1 c_9
    refine lv_iload_n hx hb dX4_cares_15 rfl (lv_at hl 1 rfl) ?_
    refine lv_i2l hx hb dX4_cares_16 rfl ?_
    refine lv_lconst (v := 0) hx hb dX4_cares_17 (by decide) ?_
    refine lv_ldc2 hx hb hown hw3 dX4_cares_18 ?_
    refine ro_calli (va_runS (As := [.long ear.toInt64, .long 0, .long 9]) (rest := []) ⟨hx, hb, hml, hown, hts⟩ (c_X4_in l G ear.toInt64 0 9 ) (cwS 3 hts gX4_cares_X4_in rfl rfl rfl (by decide +kernel) ⟨Nat.le_of_ble_eq_true rfl, Nat.le_of_ble_eq_true rfl⟩) (ro_pre hK (fun k q h => by simp at h)) rfl rfl hl.1 rfl (lv_room (Nat.le_of_ble_eq_true rfl)) dX4_cares_21 ⟨Nat.zero_le _, Nat.zero_le _⟩) (fun r_2 hr_2 => ?_)
    refine lv_if_eq (tgt := 34) hx hb dX4_cares_24 (by decide) (fun c_24 => ?_) (fun c_24 => ?_)
    · skip
      have c_24 := b2_z hr_2 c_24
      exact Bool.noConfusion (heL.symm.trans c_24)
    · skip
      have c_24 := b2_n hr_2 c_24
      refine lv_iload_n hx hb dX4_cares_27 rfl (lv_at hl 2 rfl) ?_
      refine ro_calli (va_runS (As := [.int (nI rr)]) (rest := []) ⟨hx, hb, hml, hown, hts⟩ (c_X4_isRow l G (nI rr) ) (cwS 1 hts gX4_cares_X4_isRow rfl rfl rfl (by decide +kernel) ⟨Nat.le_of_ble_eq_true rfl, Nat.le_of_ble_eq_true rfl⟩) (ro_pre hK (fun k q h => by simp at h)) rfl rfl hl.1 rfl (lv_room (Nat.le_of_ble_eq_true rfl)) dX4_cares_28 ⟨Nat.zero_le _, Nat.zero_le _⟩) (fun r_3 hr_3 => ?_)
      refine lv_if_ne (tgt := 37) hx hb dX4_cares_31 (by decide) (fun c_31 => ?_) (fun c_31 => ?_)
      · skip
        have c_31 := b2_n hr_3 c_31
        refine lv_aload_n hx hb dX4_cares_37 rfl (lv_at hl 0 rfl) ?_
        refine lv_iload_n hx hb dX4_cares_38 rfl (lv_at hl 2 rfl) ?_
        refine lv_iload_n hx hb dX4_cares_39 rfl (lv_at hl 3 rfl) ?_
        refine lv_aload_n hx hb dX4_cares_40 rfl (lv_at hl 0 rfl) ?_
        refine lz_get (G := G) (ci := 4) (v := .ref (q 5)) (C := RX4) (T := TX4) (N := 24) hx hb hu_wsX40 (fun _ h9 => h9) hown hK hP 0 rfl rfl 5 (by decide) hw5 rfl rfl dX4_cares_41 ?_
        refine lv_iconst (v := 2) hx hb dX4_cares_44 (by decide) ?_
        refine lz_iald (f := f) hx hb hK hP 4 rfl 2 (by omega) (Nat.le_of_ble_eq_true rfl) dX4_cares_45 ?_
        have hPc := hP.sub (ws' := (lzM m q (upd S 0 0) ++ (lzI G (q 2) 8 ln ++ (lzI G (q 3) 8 mn)))) [0, 1, 2] rfl
        have hDc := hD.sub (ws' := (lzM m q (upd S 0 0) ++ (lzI G (q 2) 8 ln ++ (lzI G (q 3) 8 mn)))) [0, 1, 2] (by decide) rfl
        have hFc : ∀ zz : Nat, lzA (lzM m q (upd S 0 0) ++ (lzI G (q 2) 8 ln ++ (lzI G (q 3) 8 mn))) zz → A zz := lz_free hD [0, 1, 2] rfl
        refine va_calli (va_runV (As := [.int (nI rr), .int (nI i), .int (f 2)]) (rest := []) ⟨hx, hb, hml, hown, hts⟩ (c_X4_rowFound_ok l G m q (upd S 0 0) ln mn rr (nI i) (f 2) (hrw) (hm) (hp)) (cwV 3 hts gX4_cares_X4_rowFound rfl rfl rfl (by decide +kernel) ⟨Nat.le_of_ble_eq_true rfl, Nat.le_of_ble_eq_true rfl⟩) (rw_preV hK hPc hDc hP (ci := 4) (q0 := 0) rfl rfl) rfl rfl hl.1 rfl (lv_room (Nat.le_of_ble_eq_true rfl)) dX4_cares_46 ⟨Nat.zero_le _, Nat.zero_le _⟩) hS (fun q _ h => hFc q h) hFc (fun r_4 u_5 t9 H1 locs ht hvm hr_4 hB hz1 hk1 hS => ?_)
        replace hB : va_P G.1 lzC _ t9.heap := hB
        rw [ht] at hB
        obtain ⟨hP, hD⟩ := lz_join (wc := (lzM m q (upd S 0 0) ++ (lzI G (q 2) 8 ln ++ (lzI G (q 3) 8 mn)))) (wr := ([(q 4, .inl (G.2 0, 320, .inl g)), (q 5, .inl (G.2 0, 64, .inl f))] : va_W)) (w1 := (lzM m q (upd (upd S 0 0) 1 0) ++ (lzI G (q 2) 8 ln ++ (lzI G (q 3) 8 mn)))) hP hD [0, 1, 2] [3, 4] rfl rfl (by decide) (by decide) rfl hk1 hB
        replace hP := hP.sub (ws' := (lzM m q (upd (upd S 0 0) 1 0) ++ (lzI G (q 2) 8 ln ++ (lzI G (q 3) 8 mn ++ (lzI G (q 4) 320 g ++ (lzI G (q 5) 64 f)))))) [2, 3, 4, 0, 1] rfl
        replace hD := hD.sub (ws' := (lzM m q (upd (upd S 0 0) 1 0) ++ (lzI G (q 2) 8 ln ++ (lzI G (q 3) 8 mn ++ (lzI G (q 4) 320 g ++ (lzI G (q 5) 64 f)))))) [2, 3, 4, 0, 1] (by decide) rfl
        clear ht hvm hB hz1 hk1
        generalize H1 = H at hP hS ⊢
        refine lz_top (y := 0) hr_4 ?_
        refine lv_istore (lv' := [(4, .int 0), (0, .ref m), (1, .int ear), (2, .int (nI rr)), (3, .int (nI i))]) hx hb dX4_cares_49 hl (by decide) rfl (fun ls hl => ?_)
        refine lv_iload hx hb dX4_cares_51 (lv_at hl 0 rfl) ?_
        refine lv_if_eq (tgt := 59) hx hb dX4_cares_53 (by decide) (fun c_53 => ?_) (fun c_53 => ?_)
        · skip
          refine lv_iconst (v := 0) hx hb dX4_cares_59 (by decide) ?_
          refine lv_istore (lv' := [(5, .int 0), (4, .int 0), (0, .ref m), (1, .int ear), (2, .int (nI rr)), (3, .int (nI i))]) hx hb dX4_cares_60 hl (by decide) rfl (fun ls hl => ?_)
          refine lv_iconst (v := 0) hx hb dX4_cares_62 (by decide) ?_
          refine lv_istore (lv' := [(6, .int 0), (5, .int 0), (4, .int 0), (0, .ref m), (1, .int ear), (2, .int (nI rr)), (3, .int (nI i))]) hx hb dX4_cares_63 hl (by decide) rfl (fun ls hl => ?_)
          have J_65 : ∀ (n9 : Nat), ∀ (k : Nat), (k ≤ 10) → 10 - k < n9 → ∀ (H : Heap) (locs : List Loc), va_P G.1 lzC (lzM m q (upd (upd S 0 0) 1 0) ++ (lzI G (q 2) 8 ln ++ (lzI G (q 3) 8 mn ++ (lzI G (q 4) 320 g ++ (lzI G (q 5) 64 f))))) H → va_D A (lzM m q (upd (upd S 0 0) 1 0) ++ (lzI G (q 2) 8 ln ++ (lzI G (q 3) 8 mn ++ (lzI G (q 4) 320 g ++ (lzI G (q 5) 64 f))))) → va_S A ss.heap H locs → ∀ ls : Array Slot, lv_has ls 7 [(5, .int (carM f g (40 * rr + i) N ear k)), (6, .int (nI k)), (4, .int 0), (0, .ref m), (1, .int ear), (2, .int (nI rr)), (3, .int (nI i))] → W pp l ee ({ frames := 3, cells := 0, slots := 0, locals := 71 }) ss mm ([.ref m, .int ear, .int (nI rr), .int (nI i)] : List Value).toArray bl me cd H locs 0 0 (MQ bl (va_Qi (S := Unit) (fun (r : Int32) (_ : Unit) => r = carM f g (40 * rr + i) N ear 10) (rwB G (fun _ : Unit => (lzM m q (upd (upd S 0 0) 1 0) ++ (lzI G (q 2) 8 ln ++ (lzI G (q 3) 8 mn ++ (lzI G (q 4) 320 g ++ (lzI G (q 5) 64 f))))))) A) ([.ref m, .int ear, .int (nI rr), .int (nI i)] : List Value).toArray ss 0 0 A) (F0 mm 65 ls []) := by
            intro n9
            induction n9 with
            | zero => intro k hk hn; exact absurd hn (Nat.not_lt_zero _)
            | succ n9 ih_65 =>
              intro k hk hn_65 H locs hP hD hS ls hl
              refine lv_iload hx hb dX4_cares_65 (lv_at hl 1 rfl) ?_
              refine lv_bipush (v := 10) hx hb dX4_cares_67 (by decide) ?_
              refine lv_icmp_ge (tgt := 107) hx hb dX4_cares_69 (by decide) (fun c_69 => ?_) (fun c_69 => ?_)
              · skip
                have c_69' := Int32.not_lt.mpr c_69
                have hk2 : 10 ≤ k := lz_ge (N := 10) rfl c_69 (by omega) (by omega)
                have hk3 : k = 10 := by omega
                refine lv_iload hx hb dX4_cares_107 (lv_at hl 0 rfl) ?_
                exact rw_iret (S := Unit) (G := G) (Wd := fun _ : Unit => (lzM m q (upd (upd S 0 0) 1 0) ++ (lzI G (q 2) 8 ln ++ (lzI G (q 3) 8 mn ++ (lzI G (q 4) 320 g ++ (lzI G (q 5) 64 f)))))) () hx hb hr hlk dX4_cares_109 hS (hP) (by first | rfl | (rw [hk3]))
              · skip
                have c_69' := Int32.not_le.mp c_69
                have hk2 : k < 10 := lz_lt (N := 10) rfl c_69 (by omega) (by omega)
                refine lv_iload hx hb dX4_cares_72 (lv_at hl 0 rfl) ?_
                refine lv_aload_n hx hb dX4_cares_74 rfl (lv_at hl 3 rfl) ?_
                refine lv_iload hx hb dX4_cares_75 (lv_at hl 1 rfl) ?_
                refine lv_iload_n hx hb dX4_cares_77 rfl (lv_at hl 4 rfl) ?_
                refine lv_bipush (v := 40) hx hb dX4_cares_78 (by decide) ?_
                refine lv_iload_n hx hb dX4_cares_80 rfl (lv_at hl 5 rfl) ?_
                refine lv_imul hx hb dX4_cares_81 ?_
                refine lv_iload_n hx hb dX4_cares_82 rfl (lv_at hl 6 rfl) ?_
                refine lv_iadd hx hb dX4_cares_83 ?_
                refine lz_top (y := nI (40 * rr + i)) (by simp only [fa_lit, pk_mul, nI_add]) ?_
                have hPc := hP.sub (ws' := (lzM m q (upd (upd S 0 0) 1 0) ++ (lzI G (q 4) 320 g ++ (lzI G (q 5) 64 f)))) [0, 3, 4] rfl
                refine ro_calli (va_runV (As := [.int (nI k), .int ear, .int (nI (40 * rr + i))]) (rest := [.int (carM f g (40 * rr + i) N ear k)]) ⟨hx, hb, hml, hown, hts⟩ (c_X4_clicksSo l G m q (upd (upd S 0 0) 1 0) g f (nI k) ear (40 * rr + i) N (hN) (hN8) (by omega)) (cwV 3 hts gX4_cares_X4_clicksSo rfl rfl rfl (by decide +kernel) ⟨Nat.le_of_ble_eq_true rfl, Nat.le_of_ble_eq_true rfl⟩) (ro_preV hK hPc hP (ci := 4) (q0 := 0) rfl rfl) rfl rfl hl.1 rfl (lv_room (Nat.le_of_ble_eq_true rfl)) dX4_cares_84 ⟨Nat.zero_le _, Nat.zero_le _⟩) (fun r_6 hr_6 => ?_)
                refine lv_if_eq (tgt := 97) hx hb dX4_cares_87 (by decide) (fun c_87 => ?_) (fun c_87 => ?_)
                · skip
                  have c_87 := b2_z hr_6 c_87
                  refine lv_iconst (v := 0) hx hb dX4_cares_97 (by decide) ?_
                  refine lv_ior hx hb dX4_cares_98 ?_
                  refine lv_topi (fun x_7 ex_7 => ?_)
                  refine lv_istore (lv' := [(5, .int x_7), (6, .int (nI k)), (4, .int 0), (0, .ref m), (1, .int ear), (2, .int (nI rr)), (3, .int (nI i))]) hx hb dX4_cares_99 hl (by decide) rfl (fun ls hl => ?_)
                  refine lv_iinc (v := nI (k + 1)) (lv' := [(6, .int (nI (k + 1))), (5, .int x_7), (4, .int 0), (0, .ref m), (1, .int ear), (2, .int (nI rr)), (3, .int (nI i))]) hx hb dX4_cares_101 hl (k := 1) rfl (nI_1 _) (by decide) rfl (fun ls hl => ?_)
                  refine lv_goto (tgt := 65) hx hb dX4_cares_104 (by decide) ?_
                  obtain rfl : x_7 = carM f g (40 * rr + i) N ear (k + 1) := by rw [ex_7]; have hq := c_87; change allS f g (40 * rr + i) _ _ _ = _ at hq; simp [shrM, kndM, whoM, carM, bitsI, hq, c_9, c_24, c_31, c_69, c_69', c_87]
                  exact ih_65 (k + 1) (by omega) (by omega) _ _ hP hD hS _ (lv_sub hl [1, 0, 2, 3, 4, 5, 6] rfl)
                · skip
                  have c_87 := b2_n hr_6 c_87
                  refine lv_iconst (v := 1) hx hb dX4_cares_90 (by decide) ?_
                  refine lv_iload hx hb dX4_cares_91 (lv_at hl 1 rfl) ?_
                  refine lv_ishl hx hb dX4_cares_93 ?_
                  refine lv_goto (tgt := 98) hx hb dX4_cares_94 (by decide) ?_
                  refine lv_ior hx hb dX4_cares_98 ?_
                  refine lv_topi (fun x_8 ex_8 => ?_)
                  refine lv_istore (lv' := [(5, .int x_8), (6, .int (nI k)), (4, .int 0), (0, .ref m), (1, .int ear), (2, .int (nI rr)), (3, .int (nI i))]) hx hb dX4_cares_99 hl (by decide) rfl (fun ls hl => ?_)
                  refine lv_iinc (v := nI (k + 1)) (lv' := [(6, .int (nI (k + 1))), (5, .int x_8), (4, .int 0), (0, .ref m), (1, .int ear), (2, .int (nI rr)), (3, .int (nI i))]) hx hb dX4_cares_101 hl (k := 1) rfl (nI_1 _) (by decide) rfl (fun ls hl => ?_)
                  refine lv_goto (tgt := 65) hx hb dX4_cares_104 (by decide) ?_
                  obtain rfl : x_8 = carM f g (40 * rr + i) N ear (k + 1) := by rw [ex_8]; have hq := c_87; change allS f g (40 * rr + i) _ _ _ = _ at hq; simp [shrM, kndM, whoM, carM, bitsI, hq, c_9, c_24, c_31, c_69, c_69', c_87]
                  exact ih_65 (k + 1) (by omega) (by omega) _ _ hP hD hS _ (lv_sub hl [1, 0, 2, 3, 4, 5, 6] rfl)
          exact J_65 _ 0 (by omega) (Nat.lt_succ_self _) _ _ hP hD hS _ (lv_sub hl [1, 0, 2, 3, 4, 5, 6] rfl)
        · skip
          exact False.elim (by revert c_53; decide)
      · skip
        have c_31 := b2_z hr_3 c_31
        exact Bool.noConfusion (hA.symm.trans c_31)
  · skip
    have c_9 := b2_z hr_1 c_9
    exact Bool.noConfusion (hR.symm.trans c_9)
