set_option maxHeartbeats 4000000 in
set_option maxRecDepth 100000 in
theorem c_X4_tells_state (l : Launch) (G : lzG) (m : Nat) (q : Nat → Nat) (S : Nat → Int32) (f : Nat → Int32) (set what : Int32) (hR : (decide (0 < f 0)) = false) : Met l yX4_tells wsX4_tells ({ frames := 1, cells := 0, slots := 0, locals := 20 }) (va_Pc [.ref m, .int set, .int what] (rwP G (lzM m q S ++ lzI G (q 5) 64 f))) (va_Qi (S := Unit) (fun (r : Int32) (_ : Unit) => r = -1000002) (rwB G (fun _ : Unit => (lzM m q (upd S 0 0) ++ lzI G (q 5) 64 f))) (lzA (lzM m q S ++ lzI G (q 5) 64 f))) 0 0 (lzA (lzM m q S ++ lzI G (q 5) 64 f)) := by
  refine rw_start (S := Unit) (cc := cX4_tells) (maxL := 8) (ret := (some .int)) (by decide) rfl (Nat.le_of_ble_eq_true rfl) ?_
  intro pp ee ss mm bl me cd A hx hb hr hlk hml hts hown hP hK hD hAe hS ls hl
  have hA0 : ∀ zz : Nat, lzA (lzM m q S ++ lzI G (q 5) 64 f) zz → A zz := fun zz h9 => by rw [hAe]; exact h9
  rw [← hAe]
  clear hAe
  have hown : ss.vm.findClass RX4 = some mm.cls := hown
  have hw1 := hts (.fieldLink RX4 48 "LampSquaresModel" "thrown" "I") (List.mem_of_getElem? (i := 1) rfl)
  have hw2 := hts (.constant RX4 204 (-1000002)) (List.mem_of_getElem? (i := 2) rfl)
  have hu_wsX40 : ∀ w ∈ wsX40, w.before ([.ref m, .int set, .int what] : List Value).toArray ss = true := fun w h9 => hts w (List.mem_cons_of_mem _ (List.mem_append_right _ h9))
  have hl : lv_has ls 8 [(0, .ref m), (1, .int set), (2, .int what)] := hl
  refine lv_aload_n hx hb dX4_tells_0 rfl (lv_at hl 0 rfl) ?_
  refine lv_iconst (v := 0) hx hb dX4_tells_1 (by decide) ?_
  refine lz_put (G := G) (ci := 4) (C := RX4) (T := TX4) (N := 24) hx hb hu_wsX40 (fun _ h9 => h9) tyX4 tyX4_ok nmX4 hown hK hP hD hS 0 rfl rfl 0 (by decide) hw1 rfl rfl (by decide +kernel) (Nat.le_of_ble_eq_true rfl) dX4_tells_2 (lzM m q (upd S 0 0) ++ lzI G (q 5) 64 f) rfl (fun H locs hP hD hS => ?_)
  refine lv_aload_n hx hb dX4_tells_5 rfl (lv_at hl 0 rfl) ?_
  refine ro_calli (va_runV (As := []) (rest := []) ⟨hx, hb, hml, hown, hts⟩ (c_X4_isThere l G m q (upd S 0 0) f ) (cwV 0 hts gX4_tells_X4_isThere rfl rfl rfl (by decide +kernel) ⟨Nat.le_of_ble_eq_true rfl, Nat.le_of_ble_eq_true rfl⟩) (ro_preV hK hP hP (ci := 4) (q0 := 0) rfl rfl) rfl rfl hl.1 rfl (lv_room (Nat.le_of_ble_eq_true rfl)) dX4_tells_6 ⟨Nat.zero_le _, Nat.zero_le _⟩) (fun r_1 hr_1 => ?_)
  refine lv_if_ne (tgt := 15) hx hb dX4_tells_9 (by decide) (fun c_9 => ?_) (fun c_9 => ?_)
  · skip
    have c_9 := b2_n hr_1 c_9
    exact Bool.noConfusion (hR.symm.trans c_9)
  · skip
    have c_9 := b2_z hr_1 c_9
    refine lv_ldc hx hb hown hw2 dX4_tells_12 ?_
    exact rw_iret (S := Unit) (G := G) (Wd := fun _ : Unit => (lzM m q (upd S 0 0) ++ lzI G (q 5) 64 f)) () hx hb hr hlk dX4_tells_14 hS (hP) (rfl)
set_option maxHeartbeats 4000000 in
set_option maxRecDepth 100000 in
theorem c_X4_tells_bad (l : Launch) (G : lzG) (m : Nat) (q : Nat → Nat) (S : Nat → Int32) (f : Nat → Int32) (set what : Int32) (hR : (decide (0 < f 0)) = true) (hbad : (inR set 0 ((1 <<< (f 2 &&& 31)) - 1) && inR what 0 1) = false) : Met l yX4_tells wsX4_tells ({ frames := 2, cells := 0, slots := 0, locals := 46 }) (va_Pc [.ref m, .int set, .int what] (rwP G (lzM m q S ++ lzI G (q 5) 64 f))) (va_Qi (S := Unit) (fun (r : Int32) (_ : Unit) => r = -1000001) (rwB G (fun _ : Unit => (lzM m q (upd S 0 0) ++ lzI G (q 5) 64 f))) (lzA (lzM m q S ++ lzI G (q 5) 64 f))) 0 0 (lzA (lzM m q S ++ lzI G (q 5) 64 f)) := by
  have hbW : (inR set 0 ((1 <<< (f 2 &&& 31)) - 1) && inL what.toInt64 0 1) = false := by rw [show inL what.toInt64 0 1 = inR what 0 1 from inL_of what 0 1]; exact hbad
  refine rw_start (S := Unit) (cc := cX4_tells) (maxL := 8) (ret := (some .int)) (by decide) rfl (Nat.le_of_ble_eq_true rfl) ?_
  intro pp ee ss mm bl me cd A hx hb hr hlk hml hts hown hP hK hD hAe hS ls hl
  have hA0 : ∀ zz : Nat, lzA (lzM m q S ++ lzI G (q 5) 64 f) zz → A zz := fun zz h9 => by rw [hAe]; exact h9
  rw [← hAe]
  clear hAe
  have hown : ss.vm.findClass RX4 = some mm.cls := hown
  have hw1 := hts (.fieldLink RX4 48 "LampSquaresModel" "thrown" "I") (List.mem_of_getElem? (i := 1) rfl)
  have hw3 := hts (.constant RX4 68 (-1000001)) (List.mem_of_getElem? (i := 3) rfl)
  have hu_wsX40 : ∀ w ∈ wsX40, w.before ([.ref m, .int set, .int what] : List Value).toArray ss = true := fun w h9 => hts w (List.mem_cons_of_mem _ (List.mem_append_right _ h9))
  have hl : lv_has ls 8 [(0, .ref m), (1, .int set), (2, .int what)] := hl
  refine lv_aload_n hx hb dX4_tells_0 rfl (lv_at hl 0 rfl) ?_
  refine lv_iconst (v := 0) hx hb dX4_tells_1 (by decide) ?_
  refine lz_put (G := G) (ci := 4) (C := RX4) (T := TX4) (N := 24) hx hb hu_wsX40 (fun _ h9 => h9) tyX4 tyX4_ok nmX4 hown hK hP hD hS 0 rfl rfl 0 (by decide) hw1 rfl rfl (by decide +kernel) (Nat.le_of_ble_eq_true rfl) dX4_tells_2 (lzM m q (upd S 0 0) ++ lzI G (q 5) 64 f) rfl (fun H locs hP hD hS => ?_)
  refine lv_aload_n hx hb dX4_tells_5 rfl (lv_at hl 0 rfl) ?_
  refine ro_calli (va_runV (As := []) (rest := []) ⟨hx, hb, hml, hown, hts⟩ (c_X4_isThere l G m q (upd S 0 0) f ) (cwV 0 hts gX4_tells_X4_isThere rfl rfl rfl (by decide +kernel) ⟨Nat.le_of_ble_eq_true rfl, Nat.le_of_ble_eq_true rfl⟩) (ro_preV hK hP hP (ci := 4) (q0 := 0) rfl rfl) rfl rfl hl.1 rfl (lv_room (Nat.le_of_ble_eq_true rfl)) dX4_tells_6 ⟨Nat.zero_le _, Nat.zero_le _⟩) (fun r_1 hr_1 => ?_)
  refine lv_if_ne (tgt := 15) hx hb dX4_tells_9 (by decide) (fun c_9 => ?_) (fun c_9 => ?_)
  · skip
    have c_9 := b2_n hr_1 c_9
    refine lv_aload_n hx hb dX4_tells_15 rfl (lv_at hl 0 rfl) ?_
    refine lv_iload_n hx hb dX4_tells_16 rfl (lv_at hl 1 rfl) ?_
    refine ro_calli (va_runV (As := [.int set]) (rest := []) ⟨hx, hb, hml, hown, hts⟩ (c_X4_areSquares l G m q (upd S 0 0) f set ) (cwV 1 hts gX4_tells_X4_areSquares rfl rfl rfl (by decide +kernel) ⟨Nat.le_of_ble_eq_true rfl, Nat.le_of_ble_eq_true rfl⟩) (ro_preV hK hP hP (ci := 4) (q0 := 0) rfl rfl) rfl rfl hl.1 rfl (lv_room (Nat.le_of_ble_eq_true rfl)) dX4_tells_17 ⟨Nat.zero_le _, Nat.zero_le _⟩) (fun r_2 hr_2 => ?_)
    refine lv_if_eq (tgt := 33) hx hb dX4_tells_20 (by decide) (fun c_20 => ?_) (fun c_20 => ?_)
    · skip
      have c_20 := b2_z hr_2 c_20
      refine lv_ldc hx hb hown hw3 dX4_tells_33 ?_
      exact rw_iret (S := Unit) (G := G) (Wd := fun _ : Unit => (lzM m q (upd S 0 0) ++ lzI G (q 5) 64 f)) () hx hb hr hlk dX4_tells_35 hS (hP) (rfl)
    · skip
      have c_20 := b2_n hr_2 c_20
      refine lv_iload_n hx hb dX4_tells_23 rfl (lv_at hl 2 rfl) ?_
      refine lv_i2l hx hb dX4_tells_24 rfl ?_
      refine lv_lconst (v := 0) hx hb dX4_tells_25 (by decide) ?_
      refine lv_lconst (v := 1) hx hb dX4_tells_26 (by decide) ?_
      refine ro_calli (va_runS (As := [.long what.toInt64, .long 0, .long 1]) (rest := []) ⟨hx, hb, hml, hown, hts⟩ (c_X4_in l G what.toInt64 0 1 ) (cwS 3 hts gX4_tells_X4_in rfl rfl rfl (by decide +kernel) ⟨Nat.le_of_ble_eq_true rfl, Nat.le_of_ble_eq_true rfl⟩) (ro_pre hK (fun k q h => by simp at h)) rfl rfl hl.1 rfl (lv_room (Nat.le_of_ble_eq_true rfl)) dX4_tells_27 ⟨Nat.zero_le _, Nat.zero_le _⟩) (fun r_3 hr_3 => ?_)
      refine lv_if_ne (tgt := 36) hx hb dX4_tells_30 (by decide) (fun c_30 => ?_) (fun c_30 => ?_)
      · skip
        have c_30 := b2_n hr_3 c_30
        exact Bool.noConfusion (hbW.symm.trans (by rw [c_20, c_30] <;> rfl))
      · skip
        have c_30 := b2_z hr_3 c_30
        refine lv_ldc hx hb hown hw3 dX4_tells_33 ?_
        exact rw_iret (S := Unit) (G := G) (Wd := fun _ : Unit => (lzM m q (upd S 0 0) ++ lzI G (q 5) 64 f)) () hx hb hr hlk dX4_tells_35 hS (hP) (rfl)
  · skip
    have c_9 := b2_z hr_1 c_9
    exact Bool.noConfusion (hR.symm.trans c_9)
set_option maxHeartbeats 4000000 in
set_option maxRecDepth 100000 in
theorem c_X4_tells_ok (l : Launch) (G : lzG) (m : Nat) (q : Nat → Nat) (S : Nat → Int32) (f : Nat → Int32) (set what : Int32) (N M : Nat) (hN : f 2 = nI N) (hN8 : N ≤ 8) (hM : f 3 = nI M) (hM5 : M ≤ 5) (hR : (decide (0 < f 0)) = true) (hset : inR set 0 ((1 <<< (f 2 &&& 31)) - 1) = true) (hw : inR what 0 1 = true) : Met l yX4_tells wsX4_tells ({ frames := 4, cells := 0, slots := 0, locals := 91 }) (va_Pc [.ref m, .int set, .int what] (rwP G (lzM m q S ++ lzI G (q 5) 64 f))) (va_Qi (S := Unit) (fun (r : Int32) (_ : Unit) => r = if what = 0 then (tlsK f set N M M).1 else (tlsK f set N M M).2) (rwB G (fun _ : Unit => (lzM m q (upd S 0 0) ++ lzI G (q 5) 64 f))) (lzA (lzM m q S ++ lzI G (q 5) 64 f))) 0 0 (lzA (lzM m q S ++ lzI G (q 5) 64 f)) := by
  have hwL : inL what.toInt64 0 1 = true := (inL_of what 0 1).trans hw
  refine rw_start (S := Unit) (cc := cX4_tells) (maxL := 8) (ret := (some .int)) (by decide) rfl (Nat.le_of_ble_eq_true rfl) ?_
  intro pp ee ss mm bl me cd A hx hb hr hlk hml hts hown hP hK hD hAe hS ls hl
  have hA0 : ∀ zz : Nat, lzA (lzM m q S ++ lzI G (q 5) 64 f) zz → A zz := fun zz h9 => by rw [hAe]; exact h9
  rw [← hAe]
  clear hAe
  have hown : ss.vm.findClass RX4 = some mm.cls := hown
  have hw1 := hts (.fieldLink RX4 48 "LampSquaresModel" "thrown" "I") (List.mem_of_getElem? (i := 1) rfl)
  have hw4 := hts (.constant RX4 91 (-1000000)) (List.mem_of_getElem? (i := 4) rfl)
  have hw5 := hts (.fieldLink RX4 19 "LampSquaresModel" "door" "[I") (List.mem_of_getElem? (i := 5) rfl)
  have hu_wsX40 : ∀ w ∈ wsX40, w.before ([.ref m, .int set, .int what] : List Value).toArray ss = true := fun w h9 => hts w (List.mem_cons_of_mem _ (List.mem_append_right _ h9))
  have hl : lv_has ls 8 [(0, .ref m), (1, .int set), (2, .int what)] := hl
  refine lv_aload_n hx hb dX4_tells_0 rfl (lv_at hl 0 rfl) ?_
  refine lv_iconst (v := 0) hx hb dX4_tells_1 (by decide) ?_
  refine lz_put (G := G) (ci := 4) (C := RX4) (T := TX4) (N := 24) hx hb hu_wsX40 (fun _ h9 => h9) tyX4 tyX4_ok nmX4 hown hK hP hD hS 0 rfl rfl 0 (by decide) hw1 rfl rfl (by decide +kernel) (Nat.le_of_ble_eq_true rfl) dX4_tells_2 (lzM m q (upd S 0 0) ++ lzI G (q 5) 64 f) rfl (fun H locs hP hD hS => ?_)
  refine lv_aload_n hx hb dX4_tells_5 rfl (lv_at hl 0 rfl) ?_
  refine ro_calli (va_runV (As := []) (rest := []) ⟨hx, hb, hml, hown, hts⟩ (c_X4_isThere l G m q (upd S 0 0) f ) (cwV 0 hts gX4_tells_X4_isThere rfl rfl rfl (by decide +kernel) ⟨Nat.le_of_ble_eq_true rfl, Nat.le_of_ble_eq_true rfl⟩) (ro_preV hK hP hP (ci := 4) (q0 := 0) rfl rfl) rfl rfl hl.1 rfl (lv_room (Nat.le_of_ble_eq_true rfl)) dX4_tells_6 ⟨Nat.zero_le _, Nat.zero_le _⟩) (fun r_1 hr_1 => ?_)
  refine lv_if_ne (tgt := 15) hx hb dX4_tells_9 (by decide) (fun c_9 => ?_) (fun c_9 => ?_)
  · skip
    have c_9 := b2_n hr_1 c_9
    refine lv_aload_n hx hb dX4_tells_15 rfl (lv_at hl 0 rfl) ?_
    refine lv_iload_n hx hb dX4_tells_16 rfl (lv_at hl 1 rfl) ?_
    refine ro_calli (va_runV (As := [.int set]) (rest := []) ⟨hx, hb, hml, hown, hts⟩ (c_X4_areSquares l G m q (upd S 0 0) f set ) (cwV 1 hts gX4_tells_X4_areSquares rfl rfl rfl (by decide +kernel) ⟨Nat.le_of_ble_eq_true rfl, Nat.le_of_ble_eq_true rfl⟩) (ro_preV hK hP hP (ci := 4) (q0 := 0) rfl rfl) rfl rfl hl.1 rfl (lv_room (Nat.le_of_ble_eq_true rfl)) dX4_tells_17 ⟨Nat.zero_le _, Nat.zero_le _⟩) (fun r_2 hr_2 => ?_)
    refine lv_if_eq (tgt := 33) hx hb dX4_tells_20 (by decide) (fun c_20 => ?_) (fun c_20 => ?_)
    · skip
      have c_20 := b2_z hr_2 c_20
      exact Bool.noConfusion (hset.symm.trans c_20)
    · skip
      have c_20 := b2_n hr_2 c_20
      refine lv_iload_n hx hb dX4_tells_23 rfl (lv_at hl 2 rfl) ?_
      refine lv_i2l hx hb dX4_tells_24 rfl ?_
      refine lv_lconst (v := 0) hx hb dX4_tells_25 (by decide) ?_
      refine lv_lconst (v := 1) hx hb dX4_tells_26 (by decide) ?_
      refine ro_calli (va_runS (As := [.long what.toInt64, .long 0, .long 1]) (rest := []) ⟨hx, hb, hml, hown, hts⟩ (c_X4_in l G what.toInt64 0 1 ) (cwS 3 hts gX4_tells_X4_in rfl rfl rfl (by decide +kernel) ⟨Nat.le_of_ble_eq_true rfl, Nat.le_of_ble_eq_true rfl⟩) (ro_pre hK (fun k q h => by simp at h)) rfl rfl hl.1 rfl (lv_room (Nat.le_of_ble_eq_true rfl)) dX4_tells_27 ⟨Nat.zero_le _, Nat.zero_le _⟩) (fun r_3 hr_3 => ?_)
      refine lv_if_ne (tgt := 36) hx hb dX4_tells_30 (by decide) (fun c_30 => ?_) (fun c_30 => ?_)
      · skip
        have c_30 := b2_n hr_3 c_30
        refine lv_iconst (v := 0) hx hb dX4_tells_36 (by decide) ?_
        refine lv_istore_n (lv' := [(3, .int 0), (0, .ref m), (1, .int set), (2, .int what)]) hx hb dX4_tells_37 rfl hl (by decide) rfl (fun ls hl => ?_)
        refine lv_ldc hx hb hown hw4 dX4_tells_38 ?_
        refine lv_istore (lv' := [(4, .int (-1000000)), (3, .int 0), (0, .ref m), (1, .int set), (2, .int what)]) hx hb dX4_tells_40 hl (by decide) rfl (fun ls hl => ?_)
        refine lv_aload_n hx hb dX4_tells_42 rfl (lv_at hl 2 rfl) ?_
        refine lz_get (G := G) (ci := 4) (v := .ref (q 5)) (C := RX4) (T := TX4) (N := 24) hx hb hu_wsX40 (fun _ h9 => h9) hown hK hP 0 rfl rfl 5 (by decide) hw5 rfl rfl dX4_tells_43 ?_
        refine lv_iconst (v := 3) hx hb dX4_tells_46 (by decide) ?_
        refine lz_iald (f := f) hx hb hK hP 1 rfl 3 (by omega) (Nat.le_of_ble_eq_true rfl) dX4_tells_47 ?_
        refine lv_iconst (v := 1) hx hb dX4_tells_48 (by decide) ?_
        refine lv_isub hx hb dX4_tells_49 ?_
        refine lv_topi (fun x_4 ex_4 => ?_)
        refine lv_istore (lv' := [(5, .int x_4), (4, .int (-1000000)), (3, .int 0), (0, .ref m), (1, .int set), (2, .int what)]) hx hb dX4_tells_50 hl (by decide) rfl (fun ls hl => ?_)
        have J_52 : ∀ (n9 : Nat), ∀ (k : Nat), (k ≤ M) → M - k < n9 → ∀ (H : Heap) (locs : List Loc), va_P G.1 lzC (lzM m q (upd S 0 0) ++ lzI G (q 5) 64 f) H → va_D A (lzM m q (upd S 0 0) ++ lzI G (q 5) 64 f) → va_S A ss.heap H locs → ∀ ls : Array Slot, lv_has ls 8 [(3, .int ((tlsK f set N M k).1)), (4, .int ((tlsK f set N M k).2)), (5, .int (nI (M - k) - 1)), (0, .ref m), (1, .int set), (2, .int what)] → W pp l ee ({ frames := 4, cells := 0, slots := 0, locals := 91 }) ss mm ([.ref m, .int set, .int what] : List Value).toArray bl me cd H locs 0 0 (MQ bl (va_Qi (S := Unit) (fun (r : Int32) (_ : Unit) => r = if what = 0 then (tlsK f set N M M).1 else (tlsK f set N M M).2) (rwB G (fun _ : Unit => (lzM m q (upd S 0 0) ++ lzI G (q 5) 64 f))) A) ([.ref m, .int set, .int what] : List Value).toArray ss 0 0 A) (F0 mm 52 ls []) := by
          intro n9
          induction n9 with
          | zero => intro k hk hn; exact absurd hn (Nat.not_lt_zero _)
          | succ n9 ih_52 =>
            intro k hk hn_52 H locs hP hD hS ls hl
            refine lv_iload hx hb dX4_tells_52 (lv_at hl 2 rfl) ?_
            refine lv_if_lt (tgt := 144) hx hb dX4_tells_54 (by decide) (fun c_54 => ?_) (fun c_54 => ?_)
            · skip
              have c_54' := Int32.not_le.mpr c_54
              have hk2 : M ≤ k := dn_ge (by omega) c_54
              have hk3 : k = M := by omega
              refine lv_iload_n hx hb dX4_tells_144 rfl (lv_at hl 5 rfl) ?_
              refine lv_if_ne (tgt := 152) hx hb dX4_tells_145 (by decide) (fun c_145 => ?_) (fun c_145 => ?_)
              · skip
                refine lv_iload hx hb dX4_tells_152 (lv_at hl 1 rfl) ?_
                exact rw_iret (S := Unit) (G := G) (Wd := fun _ : Unit => (lzM m q (upd S 0 0) ++ lzI G (q 5) 64 f)) () hx hb hr hlk dX4_tells_154 hS (hP) (by rw [hk3]; first | rw [if_pos c_145] | rw [if_neg c_145])
              · skip
                refine lv_iload_n hx hb dX4_tells_148 rfl (lv_at hl 0 rfl) ?_
                refine lv_goto (tgt := 154) hx hb dX4_tells_149 (by decide) ?_
                exact rw_iret (S := Unit) (G := G) (Wd := fun _ : Unit => (lzM m q (upd S 0 0) ++ lzI G (q 5) 64 f)) () hx hb hr hlk dX4_tells_154 hS (hP) (by rw [hk3]; first | rw [if_pos c_145] | rw [if_neg c_145])
            · skip
              have c_54' := Int32.not_lt.mp c_54
              have hk2 : k < M := dn_lt hk (Int32.not_lt.mpr c_54')
              refine lv_aload_n hx hb dX4_tells_57 rfl (lv_at hl 3 rfl) ?_
              refine lz_get (G := G) (ci := 4) (v := .ref (q 5)) (C := RX4) (T := TX4) (N := 24) hx hb hu_wsX40 (fun _ h9 => h9) hown hK hP 0 rfl rfl 5 (by decide) hw5 rfl rfl dX4_tells_58 ?_
              refine lv_iconst (v := 3) hx hb dX4_tells_61 (by decide) ?_
              refine lz_iald (f := f) hx hb hK hP 1 rfl 3 (by omega) (Nat.le_of_ble_eq_true rfl) dX4_tells_62 ?_
              refine lv_iconst (v := 1) hx hb dX4_tells_63 (by decide) ?_
              refine lv_isub hx hb dX4_tells_64 ?_
              refine lz_top (y := nI (M - 1 - 0)) (by rw [hM]; exact dn_at (k := 0) (by omega)) ?_
              refine lv_topi (fun x_5 ex_5 => ?_)
              refine lv_istore (lv' := [(6, .int x_5), (3, .int ((tlsK f set N M k).1)), (4, .int ((tlsK f set N M k).2)), (5, .int (nI (M - k) - 1)), (0, .ref m), (1, .int set), (2, .int what)]) hx hb dX4_tells_65 hl (by decide) rfl (fun ls hl => ?_)
              have J_67 : ∀ (n9 : Nat), ∀ (d : Nat), (d ≤ k) → k - d < n9 → ∀ (H : Heap) (locs : List Loc), va_P G.1 lzC (lzM m q (upd S 0 0) ++ lzI G (q 5) 64 f) H → va_D A (lzM m q (upd S 0 0) ++ lzI G (q 5) 64 f) → va_S A ss.heap H locs → ∀ ls : Array Slot, lv_has ls 8 [(3, .int ((tlsJ f set N M (tlsK f set N M k) (M - 1 - k) d).1)), (4, .int ((tlsJ f set N M (tlsK f set N M k) (M - 1 - k) d).2)), (6, .int (nI (M - 1 - d))), (5, .int (nI (M - k) - 1)), (0, .ref m), (1, .int set), (2, .int what)] → W pp l ee ({ frames := 4, cells := 0, slots := 0, locals := 91 }) ss mm ([.ref m, .int set, .int what] : List Value).toArray bl me cd H locs 0 0 (MQ bl (va_Qi (S := Unit) (fun (r : Int32) (_ : Unit) => r = if what = 0 then (tlsK f set N M M).1 else (tlsK f set N M M).2) (rwB G (fun _ : Unit => (lzM m q (upd S 0 0) ++ lzI G (q 5) 64 f))) A) ([.ref m, .int set, .int what] : List Value).toArray ss 0 0 A) (F0 mm 67 ls []) := by
                intro n9
                induction n9 with
                | zero => intro d hd hn; exact absurd hn (Nat.not_lt_zero _)
                | succ n9 ih_67 =>
                  intro d hd hn_67 H locs hP hD hS ls hl
                  refine lv_iload hx hb dX4_tells_67 (lv_at hl 2 rfl) ?_
                  refine lv_iload hx hb dX4_tells_69 (lv_at hl 3 rfl) ?_
                  refine lz_top (y := nI (M - 1 - k)) (dn_at hk2) ?_
                  refine lv_icmp_le (tgt := 138) hx hb dX4_tells_71 (by decide) (fun c_71 => ?_) (fun c_71 => ?_)
                  · skip
                    have c_71' := Int32.not_lt.mpr c_71
                    have hd2 : k ≤ d := by have h9 := (nI_leI (by omega) (by omega)).mp c_71; omega
                    have hd3 : d = k := by omega
                    obtain ⟨x_6, ex_6⟩ : ∃ y : Int32, y = (nI (M - k) - 1) + (-1) := ⟨_, rfl⟩
                    refine lv_iinc (v := x_6) (lv' := [(5, .int x_6), (3, .int ((tlsJ f set N M (tlsK f set N M k) (M - 1 - k) d).1)), (4, .int ((tlsJ f set N M (tlsK f set N M k) (M - 1 - k) d).2)), (6, .int (nI (M - 1 - d))), (0, .ref m), (1, .int set), (2, .int what)]) hx hb dX4_tells_138 hl (k := 3) rfl (by rw [ex_6]; rfl) (by decide) rfl (fun ls hl => ?_)
                    refine lv_goto (tgt := 52) hx hb dX4_tells_141 (by decide) ?_
                    rw [show ((tlsJ f set N M (tlsK f set N M k) (M - 1 - k) d).1 : Int32) = (tlsK f set N M (k + 1)).1 from by rw [hd3]; rfl] at hl
                    rw [show ((tlsJ f set N M (tlsK f set N M k) (M - 1 - k) d).2 : Int32) = (tlsK f set N M (k + 1)).2 from by rw [hd3]; rfl] at hl
                    obtain rfl : x_6 = nI (M - (k + 1)) - 1 := by rw [ex_6, dn_at hk2]; exact dn5 hk2
                    exact ih_52 (k + 1) (by omega) (by omega) _ _ hP hD hS _ (lv_sub hl [1, 2, 0, 4, 5, 6] rfl)
                  · skip
                    have c_71' := Int32.not_le.mp c_71
                    have hd2 : d < k := by have h9 := mt (nI_leI (by omega) (by omega)).mpr c_71; omega
                    refine lv_aload_n hx hb dX4_tells_74 rfl (lv_at hl 4 rfl) ?_
                    refine lv_iload hx hb dX4_tells_75 (lv_at hl 3 rfl) ?_
                    refine lz_top (y := nI (M - 1 - k)) (dn_at hk2) ?_
                    refine ro_calli (va_runV (As := [.int (nI (M - 1 - k))]) (rest := []) ⟨hx, hb, hml, hown, hts⟩ (c_X4_clicksOf l G m q (upd S 0 0) f (M - 1 - k) N (by omega) (hN) (hN8)) (cwV 1 hts gX4_tells_X4_clicksOf rfl rfl rfl (by decide +kernel) ⟨Nat.le_of_ble_eq_true rfl, Nat.le_of_ble_eq_true rfl⟩) (ro_preV hK hP hP (ci := 4) (q0 := 0) rfl rfl) rfl rfl hl.1 rfl (lv_room (Nat.le_of_ble_eq_true rfl)) dX4_tells_77 ⟨Nat.zero_le _, Nat.zero_le _⟩) (fun r_7 hr_7 => ?_)
                    refine lz_top (y := bitsI (clkR f (M - 1 - k)) N) hr_7 ?_
                    refine lv_aload_n hx hb dX4_tells_80 rfl (lv_at hl 4 rfl) ?_
                    refine lv_iload hx hb dX4_tells_81 (lv_at hl 2 rfl) ?_
                    refine ro_calli (va_runV (As := [.int (nI (M - 1 - d))]) (rest := [.int (bitsI (clkR f (M - 1 - k)) N)]) ⟨hx, hb, hml, hown, hts⟩ (c_X4_clicksOf l G m q (upd S 0 0) f (M - 1 - d) N (by omega) (hN) (hN8)) (cwV 1 hts gX4_tells_X4_clicksOf rfl rfl rfl (by decide +kernel) ⟨Nat.le_of_ble_eq_true rfl, Nat.le_of_ble_eq_true rfl⟩) (ro_preV hK hP hP (ci := 4) (q0 := 0) rfl rfl) rfl rfl hl.1 rfl (lv_room (Nat.le_of_ble_eq_true rfl)) dX4_tells_83 ⟨Nat.zero_le _, Nat.zero_le _⟩) (fun r_8 hr_8 => ?_)
                    refine lz_top (y := bitsI (clkR f (M - 1 - d)) N) hr_8 ?_
                    refine lv_ixor hx hb dX4_tells_86 ?_
                    refine lv_iload_n hx hb dX4_tells_87 rfl (lv_at hl 5 rfl) ?_
                    refine lv_iand hx hb dX4_tells_88 ?_
                    refine lv_if_ne (tgt := 96) hx hb dX4_tells_89 (by decide) (fun c_89 => ?_) (fun c_89 => ?_)
                    · skip
                      refine lv_iconst (v := 0) hx hb dX4_tells_96 (by decide) ?_
                      refine lv_istore (lv' := [(7, .int 0), (3, .int ((tlsJ f set N M (tlsK f set N M k) (M - 1 - k) d).1)), (4, .int ((tlsJ f set N M (tlsK f set N M k) (M - 1 - k) d).2)), (6, .int (nI (M - 1 - d))), (5, .int (nI (M - k) - 1)), (0, .ref m), (1, .int set), (2, .int what)]) hx hb dX4_tells_97 hl (by decide) rfl (fun ls hl => ?_)
                      refine lv_iload_n hx hb dX4_tells_99 rfl (lv_at hl 1 rfl) ?_
                      refine lv_iload hx hb dX4_tells_100 (lv_at hl 0 rfl) ?_
                      refine lv_if_eq (tgt := 109) hx hb dX4_tells_102 (by decide) (fun c_102 => ?_) (fun c_102 => ?_)
                      · skip
                        refine lv_iconst (v := 1) hx hb dX4_tells_109 (by decide) ?_
                        refine lv_iadd hx hb dX4_tells_110 ?_
                        refine lv_topi (fun x_9 ex_9 => ?_)
                        refine lv_istore_n (lv' := [(3, .int x_9), (7, .int 0), (4, .int ((tlsJ f set N M (tlsK f set N M k) (M - 1 - k) d).2)), (6, .int (nI (M - 1 - d))), (5, .int (nI (M - k) - 1)), (0, .ref m), (1, .int set), (2, .int what)]) hx hb dX4_tells_111 rfl hl (by decide) rfl (fun ls hl => ?_)
                        refine lv_iload hx hb dX4_tells_112 (lv_at hl 1 rfl) ?_
                        refine lv_if_eq (tgt := 128) hx hb dX4_tells_114 (by decide) (fun c_114 => ?_) (fun c_114 => ?_)
                        · skip
                          refine lv_iload hx hb dX4_tells_128 (lv_at hl 2 rfl) ?_
                          refine lv_topi (fun x_10 ex_10 => ?_)
                          refine lv_istore (lv' := [(4, .int x_10), (3, .int x_9), (7, .int 0), (6, .int (nI (M - 1 - d))), (5, .int (nI (M - k) - 1)), (0, .ref m), (1, .int set), (2, .int what)]) hx hb dX4_tells_130 hl (by decide) rfl (fun ls hl => ?_)
                          obtain ⟨x_11, ex_11⟩ : ∃ y : Int32, y = (nI (M - 1 - d)) + (-1) := ⟨_, rfl⟩
                          refine lv_iinc (v := x_11) (lv' := [(6, .int x_11), (4, .int x_10), (3, .int x_9), (7, .int 0), (5, .int (nI (M - k) - 1)), (0, .ref m), (1, .int set), (2, .int what)]) hx hb dX4_tells_132 hl (k := 3) rfl (by rw [ex_11]; rfl) (by decide) rfl (fun ls hl => ?_)
                          refine lv_goto (tgt := 67) hx hb dX4_tells_135 (by decide) ?_
                          obtain rfl : x_9 = (tlsJ f set N M (tlsK f set N M k) (M - 1 - k) (d + 1)).1 := by rw [ex_9]; simp [tlsJ, alkM, c_9, c_20, c_30, c_54, c_54', c_71, c_71', c_89]
                          obtain rfl : x_10 = (tlsJ f set N M (tlsK f set N M k) (M - 1 - k) (d + 1)).2 := by rw [ex_10]; simp [tlsJ, alkM, c_9, c_20, c_30, c_54, c_54', c_71, c_71', c_89]
                          obtain rfl : x_11 = nI (M - 1 - (d + 1)) := by rw [ex_11]; exact dn6 hd2 hk2
                          exact ih_67 (d + 1) (by omega) (by omega) _ _ hP hD hS _ (lv_sub hl [2, 1, 0, 4, 5, 6, 7] rfl)
                        · skip
                          exact False.elim (by revert c_114; decide)
                      · skip
                        exact False.elim (by revert c_102; decide)
                    · skip
                      refine lv_iconst (v := 1) hx hb dX4_tells_92 (by decide) ?_
                      refine lv_goto (tgt := 97) hx hb dX4_tells_93 (by decide) ?_
                      refine lv_istore (lv' := [(7, .int 1), (3, .int ((tlsJ f set N M (tlsK f set N M k) (M - 1 - k) d).1)), (4, .int ((tlsJ f set N M (tlsK f set N M k) (M - 1 - k) d).2)), (6, .int (nI (M - 1 - d))), (5, .int (nI (M - k) - 1)), (0, .ref m), (1, .int set), (2, .int what)]) hx hb dX4_tells_97 hl (by decide) rfl (fun ls hl => ?_)
                      refine lv_iload_n hx hb dX4_tells_99 rfl (lv_at hl 1 rfl) ?_
                      refine lv_iload hx hb dX4_tells_100 (lv_at hl 0 rfl) ?_
                      refine lv_if_eq (tgt := 109) hx hb dX4_tells_102 (by decide) (fun c_102 => ?_) (fun c_102 => ?_)
                      · skip
                        exact False.elim (by revert c_102; decide)
                      · skip
                        refine lv_iconst (v := 0) hx hb dX4_tells_105 (by decide) ?_
                        refine lv_goto (tgt := 110) hx hb dX4_tells_106 (by decide) ?_
                        refine lv_iadd hx hb dX4_tells_110 ?_
                        refine lv_topi (fun x_12 ex_12 => ?_)
                        refine lv_istore_n (lv' := [(3, .int x_12), (7, .int 1), (4, .int ((tlsJ f set N M (tlsK f set N M k) (M - 1 - k) d).2)), (6, .int (nI (M - 1 - d))), (5, .int (nI (M - k) - 1)), (0, .ref m), (1, .int set), (2, .int what)]) hx hb dX4_tells_111 rfl hl (by decide) rfl (fun ls hl => ?_)
                        refine lv_iload hx hb dX4_tells_112 (lv_at hl 1 rfl) ?_
                        refine lv_if_eq (tgt := 128) hx hb dX4_tells_114 (by decide) (fun c_114 => ?_) (fun c_114 => ?_)
                        · skip
                          exact False.elim (by revert c_114; decide)
                        · skip
                          refine lv_bipush (v := 10) hx hb dX4_tells_117 (by decide) ?_
                          refine lv_iload hx hb dX4_tells_119 (lv_at hl 4 rfl) ?_
                          refine lz_top (y := nI (M - 1 - k)) (dn_at hk2) ?_
                          refine lv_imul hx hb dX4_tells_121 ?_
                          refine lv_iload hx hb dX4_tells_122 (lv_at hl 3 rfl) ?_
                          refine lv_iadd hx hb dX4_tells_124 ?_
                          refine lz_top (y := nI (10 * (M - 1 - k) + (M - 1 - d))) (by simp only [fa_lit, pk_mul, nI_add]) ?_
                          refine lv_goto (tgt := 130) hx hb dX4_tells_125 (by decide) ?_
                          refine lv_topi (fun x_13 ex_13 => ?_)
                          refine lv_istore (lv' := [(4, .int x_13), (3, .int x_12), (7, .int 1), (6, .int (nI (M - 1 - d))), (5, .int (nI (M - k) - 1)), (0, .ref m), (1, .int set), (2, .int what)]) hx hb dX4_tells_130 hl (by decide) rfl (fun ls hl => ?_)
                          obtain ⟨x_14, ex_14⟩ : ∃ y : Int32, y = (nI (M - 1 - d)) + (-1) := ⟨_, rfl⟩
                          refine lv_iinc (v := x_14) (lv' := [(6, .int x_14), (4, .int x_13), (3, .int x_12), (7, .int 1), (5, .int (nI (M - k) - 1)), (0, .ref m), (1, .int set), (2, .int what)]) hx hb dX4_tells_132 hl (k := 3) rfl (by rw [ex_14]; rfl) (by decide) rfl (fun ls hl => ?_)
                          refine lv_goto (tgt := 67) hx hb dX4_tells_135 (by decide) ?_
                          obtain rfl : x_12 = (tlsJ f set N M (tlsK f set N M k) (M - 1 - k) (d + 1)).1 := by rw [ex_12]; simp [tlsJ, alkM, c_9, c_20, c_30, c_54, c_54', c_71, c_71', c_89]
                          obtain rfl : x_13 = (tlsJ f set N M (tlsK f set N M k) (M - 1 - k) (d + 1)).2 := by rw [ex_13]; simp [tlsJ, alkM, c_9, c_20, c_30, c_54, c_54', c_71, c_71', c_89]
                          obtain rfl : x_14 = nI (M - 1 - (d + 1)) := by rw [ex_14]; exact dn6 hd2 hk2
                          exact ih_67 (d + 1) (by omega) (by omega) _ _ hP hD hS _ (lv_sub hl [2, 1, 0, 4, 5, 6, 7] rfl)
              rw [show ((tlsK f set N M k).1 : Int32) = (tlsJ f set N M (tlsK f set N M k) (M - 1 - k) 0).1 from rfl] at hl
              rw [show ((tlsK f set N M k).2 : Int32) = (tlsJ f set N M (tlsK f set N M k) (M - 1 - k) 0).2 from rfl] at hl
              obtain rfl : x_5 = nI (M - 1 - 0) := ex_5
              exact J_67 _ 0 (by omega) (Nat.lt_succ_self _) _ _ hP hD hS _ (lv_sub hl [1, 2, 0, 3, 4, 5, 6] rfl)
        obtain rfl : x_4 = nI (M - 0) - 1 := by rw [ex_4, hM]; rfl
        exact J_52 _ 0 (by omega) (Nat.lt_succ_self _) _ _ hP hD hS _ (lv_sub hl [2, 1, 0, 3, 4, 5] rfl)
      · skip
        have c_30 := b2_z hr_3 c_30
        exact Bool.noConfusion (hwL.symm.trans c_30)
  · skip
    have c_9 := b2_z hr_1 c_9
    exact Bool.noConfusion (hR.symm.trans c_9)
