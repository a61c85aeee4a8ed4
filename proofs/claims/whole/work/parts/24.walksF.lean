set_option maxHeartbeats 4000000 in
set_option maxRecDepth 100000 in
theorem c_X2_add (l : Launch) (G : lzG) (u : Nat) (q : Nat → Nat) (S : Nat → Int32) (tb : Nat → Int32) (L : Nat) (c : Int32) (hL : S 1 = nI L) (hL1 : L ≤ 120) : Met l yX2_add wsX2_add ({ frames := 0, cells := 0, slots := 0, locals := 0 }) (va_Pc [.ref u, .int c] (rwP G (lzTp u q S ++ lzI G (q 0) 120 tb))) (va_Qi (S := Unit) (fun (r : Int32) (_ : Unit) => r = b2 (decide (L < 120))) (rwB G (fun _ : Unit => (lzTp u q (upd S 1 (if L < 120 then nI (L + 1) else S 1)) ++ lzI G (q 0) 120 (if L < 120 then upd tb L c else tb)))) (lzA (lzTp u q S ++ lzI G (q 0) 120 tb))) 0 0 (lzA (lzTp u q S ++ lzI G (q 0) 120 tb)) := by
  refine rw_start (S := Unit) (cc := cX2_add) (maxL := 2) (ret := (some .boolean)) (by decide) rfl (Nat.le_of_ble_eq_true rfl) ?_
  intro pp ee ss mm bl me cd A hx hb hr hlk hml hts hown hP hK hD hAe hS ls hl
  have hA0 : ∀ zz : Nat, lzA (lzTp u q S ++ lzI G (q 0) 120 tb) zz → A zz := fun zz h9 => by rw [hAe]; exact h9
  rw [← hAe]
  clear hAe
  have hown : ss.vm.findClass RX2 = some mm.cls := hown
  have hw1 := hts (.fieldLink RX2 15 "LampSquares$Tape" "length" "I") (List.mem_of_getElem? (i := 1) rfl)
  have hw2 := hts (.fieldLink RX2 9 "LampSquares$Tape" "bytes" "[I") (List.mem_of_getElem? (i := 2) rfl)
  have hu_wsX20 : ∀ w ∈ wsX20, w.before ([.ref u, .int c] : List Value).toArray ss = true := fun w h9 => hts w (List.mem_cons_of_mem _ (List.mem_append_right _ h9))
  have hl : lv_has ls 2 [(0, .ref u), (1, .int c)] := hl
  refine lv_aload_n hx hb dX2_add_0 rfl (lv_at hl 0 rfl) ?_
  refine lz_get (G := G) (ci := 2) (v := .int (S 1)) (C := RX2) (T := TX2) (N := 4) hx hb hu_wsX20 (fun _ h9 => h9) hown hK hP 0 rfl rfl 1 (by decide) hw1 rfl rfl dX2_add_1 ?_
  refine lv_bipush (v := 120) hx hb dX2_add_4 (by decide) ?_
  refine lv_icmp_lt (tgt := 11) hx hb dX2_add_6 (by decide) (fun c_6 => ?_) (fun c_6 => ?_)
  · skip
    have c_6' := Int32.not_le.mpr c_6
    have hk : L < 120 := (nI_ltI (b := 120) (by omega) (by omega)).mp (hL ▸ c_6)
    refine lv_aload_n hx hb dX2_add_11 rfl (lv_at hl 0 rfl) ?_
    refine lz_get (G := G) (ci := 2) (v := .ref (q 0)) (C := RX2) (T := TX2) (N := 4) hx hb hu_wsX20 (fun _ h9 => h9) hown hK hP 0 rfl rfl 0 (by decide) hw2 rfl rfl dX2_add_12 ?_
    refine lv_aload_n hx hb dX2_add_15 rfl (lv_at hl 0 rfl) ?_
    refine lz_get (G := G) (ci := 2) (v := .int (S 1)) (C := RX2) (T := TX2) (N := 4) hx hb hu_wsX20 (fun _ h9 => h9) hown hK hP 0 rfl rfl 1 (by decide) hw1 rfl rfl dX2_add_16 ?_
    refine lz_top (y := nI L) (hL) ?_
    refine lv_iload_n hx hb dX2_add_19 rfl (lv_at hl 1 rfl) ?_
    refine lz_iast (f := tb) hx hb hK hP hD hS 1 rfl L (by omega) (Nat.le_of_ble_eq_true rfl) dX2_add_20 (lzTp u q S ++ lzI G (q 0) 120 (upd tb L c)) rfl (fun H locs hP hD hS => ?_)
    refine lv_aload_n hx hb dX2_add_21 rfl (lv_at hl 0 rfl) ?_
    refine lv_dup hx hb dX2_add_22 rfl ?_
    refine lz_get (G := G) (ci := 2) (v := .int (S 1)) (C := RX2) (T := TX2) (N := 4) hx hb hu_wsX20 (fun _ h9 => h9) hown hK hP 0 rfl rfl 1 (by decide) hw1 rfl rfl dX2_add_23 ?_
    refine lv_iconst (v := 1) hx hb dX2_add_26 (by decide) ?_
    refine lv_iadd hx hb dX2_add_27 ?_
    refine lz_top (y := nI (L + 1)) (by rw [hL]; exact nI_1 L) ?_
    refine lz_put (G := G) (ci := 2) (C := RX2) (T := TX2) (N := 4) hx hb hu_wsX20 (fun _ h9 => h9) tyX2 tyX2_ok nmX2 hown hK hP hD hS 0 rfl rfl 1 (by decide) hw1 rfl rfl (by decide +kernel) (Nat.le_of_ble_eq_true rfl) dX2_add_28 (lzTp u q (upd S 1 (nI (L + 1))) ++ lzI G (q 0) 120 (upd tb L c)) rfl (fun H locs hP hD hS => ?_)
    refine lv_iconst (v := 1) hx hb dX2_add_31 (by decide) ?_
    exact rw_zret (S := Unit) (G := G) (Wd := fun _ : Unit => (lzTp u q (upd S 1 (if L < 120 then nI (L + 1) else S 1)) ++ lzI G (q 0) 120 (if L < 120 then upd tb L c else tb))) (B := decide (L < 120)) () hx hb hr hlk dX2_add_32 hS (by show va_P G.1 lzC (lzTp u q (upd S 1 (if L < 120 then nI (L + 1) else S 1)) ++ lzI G (q 0) 120 (if L < 120 then upd tb L c else tb)) H; rw [if_pos hk, if_pos hk]; exact hP) (by simp [hk, b2]) (rfl)
  · skip
    have c_6' := Int32.not_lt.mp c_6
    have hk : ¬ L < 120 := fun h9 => c_6 (by rw [hL]; exact (nI_ltI (b := 120) (by omega) (by omega)).mpr h9)
    refine lv_iconst (v := 0) hx hb dX2_add_9 (by decide) ?_
    exact rw_zret (S := Unit) (G := G) (Wd := fun _ : Unit => (lzTp u q (upd S 1 (if L < 120 then nI (L + 1) else S 1)) ++ lzI G (q 0) 120 (if L < 120 then upd tb L c else tb))) (B := decide (L < 120)) () hx hb hr hlk dX2_add_10 hS (by show va_P G.1 lzC (lzTp u q (upd S 1 (if L < 120 then nI (L + 1) else S 1)) ++ lzI G (q 0) 120 (if L < 120 then upd tb L c else tb)) ss.heap; rw [if_neg hk, if_neg hk]; exact hP) (by simp [hk, b2]) (rfl)
set_option maxHeartbeats 4000000 in
set_option maxRecDepth 100000 in
theorem c_X2_fail (l : Launch) (G : lzG) (u : Nat) (q : Nat → Nat) (S : Nat → Int32) (k : Int32)  : Met l yX2_fail wsX2_fail ({ frames := 0, cells := 0, slots := 0, locals := 0 }) (va_Pc [.ref u, .int k] (rwP G (lzTp u q S))) (va_Qv (S := Unit) (fun _ : Unit => True) (rwB G (fun _ : Unit => lzTp u q (upd S 3 (failI (S 3) k)))) (lzA (lzTp u q S))) 0 0 (lzA (lzTp u q S)) := by
  refine rw_start (S := Unit) (cc := cX2_fail) (maxL := 2) (ret := none) (by decide) rfl (Nat.le_of_ble_eq_true rfl) ?_
  intro pp ee ss mm bl me cd A hx hb hr hlk hml hts hown hP hK hD hAe hS ls hl
  have hA0 : ∀ zz : Nat, lzA (lzTp u q S) zz → A zz := fun zz h9 => by rw [hAe]; exact h9
  rw [← hAe]
  clear hAe
  have hown : ss.vm.findClass RX2 = some mm.cls := hown
  have hw1 := hts (.fieldLink RX2 22 "LampSquares$Tape" "fault" "I") (List.mem_of_getElem? (i := 1) rfl)
  have hu_wsX20 : ∀ w ∈ wsX20, w.before ([.ref u, .int k] : List Value).toArray ss = true := fun w h9 => hts w (List.mem_cons_of_mem _ (List.mem_append_right _ h9))
  have hl : lv_has ls 2 [(0, .ref u), (1, .int k)] := hl
  refine lv_aload_n hx hb dX2_fail_0 rfl (lv_at hl 0 rfl) ?_
  refine lz_get (G := G) (ci := 2) (v := .int (S 3)) (C := RX2) (T := TX2) (N := 4) hx hb hu_wsX20 (fun _ h9 => h9) hown hK hP 0 rfl rfl 3 (by decide) hw1 rfl rfl dX2_fail_1 ?_
  refine lv_if_ne (tgt := 12) hx hb dX2_fail_4 (by decide) (fun c_4 => ?_) (fun c_4 => ?_)
  · skip
    exact rw_vret (S := Unit) (G := G) (Wd := fun _ : Unit => lzTp u q (upd S 3 (failI (S 3) k))) () hx hb hr hlk dX2_fail_12 hS (by show va_P G.1 lzC (lzTp u q (upd S 3 (failI (S 3) k))) _; unfold failI; first | (rw [if_pos c_4]; exact hP) | (rw [if_neg c_4]; exact hP)) (trivial)
  · skip
    refine lv_aload_n hx hb dX2_fail_7 rfl (lv_at hl 0 rfl) ?_
    refine lv_iload_n hx hb dX2_fail_8 rfl (lv_at hl 1 rfl) ?_
    refine lz_put (G := G) (ci := 2) (C := RX2) (T := TX2) (N := 4) hx hb hu_wsX20 (fun _ h9 => h9) tyX2 tyX2_ok nmX2 hown hK hP hD hS 0 rfl rfl 3 (by decide) hw1 rfl rfl (by decide +kernel) (Nat.le_of_ble_eq_true rfl) dX2_fail_9 (lzTp u q (upd S 3 k)) rfl (fun H locs hP hD hS => ?_)
    exact rw_vret (S := Unit) (G := G) (Wd := fun _ : Unit => lzTp u q (upd S 3 (failI (S 3) k))) () hx hb hr hlk dX2_fail_12 hS (by show va_P G.1 lzC (lzTp u q (upd S 3 (failI (S 3) k))) _; unfold failI; first | (rw [if_pos c_4]; exact hP) | (rw [if_neg c_4]; exact hP)) (trivial)
set_option maxHeartbeats 4000000 in
set_option maxRecDepth 100000 in
theorem c_X2_byteAt (l : Launch) (G : lzG) (u : Nat) (q : Nat → Nat) (S : Nat → Int32) (tb : Nat → Int32) (L : Nat) (p : Nat) (hL : S 1 = nI L) (hL1 : L ≤ 120) (hp : p < 1000) : Met l yX2_byteAt wsX2_byteAt ({ frames := 1, cells := 0, slots := 0, locals := 22 }) (va_Pc [.ref u, .int (nI p)] (roP G (lzTp u q S ++ lzI G (q 0) 120 tb))) (vp_Si (fun r => r = byI tb L p)) 0 0 (fun _ => False) := by
  refine ro_start (cc := cX2_byteAt) (maxL := 2) (ret := (some .int)) (by decide) rfl (Nat.le_of_ble_eq_true rfl) ?_
  intro pp ee ss mm bl me cd hx hb hr hlk hml hts hown hP hK ls hl
  have hown : ss.vm.findClass RX2 = some mm.cls := hown
  have hw1 := hts (.fieldLink RX2 15 "LampSquares$Tape" "length" "I") (List.mem_of_getElem? (i := 1) rfl)
  have hw2 := hts (.fieldLink RX2 9 "LampSquares$Tape" "bytes" "[I") (List.mem_of_getElem? (i := 2) rfl)
  have hw3 := hts (.constant RX2 80 (-1000000)) (List.mem_of_getElem? (i := 3) rfl)
  have hw4 := hts (.static yX3_isIn) (List.mem_of_getElem? (i := 4) rfl)
  have hw5 := hts (.initialized RX3) (List.mem_of_getElem? (i := 5) rfl)
  have hu_wsX20 : ∀ w ∈ wsX20, w.before ([.ref u, .int (nI p)] : List Value).toArray ss = true := fun w h9 => hts w (List.mem_cons_of_mem _ (List.mem_append_right _ h9))
  have hl : lv_has ls 2 [(0, .ref u), (1, .int (nI p))] := hl
  refine lv_iload_n hx hb dX2_byteAt_0 rfl (lv_at hl 1 rfl) ?_
  refine lv_iconst (v := 0) hx hb dX2_byteAt_1 (by decide) ?_
  refine lv_aload_n hx hb dX2_byteAt_2 rfl (lv_at hl 0 rfl) ?_
  refine lz_get (G := G) (ci := 2) (v := .int (S 1)) (C := RX2) (T := TX2) (N := 4) hx hb hu_wsX20 (fun _ h9 => h9) hown hK hP 0 rfl rfl 1 (by decide) hw1 rfl rfl dX2_byteAt_3 ?_
  refine lv_iconst (v := 1) hx hb dX2_byteAt_6 (by decide) ?_
  refine lv_isub hx hb dX2_byteAt_7 ?_
  refine ro_calli (va_runSN (As := [.int (nI p), .int 0, .int ((S 1) - 1)]) (rest := []) ⟨hx, hb, hml, hown, hts⟩ (c_X3_isIn l G (nI p) 0 ((S 1) - 1) ) (⟨va_cnB (host := RX3) 3 hts gX2_byteAt_X3_isIn_n76 rfl rfl rfl (hK.2 _ (List.mem_of_getElem? (i := 3) rfl)) hw5 (by decide +kernel) ⟨Nat.le_of_ble_eq_true rfl, Nat.le_of_ble_eq_true rfl⟩, hw4, trivial⟩) (ro_pre hK (fun k q h => by simp at h)) rfl rfl hl.1 rfl (lv_room (Nat.le_of_ble_eq_true rfl)) dX2_byteAt_8 ⟨Nat.zero_le _, Nat.zero_le _⟩) (fun r_1 hr_1 => ?_)
  refine lv_if_eq (tgt := 23) hx hb dX2_byteAt_11 (by decide) (fun c_11 => ?_) (fun c_11 => ?_)
  · skip
    have c_11 := b2_z hr_1 c_11
    have hk : ¬ p < L := by { rw [hL, inR_pos (by omega) (by omega)] at c_11; exact of_decide_eq_false c_11 }
    refine lv_ldc hx hb hown hw3 dX2_byteAt_23 ?_
    exact ro_iret hx hb hr hlk dX2_byteAt_25 (by unfold byI; first | rw [if_pos hk] | rw [if_neg hk])
  · skip
    have c_11 := b2_n hr_1 c_11
    have hk : p < L := by { rw [hL, inR_pos (by omega) (by omega)] at c_11; exact of_decide_eq_true c_11 }
    refine lv_aload_n hx hb dX2_byteAt_14 rfl (lv_at hl 0 rfl) ?_
    refine lz_get (G := G) (ci := 2) (v := .ref (q 0)) (C := RX2) (T := TX2) (N := 4) hx hb hu_wsX20 (fun _ h9 => h9) hown hK hP 0 rfl rfl 0 (by decide) hw2 rfl rfl dX2_byteAt_15 ?_
    refine lv_iload_n hx hb dX2_byteAt_18 rfl (lv_at hl 1 rfl) ?_
    refine lz_iald (f := tb) hx hb hK hP 1 rfl p (by omega) (Nat.le_of_ble_eq_true rfl) dX2_byteAt_19 ?_
    refine lv_goto (tgt := 25) hx hb dX2_byteAt_20 (by decide) ?_
    exact ro_iret hx hb hr hlk dX2_byteAt_25 (by unfold byI; first | rw [if_pos hk] | rw [if_neg hk])
