set_option maxHeartbeats 4000000 in
set_option maxRecDepth 100000 in
theorem c_X2_add (l : Launch) (G : lzG) (u : Nat) (q : Nat → Nat) (S : Nat → Int32) (tb : Nat → Int32) (L : Nat) (c : Int32) (hL : S 1 = nI L) (hL1 : L ≤ 120) : Met l yX2_add wsX2_add ({ frames := 0, cells := 0, slots := 0, locals := 0 }) (va_Pc [.ref u, .int c] (rwP G (lzTp u q S ++ lzI G (q 0) 120 tb))) (va_Qi (S := Unit) (fun (r : Int32) (_ : Unit) => r = b2 (decide (L < 120))) (rwB G (fun _ : Unit => (lzTp u q (upd S 1 (if L < 120 then nI (L + 1) else S 1)) ++ lzI G (q 0) 120 (if L < 120 then upd tb L c else tb)))) (lzA (lzTp u q S ++ lzI G (q 0) 120 tb))) 0 0 (lzA (lzTp u q S ++ lzI G (q 0) 120 tb)) := by
  refine rw_start (S := Unit) (cc := cX2_add) (maxL := 2) (ret := (some .boolean)) (by decide) rfl (Nat.le_of_ble_eq_true rfl) ?_
  intro pp ee ss mm bl me cd A hx hb hr hlk hml hts hown hP hK hD hAe hS ls hl
  have hA0 : ∀ zz : Nat, lzA (lzTp u q S ++ lzI G (q 0) 120 tb) zz → A zz := fun zz h9 => by rw [hAe]; exact h9
  rw [← hAe]
  clear hAe
  have hown : ss.vm.findClass RX2 = some mm.cls := hown
  have hw1 := hts (.fieldLink RX2 15 "LampSquares$Tape" "length" "I") (List.mem_of_getElem? (i := 1) rfl)
  have hw2 := hts (.fieldLink RX2 9 "LampSquares$Tape" "bytes" "[I") (List.mem_of_getElem? (i := 2) rfl)
  have hu_wsX20 : ∀ w ∈ wsX20, w.before ([.ref u, .int c] : List Value).toArray ss = true := fun w h9 => hts w (List.mem_cons_of_mem _ (List.mem_append_right _ h9))
  have hl : lv_has ls 2 [(0, .ref u), (1, .int c)] := hl
  refine lv_aload_n hx hb dX2_add_0 rfl (lv_at hl 0 rfl) ?_
  refine lz_get (G := G) (ci := 2) (v := .int (S 1)) (C := RX2) (T := TX2) (N := 4) hx hb hu_wsX20 (fun _ h9 => h9) hown hK hP 0 rfl rfl 1 (by decide) hw1 rfl rfl dX2_add_1 ?_
  refine lv_bipush (v := 120) hx hb dX2_add_4 (by decide) ?_
  refine lv_icmp_lt (tgt := 11) hx hb dX2_add_6 (by decide) (fun c_6 => ?_) (fun c_6 => ?_)
  · skip
    have c_6' := Int32.not_le.mpr c_6
    have hk : L < 120 := (nI_ltI (b := 120) (by omega) (by omega)).mp (hL ▸ c_6)
    refine lv_aload_n hx hb dX2_add_11 rfl (lv_at hl 0 rfl) ?_
    refine lz_get (G := G) (ci := 2) (v := .ref (q 0)) (C := RX2) (T := TX2) (N := 4) hx hb hu_wsX20 (fun _ h9 => h9) hown hK hP 0 rfl rfl 0 (by decide) hw2 rfl rfl dX2_add_12 ?_
    refine lv_aload_n hx hb dX2_add_15 rfl (lv_at hl 0 rfl) ?_
    refine lz_get (G := G) (ci := 2) (v := .int (S 1)) (C := RX2) (T := TX2) (N := 4) hx hb hu_wsX20 (fun _ h9 => h9) hown hK hP 0 rfl rfl 1 (by decide) hw1 rfl rfl dX2_add_16 ?_
    refine lz_top (y := nI L) (hL) ?_
    refine lv_iload_n hx hb dX2_add_19 rfl (lv_at hl 1 rfl) ?_
    refine lz_iast (f := tb) hx hb hK hP hD hS 1 rfl L (by omega) (Nat.le_of_ble_eq_true rfl) dX2_add_20 (lzTp u q S ++ lzI G (q 0) 120 (upd tb L c)) rfl (fun H locs hP hD hS => ?_)
    refine lv_aload_n hx hb dX2_add_21 rfl (lv_at hl 0 rfl) ?_
    refine lv_dup hx hb dX2_add_22 rfl ?_
    refine lz_get (G := G) (ci := 2) (v := .int (S 1)) (C := RX2) (T := TX2) (N := 4) hx hb hu_wsX20 (fun _ h9 => h9) hown hK hP 0 rfl rfl 1 (by decide) hw1 rfl rfl dX2_add_23 ?_
    refine lv_iconst (v := 1) hx hb dX2_add_26 (by decide) ?_
    refine lv_iadd hx hb dX2_add_27 ?_
    refine lz_top (y := nI (L + 1)) (by rw [hL]; exact nI_1 L) ?_
    refine lz_put (G := G) (ci := 2) (C := RX2) (T := TX2) (N := 4) hx hb hu_wsX20 (fun _ h9 => h9) tyX2 tyX2_ok nmX2 hown hK hP hD hS 0 rfl rfl 1 (by decide) hw1 rfl rfl (by decide +kernel) (Nat.le_of_ble_eq_true rfl) dX2_add_28 (lzTp u q (upd S 1 (nI (L + 1))) ++ lzI G (q 0) 120 (upd tb L c)) rfl (fun H locs hP hD hS => ?_)
    refine lv_iconst (v := 1) hx hb dX2_add_31 (by decide) ?_
    exact rw_zret (S := Unit) (G := G) (Wd := fun _ : Unit => (lzTp u q (upd S 1 (if L < 120 then nI (L + 1) else S 1)) ++ lzI G (q 0) 120 (if L < 120 then upd tb L c else tb))) (B := decide (L < 120)) () hx hb hr hlk dX2_add_32 hS (by show va_P G.1 lzC (lzTp u q (upd S 1 (if L < 120 then nI (L + 1) else S 1)) ++ lzI G (q 0) 120 (if L < 120 then upd tb L c else tb)) H; rw [if_pos hk, if_pos hk]; exact hP) (by simp [hk, b2]) (rfl)
  · skip
    have c_6' := Int32.not_lt.mp c_6
    have hk : ¬ L < 120 := fun h9 => c_6 (by rw [hL]; exact (nI_ltI (b := 120) (by omega) (by omega)).mpr h9)
    refine lv_iconst (v := 0) hx hb dX2_add_9 (by decide) ?_
    exact rw_zret (S := Unit) (G := G) (Wd := fun _ : Unit => (lzTp u q (upd S 1 (if L < 120 then nI (L + 1) else S 1)) ++ lzI G (q 0) 120 (if L < 120 then upd tb L c else tb))) (B := decide (L < 120)) () hx hb hr hlk dX2_add_10 hS (by show va_P G.1 lzC (lzTp u q (upd S 1 (if L < 120 then nI (L + 1) else S 1)) ++ lzI G (q 0) 120 (if L < 120 then upd tb L c else tb)) ss.heap; rw [if_neg hk, if_neg hk]; exact hP) (by simp [hk, b2]) (rfl)
set_option maxHeartbeats 4000000 in
set_option maxRecDepth 100000 in
theorem c_X2_fail (l : Launch) (G : lzG) (u : Nat) (q : Nat → Nat) (S : Nat → Int32) (k : Int32)  : Met l yX2_fail wsX2_fail ({ frames := 0, cells := 0, slots := 0, locals := 0 }) (va_Pc [.ref u, .int k] (rwP G (lzTp u q S))) (va_Qv (S := Unit) (fun _ : Unit => True) (rwB G (fun _ : Unit => lzTp u q (upd S 3 (failI (S 3) k)))) (lzA (lzTp u q S))) 0 0 (lzA (lzTp u q S)) := by
  refine rw_start (S := Unit) (cc := cX2_fail) (maxL := 2) (ret := none) (by decide) rfl (Nat.le_of_ble_eq_true rfl) ?_
  intro pp ee ss mm bl me cd A hx hb hr hlk hml hts hown hP hK hD hAe hS ls hl
  have hA0 : ∀ zz : Nat, lzA (lzTp u q S) zz → A zz := fun zz h9 => by rw [hAe]; exact h9
  rw [← hAe]
  clear hAe
  have hown : ss.vm.findClass RX2 = some mm.cls := hown
  have hw1 := hts (.fieldLink RX2 22 "LampSquares$Tape" "fault" "I") (List.mem_of_getElem? (i := 1) rfl)
  have hu_wsX20 : ∀ w ∈ wsX20, w.before ([.ref u, .int k] : List Value).toArray ss = true := fun w h9 => hts w (List.mem_cons_of_mem _ (List.mem_append_right _ h9))
  have hl : lv_has ls 2 [(0, .ref u), (1, .int k)] := hl
  refine lv_aload_n hx hb dX2_fail_0 rfl (lv_at hl 0 rfl) ?_
  refine lz_get (G := G) (ci := 2) (v := .int (S 3)) (C := RX2) (T := TX2) (N := 4) hx hb hu_wsX20 (fun _ h9 => h9) hown hK hP 0 rfl rfl 3 (by decide) hw1 rfl rfl dX2_fail_1 ?_
  refine lv_if_ne (tgt := 12) hx hb dX2_fail_4 (by decide) (fun c_4 => ?_) (fun c_4 => ?_)
  · skip
    exact rw_vret (S := Unit) (G := G) (Wd := fun _ : Unit => lzTp u q (upd S 3 (failI (S 3) k))) () hx hb hr hlk dX2_fail_12 hS (by show va_P G.1 lzC (lzTp u q (upd S 3 (failI (S 3) k))) _; unfold failI; first | (rw [if_pos c_4]; exact hP) | (rw [if_neg c_4]; exact hP)) (trivial)
  · skip
    refine lv_aload_n hx hb dX2_fail_7 rfl (lv_at hl 0 rfl) ?_
    refine lv_iload_n hx hb dX2_fail_8 rfl (lv_at hl 1 rfl) ?_
    refine lz_put (G := G) (ci := 2) (C := RX2) (T := TX2) (N := 4) hx hb hu_wsX20 (fun _ h9 => h9) tyX2 tyX2_ok nmX2 hown hK hP hD hS 0 rfl rfl 3 (by decide) hw1 rfl rfl (by decide +kernel) (Nat.le_of_ble_eq_true rfl) dX2_fail_9 (lzTp u q (upd S 3 k)) rfl (fun H locs hP hD hS => ?_)
    exact rw_vret (S := Unit) (G := G) (Wd := fun _ : Unit => lzTp u q (upd S 3 (failI (S 3) k))) () hx hb hr hlk dX2_fail_12 hS (by show va_P G.1 lzC (lzTp u q (upd S 3 (failI (S 3) k))) _; unfold failI; first | (rw [if_pos c_4]; exact hP) | (rw [if_neg c_4]; exact hP)) (trivial)
set_option maxHeartbeats 4000000 in
set_option maxRecDepth 100000 in
theorem c_X2_byteAt (l : Launch) (G : lzG) (u : Nat) (q : Nat → Nat) (S : Nat → Int32) (tb : Nat → Int32) (L : Nat) (p : Nat) (hL : S 1 = nI L) (hL1 : L ≤ 120) (hp : p < 1000) : Met l yX2_byteAt wsX2_byteAt ({ frames := 1, cells := 0, slots := 0, locals := 22 }) (va_Pc [.ref u, .int (nI p)] (roP G (lzTp u q S ++ lzI G (q 0) 120 tb))) (vp_Si (fun r => r = byI tb L p)) 0 0 (fun _ => False) := by
  refine ro_start (cc := cX2_byteAt) (maxL := 2) (ret := (some .int)) (by decide) rfl (Nat.le_of_ble_eq_true rfl) ?_
  intro pp ee ss mm bl me cd hx hb hr hlk hml hts hown hP hK ls hl
  have hown : ss.vm.findClass RX2 = some mm.cls := hown
  have hw1 := hts (.fieldLink RX2 15 "LampSquares$Tape" "length" "I") (List.mem_of_getElem? (i := 1) rfl)
  have hw2 := hts (.fieldLink RX2 9 "LampSquares$Tape" "bytes" "[I") (List.mem_of_getElem? (i := 2) rfl)
  have hw3 := hts (.constant RX2 80 (-1000000)) (List.mem_of_getElem? (i := 3) rfl)
  have hw4 := hts (.static yX3_isIn) (List.mem_of_getElem? (i := 4) rfl)
  have hw5 := hts (.initialized RX3) (List.mem_of_getElem? (i := 5) rfl)
  have hu_wsX20 : ∀ w ∈ wsX20, w.before ([.ref u, .int (nI p)] : List Value).toArray ss = true := fun w h9 => hts w (List.mem_cons_of_mem _ (List.mem_append_right _ h9))
  have hl : lv_has ls 2 [(0, .ref u), (1, .int (nI p))] := hl
  refine lv_iload_n hx hb dX2_byteAt_0 rfl (lv_at hl 1 rfl) ?_
  refine lv_iconst (v := 0) hx hb dX2_byteAt_1 (by decide) ?_
  refine lv_aload_n hx hb dX2_byteAt_2 rfl (lv_at hl 0 rfl) ?_
  refine lz_get (G := G) (ci := 2) (v := .int (S 1)) (C := RX2) (T := TX2) (N := 4) hx hb hu_wsX20 (fun _ h9 => h9) hown hK hP 0 rfl rfl 1 (by decide) hw1 rfl rfl dX2_byteAt_3 ?_
  refine lv_iconst (v := 1) hx hb dX2_byteAt_6 (by decide) ?_
  refine lv_isub hx hb dX2_byteAt_7 ?_
  refine ro_calli (va_runSN (As := [.int (nI p), .int 0, .int ((S 1) - 1)]) (rest := []) ⟨hx, hb, hml, hown, hts⟩ (c_X3_isIn l G (nI p) 0 ((S 1) - 1) ) (⟨va_cnB (host := RX3) 3 hts gX2_byteAt_X3_isIn_n76 rfl rfl rfl (hK.2 _ (List.mem_of_getElem? (i := 3) rfl)) hw5 (by decide +kernel) ⟨Nat.le_of_ble_eq_true rfl, Nat.le_of_ble_eq_true rfl⟩, hw4, trivial⟩) (ro_pre hK (fun k q h => by simp at h)) rfl rfl hl.1 rfl (lv_room (Nat.le_of_ble_eq_true rfl)) dX2_byteAt_8 ⟨Nat.zero_le _, Nat.zero_le _⟩) (fun r_1 hr_1 => ?_)
  refine lv_if_eq (tgt := 23) hx hb dX2_byteAt_11 (by decide) (fun c_11 => ?_) (fun c_11 => ?_)
  · skip
    have c_11 := b2_z hr_1 c_11
    have hk : ¬ p < L := by { rw [hL, inR_pos (by omega) (by omega)] at c_11; exact of_decide_eq_false c_11 }
    refine lv_ldc hx hb hown hw3 dX2_byteAt_23 ?_
    exact ro_iret hx hb hr hlk dX2_byteAt_25 (by unfold byI; first | rw [if_pos hk] | rw [if_neg hk])
  · skip
    have c_11 := b2_n hr_1 c_11
    have hk : p < L := by { rw [hL, inR_pos (by omega) (by omega)] at c_11; exact of_decide_eq_true c_11 }
    refine lv_aload_n hx hb dX2_byteAt_14 rfl (lv_at hl 0 rfl) ?_
    refine lz_get (G := G) (ci := 2) (v := .ref (q 0)) (C := RX2) (T := TX2) (N := 4) hx hb hu_wsX20 (fun _ h9 => h9) hown hK hP 0 rfl rfl 0 (by decide) hw2 rfl rfl dX2_byteAt_15 ?_
    refine lv_iload_n hx hb dX2_byteAt_18 rfl (lv_at hl 1 rfl) ?_
    refine lz_iald (f := tb) hx hb hK hP 1 rfl p (by omega) (Nat.le_of_ble_eq_true rfl) dX2_byteAt_19 ?_
    refine lv_goto (tgt := 25) hx hb dX2_byteAt_20 (by decide) ?_
    exact ro_iret hx hb hr hlk dX2_byteAt_25 (by unfold byI; first | rw [if_pos hk] | rw [if_neg hk])
set_option maxHeartbeats 4000000 in
set_option maxRecDepth 100000 in
theorem c_X2_readToken (l : Launch) (G : lzG) (u : Nat) (q : Nat → Nat) (S : Nat → Int32) (tb : Nat → Int32) (L : Nat) (z : Int32 × Nat) (may room : Bool) (hL : S 1 = nI L) (hL1 : L ≤ 120) (hz1 : S 3 = z.1) (hz2 : S 2 = nI z.2) (hz3 : z.2 ≤ L) : Met l yX2_readToken wsX2_readToken ({ frames := 1, cells := 0, slots := 0, locals := 21 }) (va_Pc [.ref u, .int (b2 may), .int (b2 room)] (rwP G (lzTp u q S ++ lzI G (q 0) 120 tb))) (va_Qv (S := Unit) (fun _ : Unit => True) (rwB G (fun _ : Unit => (lzTp u q (upd (upd S 2 (nI ((tokS may room z).2))) 3 ((tokS may room z).1)) ++ lzI G (q 0) 120 tb))) (lzA (lzTp u q S ++ lzI G (q 0) 120 tb))) 0 0 (lzA (lzTp u q S ++ lzI G (q 0) 120 tb)) := by
  refine rw_start (S := Unit) (cc := cX2_readToken) (maxL := 3) (ret := none) (by decide) rfl (Nat.le_of_ble_eq_true rfl) ?_
  intro pp ee ss mm bl me cd A hx hb hr hlk hml hts hown hP hK hD hAe hS ls hl
  have hA0 : ∀ zz : Nat, lzA (lzTp u q S ++ lzI G (q 0) 120 tb) zz → A zz := fun zz h9 => by rw [hAe]; exact h9
  rw [← hAe]
  clear hAe
  have hown : ss.vm.findClass RX2 = some mm.cls := hown
  have hw1 := hts (.fieldLink RX2 22 "LampSquares$Tape" "fault" "I") (List.mem_of_getElem? (i := 1) rfl)
  have hw2 := hts (.fieldLink RX2 19 "LampSquares$Tape" "at" "I") (List.mem_of_getElem? (i := 2) rfl)
  have hu_wsX20 : ∀ w ∈ wsX20, w.before ([.ref u, .int (b2 may), .int (b2 room)] : List Value).toArray ss = true := fun w h9 => hts w (List.mem_cons_of_mem _ (List.mem_append_right _ h9))
  have hl : lv_has ls 3 [(0, .ref u), (1, .int (b2 may)), (2, .int (b2 room))] := hl
  refine lv_iload_n hx hb dX2_readToken_0 rfl (lv_at hl 1 rfl) ?_
  refine lv_if_ne (tgt := 12) hx hb dX2_readToken_1 (by decide) (fun c_1 => ?_) (fun c_1 => ?_)
  · skip
    have c_1 := b2_n rfl c_1
    refine lv_iload_n hx hb dX2_readToken_12 rfl (lv_at hl 2 rfl) ?_
    refine lv_if_ne (tgt := 24) hx hb dX2_readToken_13 (by decide) (fun c_13 => ?_) (fun c_13 => ?_)
    · skip
      have c_13 := b2_n rfl c_13
      refine lv_aload_n hx hb dX2_readToken_24 rfl (lv_at hl 0 rfl) ?_
      refine lz_get (G := G) (ci := 2) (v := .int (S 3)) (C := RX2) (T := TX2) (N := 4) hx hb hu_wsX20 (fun _ h9 => h9) hown hK hP 0 rfl rfl 3 (by decide) hw1 rfl rfl dX2_readToken_25 ?_
      refine lv_if_ne (tgt := 41) hx hb dX2_readToken_28 (by decide) (fun c_28 => ?_) (fun c_28 => ?_)
      · skip
        exact rw_vret (S := Unit) (G := G) (Wd := fun _ : Unit => (lzTp u q (upd (upd S 2 (nI ((tokS may room z).2))) 3 ((tokS may room z).1)) ++ lzI G (q 0) 120 tb)) () hx hb hr hlk dX2_readToken_41 hS (by show va_P G.1 lzC (lzTp u q (upd (upd S 2 (nI ((tokS may room z).2))) 3 ((tokS may room z).1)) ++ lzI G (q 0) 120 tb) _; subst c_1; first | (show va_P G.1 lzC (lzTp u q (upd (upd S 2 (nI z.2)) 3 (failI z.1 1)) ++ lzI G (q 0) 120 tb) _; rw [← hz1, ← hz2]; exact hP) | (subst c_13; first | (show va_P G.1 lzC (lzTp u q (upd (upd S 2 (nI z.2)) 3 (failI z.1 3)) ++ lzI G (q 0) 120 tb) _; rw [← hz1, ← hz2]; exact hP) | (show va_P G.1 lzC (lzTp u q (upd (upd S 2 (nI (if z.1 = 0 then z.2 + 1 else z.2))) 3 z.1) ++ lzI G (q 0) 120 tb) _; first | (rw [if_pos (hz1 ▸ c_28), ← hz1]; exact hP) | (rw [if_neg (hz1 ▸ c_28), ← hz1, ← hz2]; exact hP)))) (trivial)
      · skip
        refine lv_aload_n hx hb dX2_readToken_31 rfl (lv_at hl 0 rfl) ?_
        refine lv_dup hx hb dX2_readToken_32 rfl ?_
        refine lz_get (G := G) (ci := 2) (v := .int (S 2)) (C := RX2) (T := TX2) (N := 4) hx hb hu_wsX20 (fun _ h9 => h9) hown hK hP 0 rfl rfl 2 (by decide) hw2 rfl rfl dX2_readToken_33 ?_
        refine lv_iconst (v := 1) hx hb dX2_readToken_36 (by decide) ?_
        refine lv_iadd hx hb dX2_readToken_37 ?_
        refine lz_top (y := nI (z.2 + 1)) (by rw [hz2]; exact nI_1 _) ?_
        refine lz_put (G := G) (ci := 2) (C := RX2) (T := TX2) (N := 4) hx hb hu_wsX20 (fun _ h9 => h9) tyX2 tyX2_ok nmX2 hown hK hP hD hS 0 rfl rfl 2 (by decide) hw2 rfl rfl (by decide +kernel) (Nat.le_of_ble_eq_true rfl) dX2_readToken_38 (lzTp u q (upd S 2 (nI (z.2 + 1))) ++ lzI G (q 0) 120 tb) rfl (fun H locs hP hD hS => ?_)
        exact rw_vret (S := Unit) (G := G) (Wd := fun _ : Unit => (lzTp u q (upd (upd S 2 (nI ((tokS may room z).2))) 3 ((tokS may room z).1)) ++ lzI G (q 0) 120 tb)) () hx hb hr hlk dX2_readToken_41 hS (by show va_P G.1 lzC (lzTp u q (upd (upd S 2 (nI ((tokS may room z).2))) 3 ((tokS may room z).1)) ++ lzI G (q 0) 120 tb) _; subst c_1; first | (show va_P G.1 lzC (lzTp u q (upd (upd S 2 (nI z.2)) 3 (failI z.1 1)) ++ lzI G (q 0) 120 tb) _; rw [← hz1, ← hz2]; exact hP) | (subst c_13; first | (show va_P G.1 lzC (lzTp u q (upd (upd S 2 (nI z.2)) 3 (failI z.1 3)) ++ lzI G (q 0) 120 tb) _; rw [← hz1, ← hz2]; exact hP) | (show va_P G.1 lzC (lzTp u q (upd (upd S 2 (nI (if z.1 = 0 then z.2 + 1 else z.2))) 3 z.1) ++ lzI G (q 0) 120 tb) _; first | (rw [if_pos (hz1 ▸ c_28), ← hz1]; exact hP) | (rw [if_neg (hz1 ▸ c_28), ← hz1, ← hz2]; exact hP)))) (trivial)
    · skip
      have c_13 := b2_z rfl c_13
      refine lv_aload_n hx hb dX2_readToken_16 rfl (lv_at hl 0 rfl) ?_
      refine lv_iconst (v := 3) hx hb dX2_readToken_17 (by decide) ?_
      have hPc := hP.sub (ws' := lzTp u q S) [0] rfl
      have hDc := hD.sub (ws' := lzTp u q S) [0] (by decide) rfl
      have hFc : ∀ zz : Nat, lzA (lzTp u q S) zz → A zz := lz_free hD [0] rfl
      refine va_callv (va_runV (As := [.int 3]) (rest := []) ⟨hx, hb, hml, hown, hts⟩ (c_X2_fail l G u q S 3 ) (cwV 1 hts gX2_readToken_X2_fail rfl rfl rfl (by decide +kernel) ⟨Nat.le_of_ble_eq_true rfl, Nat.le_of_ble_eq_true rfl⟩) (rw_preV hK hPc hDc hP (ci := 2) (q0 := 0) rfl rfl) rfl rfl hl.1 rfl (lv_room (Nat.le_of_ble_eq_true rfl)) dX2_readToken_18 ⟨Nat.zero_le _, Nat.zero_le _⟩) hS (fun q _ h => hFc q h) hFc (fun u_2 t9 H1 locs ht hvm hr_1 hB hz1 hk1 hS => ?_)
      replace hB : va_P G.1 lzC _ t9.heap := hB
      rw [ht] at hB
      obtain ⟨hP, hD⟩ := lz_join (wc := lzTp u q S) (wr := ([(q 0, .inl (G.2 0, 120, .inl tb))] : va_W)) (w1 := lzTp u q (upd S 3 (failI ((S 3)) 3))) hP hD [0] [1] rfl rfl (by decide) (by decide) rfl hk1 hB
      replace hP := hP.sub (ws' := (lzTp u q (upd S 3 (failI ((S 3)) 3)) ++ lzI G (q 0) 120 tb)) [1, 0] rfl
      replace hD := hD.sub (ws' := (lzTp u q (upd S 3 (failI ((S 3)) 3)) ++ lzI G (q 0) 120 tb)) [1, 0] (by decide) rfl
      clear ht hvm hB hz1 hk1
      generalize H1 = H at hP hS ⊢
      refine lv_goto (tgt := 41) hx hb dX2_readToken_21 (by decide) ?_
      exact rw_vret (S := Unit) (G := G) (Wd := fun _ : Unit => (lzTp u q (upd (upd S 2 (nI ((tokS may room z).2))) 3 ((tokS may room z).1)) ++ lzI G (q 0) 120 tb)) () hx hb hr hlk dX2_readToken_41 hS (by show va_P G.1 lzC (lzTp u q (upd (upd S 2 (nI ((tokS may room z).2))) 3 ((tokS may room z).1)) ++ lzI G (q 0) 120 tb) _; subst c_1; first | (show va_P G.1 lzC (lzTp u q (upd (upd S 2 (nI z.2)) 3 (failI z.1 1)) ++ lzI G (q 0) 120 tb) _; rw [← hz1, ← hz2]; exact hP) | (subst c_13; first | (show va_P G.1 lzC (lzTp u q (upd (upd S 2 (nI z.2)) 3 (failI z.1 3)) ++ lzI G (q 0) 120 tb) _; rw [← hz1, ← hz2]; exact hP) | (show va_P G.1 lzC (lzTp u q (upd (upd S 2 (nI (if z.1 = 0 then z.2 + 1 else z.2))) 3 z.1) ++ lzI G (q 0) 120 tb) _; first | (rw [if_pos (hz1 ▸ c_28), ← hz1]; exact hP) | (rw [if_neg (hz1 ▸ c_28), ← hz1, ← hz2]; exact hP)))) (trivial)
  · skip
    have c_1 := b2_z rfl c_1
    refine lv_aload_n hx hb dX2_readToken_4 rfl (lv_at hl 0 rfl) ?_
    refine lv_iconst (v := 1) hx hb dX2_readToken_5 (by decide) ?_
    have hPc := hP.sub (ws' := lzTp u q S) [0] rfl
    have hDc := hD.sub (ws' := lzTp u q S) [0] (by decide) rfl
    have hFc : ∀ zz : Nat, lzA (lzTp u q S) zz → A zz := lz_free hD [0] rfl
    refine va_callv (va_runV (As := [.int 1]) (rest := []) ⟨hx, hb, hml, hown, hts⟩ (c_X2_fail l G u q S 1 ) (cwV 1 hts gX2_readToken_X2_fail rfl rfl rfl (by decide +kernel) ⟨Nat.le_of_ble_eq_true rfl, Nat.le_of_ble_eq_true rfl⟩) (rw_preV hK hPc hDc hP (ci := 2) (q0 := 0) rfl rfl) rfl rfl hl.1 rfl (lv_room (Nat.le_of_ble_eq_true rfl)) dX2_readToken_6 ⟨Nat.zero_le _, Nat.zero_le _⟩) hS (fun q _ h => hFc q h) hFc (fun u_4 t9 H1 locs ht hvm hr_3 hB hz1 hk1 hS => ?_)
    replace hB : va_P G.1 lzC _ t9.heap := hB
    rw [ht] at hB
    obtain ⟨hP, hD⟩ := lz_join (wc := lzTp u q S) (wr := ([(q 0, .inl (G.2 0, 120, .inl tb))] : va_W)) (w1 := lzTp u q (upd S 3 (failI ((S 3)) 1))) hP hD [0] [1] rfl rfl (by decide) (by decide) rfl hk1 hB
    replace hP := hP.sub (ws' := (lzTp u q (upd S 3 (failI ((S 3)) 1)) ++ lzI G (q 0) 120 tb)) [1, 0] rfl
    replace hD := hD.sub (ws' := (lzTp u q (upd S 3 (failI ((S 3)) 1)) ++ lzI G (q 0) 120 tb)) [1, 0] (by decide) rfl
    clear ht hvm hB hz1 hk1
    generalize H1 = H at hP hS ⊢
    refine lv_goto (tgt := 41) hx hb dX2_readToken_9 (by decide) ?_
    exact rw_vret (S := Unit) (G := G) (Wd := fun _ : Unit => (lzTp u q (upd (upd S 2 (nI ((tokS may room z).2))) 3 ((tokS may room z).1)) ++ lzI G (q 0) 120 tb)) () hx hb hr hlk dX2_readToken_41 hS (by show va_P G.1 lzC (lzTp u q (upd (upd S 2 (nI ((tokS may room z).2))) 3 ((tokS may room z).1)) ++ lzI G (q 0) 120 tb) _; subst c_1; first | (show va_P G.1 lzC (lzTp u q (upd (upd S 2 (nI z.2)) 3 (failI z.1 1)) ++ lzI G (q 0) 120 tb) _; rw [← hz1, ← hz2]; exact hP) | (subst c_13; first | (show va_P G.1 lzC (lzTp u q (upd (upd S 2 (nI z.2)) 3 (failI z.1 3)) ++ lzI G (q 0) 120 tb) _; rw [← hz1, ← hz2]; exact hP) | (show va_P G.1 lzC (lzTp u q (upd (upd S 2 (nI (if z.1 = 0 then z.2 + 1 else z.2))) 3 z.1) ++ lzI G (q 0) 120 tb) _; first | (rw [if_pos (hz1 ▸ c_28), ← hz1]; exact hP) | (rw [if_neg (hz1 ▸ c_28), ← hz1, ← hz2]; exact hP)))) (trivial)
set_option maxHeartbeats 4000000 in
set_option maxRecDepth 100000 in
theorem c_X2_readSign (l : Launch) (G : lzG) (u : Nat) (q : Nat → Nat) (S : Nat → Int32) (tb : Nat → Int32) (L : Nat) (z : Int32 × Nat) (c : Int32) (hL : S 1 = nI L) (hL1 : L ≤ 120) (hz1 : S 3 = z.1) (hz2 : S 2 = nI z.2) (hz3 : z.2 ≤ L) : Met l yX2_readSign wsX2_readSign ({ frames := 2, cells := 0, slots := 0, locals := 43 }) (va_Pc [.ref u, .int c] (rwP G (lzTp u q S ++ lzI G (q 0) 120 tb))) (va_Qv (S := Unit) (fun _ : Unit => True) (rwB G (fun _ : Unit => (lzTp u q (upd (upd S 2 (nI ((sgnS tb L c z).2))) 3 ((sgnS tb L c z).1)) ++ lzI G (q 0) 120 tb))) (lzA (lzTp u q S ++ lzI G (q 0) 120 tb))) 0 0 (lzA (lzTp u q S ++ lzI G (q 0) 120 tb)) := by
  refine rw_start (S := Unit) (cc := cX2_readSign) (maxL := 2) (ret := none) (by decide) rfl (Nat.le_of_ble_eq_true rfl) ?_
  intro pp ee ss mm bl me cd A hx hb hr hlk hml hts hown hP hK hD hAe hS ls hl
  have hA0 : ∀ zz : Nat, lzA (lzTp u q S ++ lzI G (q 0) 120 tb) zz → A zz := fun zz h9 => by rw [hAe]; exact h9
  rw [← hAe]
  clear hAe
  have hown : ss.vm.findClass RX2 = some mm.cls := hown
  have hw1 := hts (.fieldLink RX2 19 "LampSquares$Tape" "at" "I") (List.mem_of_getElem? (i := 1) rfl)
  have hu_wsX20 : ∀ w ∈ wsX20, w.before ([.ref u, .int c] : List Value).toArray ss = true := fun w h9 => hts w (List.mem_cons_of_mem _ (List.mem_append_right _ h9))
  have hl : lv_has ls 2 [(0, .ref u), (1, .int c)] := hl
  refine lv_aload_n hx hb dX2_readSign_0 rfl (lv_at hl 0 rfl) ?_
  refine lv_aload_n hx hb dX2_readSign_1 rfl (lv_at hl 0 rfl) ?_
  refine lv_aload_n hx hb dX2_readSign_2 rfl (lv_at hl 0 rfl) ?_
  refine lz_get (G := G) (ci := 2) (v := .int (S 2)) (C := RX2) (T := TX2) (N := 4) hx hb hu_wsX20 (fun _ h9 => h9) hown hK hP 0 rfl rfl 2 (by decide) hw1 rfl rfl dX2_readSign_3 ?_
  refine lz_top (y := nI z.2) (hz2) ?_
  refine ro_calli (va_runV (As := [.int (nI z.2)]) (rest := [.ref u]) ⟨hx, hb, hml, hown, hts⟩ (c_X2_byteAt l G u q S tb L z.2 (hL) (hL1) (by omega)) (cwV 1 hts gX2_readSign_X2_byteAt rfl rfl rfl (by decide +kernel) ⟨Nat.le_of_ble_eq_true rfl, Nat.le_of_ble_eq_true rfl⟩) (ro_preV hK hP hP (ci := 2) (q0 := 0) rfl rfl) rfl rfl hl.1 rfl (lv_room (Nat.le_of_ble_eq_true rfl)) dX2_readSign_6 ⟨Nat.zero_le _, Nat.zero_le _⟩) (fun r_1 hr_1 => ?_)
  refine lz_top (y := byI tb L z.2) hr_1 ?_
  refine lv_iload_n hx hb dX2_readSign_9 rfl (lv_at hl 1 rfl) ?_
  refine lv_icmp_ne (tgt := 17) hx hb dX2_readSign_10 (by decide) (fun c_10 => ?_) (fun c_10 => ?_)
  · skip
    refine lv_iconst (v := 0) hx hb dX2_readSign_17 (by decide) ?_
    refine lv_iconst (v := 1) hx hb dX2_readSign_18 (by decide) ?_
    have hFc : ∀ zz : Nat, lzA (lzTp u q S ++ lzI G (q 0) 120 tb) zz → A zz := lz_free hD [0, 1] rfl
    refine va_callv (va_runV (As := [.int 0, .int 1]) (rest := []) ⟨hx, hb, hml, hown, hts⟩ (c_X2_readToken l G u q S tb L z false true (hL) (hL1) (hz1) (hz2) (hz3)) (cwV 2 hts gX2_readSign_X2_readToken rfl rfl rfl (by decide +kernel) ⟨Nat.le_of_ble_eq_true rfl, Nat.le_of_ble_eq_true rfl⟩) (rw_preV hK hP hD hP (ci := 2) (q0 := 0) rfl rfl) rfl rfl hl.1 rfl (lv_room (Nat.le_of_ble_eq_true rfl)) dX2_readSign_19 ⟨Nat.zero_le _, Nat.zero_le _⟩) hS (fun q _ h => hFc q h) hFc (fun u_3 t9 H1 locs ht hvm hr_2 hB hz1 hk1 hS => ?_)
    replace hB : va_P G.1 lzC _ t9.heap := hB
    rw [ht] at hB
    obtain ⟨hP, hD⟩ := lz_join (wc := (lzTp u q S ++ lzI G (q 0) 120 tb)) (wr := ([] : va_W)) (w1 := (lzTp u q (upd (upd S 2 (nI ((tokS false true z).2))) 3 ((tokS false true z).1)) ++ lzI G (q 0) 120 tb)) hP hD [0, 1] [] rfl rfl (by decide) (by decide) rfl hk1 hB
    replace hP := hP.sub (ws' := (lzTp u q (upd (upd S 2 (nI ((tokS false true z).2))) 3 ((tokS false true z).1)) ++ lzI G (q 0) 120 tb)) [0, 1] rfl
    replace hD := hD.sub (ws' := (lzTp u q (upd (upd S 2 (nI ((tokS false true z).2))) 3 ((tokS false true z).1)) ++ lzI G (q 0) 120 tb)) [0, 1] (by decide) rfl
    clear ht hvm hB hz1 hk1
    generalize H1 = H at hP hS ⊢
    exact rw_vret (S := Unit) (G := G) (Wd := fun _ : Unit => (lzTp u q (upd (upd S 2 (nI ((sgnS tb L c z).2))) 3 ((sgnS tb L c z).1)) ++ lzI G (q 0) 120 tb)) () hx hb hr hlk dX2_readSign_22 hS (by show va_P G.1 lzC (lzTp u q (upd (upd S 2 (nI ((sgnS tb L c z).2))) 3 ((sgnS tb L c z).1)) ++ lzI G (q 0) 120 tb) H; unfold sgnS; first | (rw [decide_eq_true c_10]; exact hP) | (rw [decide_eq_false c_10]; exact hP)) (trivial)
  · skip
    refine lv_iconst (v := 1) hx hb dX2_readSign_13 (by decide) ?_
    refine lv_goto (tgt := 18) hx hb dX2_readSign_14 (by decide) ?_
    refine lv_iconst (v := 1) hx hb dX2_readSign_18 (by decide) ?_
    have hFc : ∀ zz : Nat, lzA (lzTp u q S ++ lzI G (q 0) 120 tb) zz → A zz := lz_free hD [0, 1] rfl
    refine va_callv (va_runV (As := [.int 1, .int 1]) (rest := []) ⟨hx, hb, hml, hown, hts⟩ (c_X2_readToken l G u q S tb L z true true (hL) (hL1) (hz1) (hz2) (hz3)) (cwV 2 hts gX2_readSign_X2_readToken rfl rfl rfl (by decide +kernel) ⟨Nat.le_of_ble_eq_true rfl, Nat.le_of_ble_eq_true rfl⟩) (rw_preV hK hP hD hP (ci := 2) (q0 := 0) rfl rfl) rfl rfl hl.1 rfl (lv_room (Nat.le_of_ble_eq_true rfl)) dX2_readSign_19 ⟨Nat.zero_le _, Nat.zero_le _⟩) hS (fun q _ h => hFc q h) hFc (fun u_5 t9 H1 locs ht hvm hr_4 hB hz1 hk1 hS => ?_)
    replace hB : va_P G.1 lzC _ t9.heap := hB
    rw [ht] at hB
    obtain ⟨hP, hD⟩ := lz_join (wc := (lzTp u q S ++ lzI G (q 0) 120 tb)) (wr := ([] : va_W)) (w1 := (lzTp u q (upd (upd S 2 (nI ((tokS true true z).2))) 3 ((tokS true true z).1)) ++ lzI G (q 0) 120 tb)) hP hD [0, 1] [] rfl rfl (by decide) (by decide) rfl hk1 hB
    replace hP := hP.sub (ws' := (lzTp u q (upd (upd S 2 (nI ((tokS true true z).2))) 3 ((tokS true true z).1)) ++ lzI G (q 0) 120 tb)) [0, 1] rfl
    replace hD := hD.sub (ws' := (lzTp u q (upd (upd S 2 (nI ((tokS true true z).2))) 3 ((tokS true true z).1)) ++ lzI G (q 0) 120 tb)) [0, 1] (by decide) rfl
    clear ht hvm hB hz1 hk1
    generalize H1 = H at hP hS ⊢
    exact rw_vret (S := Unit) (G := G) (Wd := fun _ : Unit => (lzTp u q (upd (upd S 2 (nI ((sgnS tb L c z).2))) 3 ((sgnS tb L c z).1)) ++ lzI G (q 0) 120 tb)) () hx hb hr hlk dX2_readSign_22 hS (by show va_P G.1 lzC (lzTp u q (upd (upd S 2 (nI ((sgnS tb L c z).2))) 3 ((sgnS tb L c z).1)) ++ lzI G (q 0) 120 tb) H; unfold sgnS; first | (rw [decide_eq_true c_10]; exact hP) | (rw [decide_eq_false c_10]; exact hP)) (trivial)
set_option maxHeartbeats 4000000 in
set_option maxRecDepth 100000 in
theorem c_X2_figuresHere (l : Launch) (G : lzG) (u : Nat) (q : Nat → Nat) (S : Nat → Int32) (tb : Nat → Int32) (L : Nat) (z : Int32 × Nat) (hL : S 1 = nI L) (hL1 : L ≤ 120) (hz1 : S 3 = z.1) (hz2 : S 2 = nI z.2) (hz3 : z.2 ≤ L) : Met l yX2_figuresHere wsX2_figuresHere ({ frames := 2, cells := 0, slots := 0, locals := 43 }) (va_Pc [.ref u] (roP G (lzTp u q S ++ lzI G (q 0) 120 tb))) (vp_Si (fun r => r = nI (figN tb L z.2))) 0 0 (fun _ => False) := by
  refine ro_start (cc := cX2_figuresHere) (maxL := 3) (ret := (some .int)) (by decide) rfl (Nat.le_of_ble_eq_true rfl) ?_
  intro pp ee ss mm bl me cd hx hb hr hlk hml hts hown hP hK ls hl
  have hown : ss.vm.findClass RX2 = some mm.cls := hown
  have hw1 := hts (.fieldLink RX2 19 "LampSquares$Tape" "at" "I") (List.mem_of_getElem? (i := 1) rfl)
  have hw2 := hts (.fieldLink RX2 15 "LampSquares$Tape" "length" "I") (List.mem_of_getElem? (i := 2) rfl)
  have hw10 := hts (.static yX3_isIn) (List.mem_of_getElem? (i := 10) rfl)
  have hw11 := hts (.initialized RX3) (List.mem_of_getElem? (i := 11) rfl)
  have hu_wsX20 : ∀ w ∈ wsX20, w.before ([.ref u] : List Value).toArray ss = true := fun w h9 => hts w (List.mem_cons_of_mem _ (List.mem_append_right _ h9))
  have hl : lv_has ls 3 [(0, .ref u)] := hl
  refine lv_iconst (v := 0) hx hb dX2_figuresHere_0 (by decide) ?_
  refine lv_istore_n (lv' := [(1, .int 0), (0, .ref u)]) hx hb dX2_figuresHere_1 rfl hl (by decide) rfl (fun ls hl => ?_)
  refine lv_aload_n hx hb dX2_figuresHere_2 rfl (lv_at hl 1 rfl) ?_
  refine lz_get (G := G) (ci := 2) (v := .int (S 2)) (C := RX2) (T := TX2) (N := 4) hx hb hu_wsX20 (fun _ h9 => h9) hown hK hP 0 rfl rfl 2 (by decide) hw1 rfl rfl dX2_figuresHere_3 ?_
  refine lv_topi (fun x_1 ex_1 => ?_)
  refine lv_istore_n (lv' := [(2, .int x_1), (1, .int 0), (0, .ref u)]) hx hb dX2_figuresHere_6 rfl hl (by decide) rfl (fun ls hl => ?_)
  have J_7 : ∀ (n9 : Nat), ∀ (k : Nat), (z.2 + k ≤ L) → (figN tb L z.2 = k + figN tb L (z.2 + k)) → L + 1 - (z.2 + k) < n9 → ∀ ls : Array Slot, lv_has ls 3 [(1, .int (nI k)), (2, .int (nI (z.2 + k))), (0, .ref u)] → W pp l ee ({ frames := 2, cells := 0, slots := 0, locals := 43 }) ss mm ([.ref u] : List Value).toArray bl me cd ss.heap [] 0 0 (MQ bl (vp_Si (fun r => r = nI (figN tb L z.2))) ([.ref u] : List Value).toArray ss 0 0 (fun _ => False)) (F0 mm 7 ls []) := by
    intro n9
    induction n9 with
    | zero => intro k hk hfig hn; exact absurd hn (Nat.not_lt_zero _)
    | succ n9 ih_7 =>
      intro k hk hfig hn_7 ls hl
      refine lv_iload_n hx hb dX2_figuresHere_7 rfl (lv_at hl 1 rfl) ?_
      refine lv_aload_n hx hb dX2_figuresHere_8 rfl (lv_at hl 2 rfl) ?_
      refine lz_get (G := G) (ci := 2) (v := .int (S 1)) (C := RX2) (T := TX2) (N := 4) hx hb hu_wsX20 (fun _ h9 => h9) hown hK hP 0 rfl rfl 1 (by decide) hw2 rfl rfl dX2_figuresHere_9 ?_
      refine lv_icmp_ge (tgt := 39) hx hb dX2_figuresHere_12 (by decide) (fun c_12 => ?_) (fun c_12 => ?_)
      · skip
        have c_12' := Int32.not_lt.mpr c_12
        have hk2 : L ≤ z.2 + k := lz_ge hL c_12 (by omega) (by omega)
        refine lv_iload_n hx hb dX2_figuresHere_39 rfl (lv_at hl 0 rfl) ?_
        exact ro_iret hx hb hr hlk dX2_figuresHere_40 (by first | (rw [hfig, figN_end hk2]; rfl) | (rw [hfig, figN_out hk2 c_27]; rfl))
      · skip
        have c_12' := Int32.not_le.mp c_12
        have hk2 : z.2 + k < L := lz_lt hL c_12 (by omega) (by omega)
        refine lv_aload_n hx hb dX2_figuresHere_15 rfl (lv_at hl 2 rfl) ?_
        refine lv_iload_n hx hb dX2_figuresHere_16 rfl (lv_at hl 1 rfl) ?_
        refine ro_calli (va_runV (As := [.int (nI (z.2 + k))]) (rest := []) ⟨hx, hb, hml, hown, hts⟩ (c_X2_byteAt l G u q S tb L (z.2 + k) (hL) (hL1) (by omega)) (cwV 1 hts gX2_figuresHere_X2_byteAt rfl rfl rfl (by decide +kernel) ⟨Nat.le_of_ble_eq_true rfl, Nat.le_of_ble_eq_true rfl⟩) (ro_preV hK hP hP (ci := 2) (q0 := 0) rfl rfl) rfl rfl hl.1 rfl (lv_room (Nat.le_of_ble_eq_true rfl)) dX2_figuresHere_17 ⟨Nat.zero_le _, Nat.zero_le _⟩) (fun r_2 hr_2 => ?_)
        refine lz_top (y := byI tb L (z.2 + k)) hr_2 ?_
        refine lz_top (y := tb (z.2 + k)) (by unfold byI; rw [if_pos hk2]) ?_
        refine lv_bipush (v := 48) hx hb dX2_figuresHere_20 (by decide) ?_
        refine lv_bipush (v := 57) hx hb dX2_figuresHere_22 (by decide) ?_
        refine ro_calli (va_runSN (As := [.int (tb (z.2 + k)), .int 48, .int 57]) (rest := []) ⟨hx, hb, hml, hown, hts⟩ (c_X3_isIn l G (tb (z.2 + k)) 48 57 ) (⟨va_cnB (host := RX3) 3 hts gX2_figuresHere_X3_isIn_n76 rfl rfl rfl (hK.2 _ (List.mem_of_getElem? (i := 3) rfl)) hw11 (by decide +kernel) ⟨Nat.le_of_ble_eq_true rfl, Nat.le_of_ble_eq_true rfl⟩, hw10, trivial⟩) (ro_pre hK (fun k q h => by simp at h)) rfl rfl hl.1 rfl (lv_room (Nat.le_of_ble_eq_true rfl)) dX2_figuresHere_24 ⟨Nat.zero_le _, Nat.zero_le _⟩) (fun r_3 hr_3 => ?_)
        refine lv_if_eq (tgt := 39) hx hb dX2_figuresHere_27 (by decide) (fun c_27 => ?_) (fun c_27 => ?_)
        · skip
          have c_27 := b2_z hr_3 c_27
          have c_27 : digB (tb (z.2 + k)) = false := c_27
          refine lv_iload_n hx hb dX2_figuresHere_39 rfl (lv_at hl 0 rfl) ?_
          exact ro_iret hx hb hr hlk dX2_figuresHere_40 (by first | (rw [hfig, figN_end hk2]; rfl) | (rw [hfig, figN_out hk2 c_27]; rfl))
        · skip
          have c_27 := b2_n hr_3 c_27
          have c_27 : digB (tb (z.2 + k)) = true := c_27
          refine lv_iinc (v := nI (k + 1)) (lv' := [(1, .int (nI (k + 1))), (2, .int (nI (z.2 + k))), (0, .ref u)]) hx hb dX2_figuresHere_30 hl (k := 0) rfl (nI_1 _) (by decide) rfl (fun ls hl => ?_)
          refine lv_iinc (v := nI ((z.2 + k) + 1)) (lv' := [(2, .int (nI ((z.2 + k) + 1))), (1, .int (nI (k + 1))), (0, .ref u)]) hx hb dX2_figuresHere_33 hl (k := 1) rfl (nI_1 _) (by decide) rfl (fun ls hl => ?_)
          refine lv_goto (tgt := 7) hx hb dX2_figuresHere_36 (by decide) ?_
          exact ih_7 (k + 1) (by omega) (by rw [hfig, figN_in hk2 c_27]; show k + (figN tb L (z.2 + k + 1) + 1) = k + 1 + figN tb L (z.2 + k + 1); omega) (by omega) _ (lv_sub hl [1, 0, 2] rfl)
  obtain rfl : x_1 = nI (z.2 + 0) := by rw [ex_1]; exact hz2
  exact J_7 _ 0 (by omega) ((Nat.zero_add _).symm) (Nat.lt_succ_self _) _ (lv_sub hl [1, 0, 2] rfl)
set_option maxHeartbeats 4000000 in
set_option maxRecDepth 100000 in
theorem c_X2_readNumber (l : Launch) (G : lzG) (u : Nat) (q : Nat → Nat) (S : Nat → Int32) (tb : Nat → Int32) (L : Nat) (z : Int32 × Nat) (lo hi : Int32) (hL : S 1 = nI L) (hL1 : L ≤ 120) (hz1 : S 3 = z.1) (hz2 : S 2 = nI z.2) (hz3 : z.2 ≤ L) : Met l yX2_readNumber wsX2_readNumber ({ frames := 3, cells := 0, slots := 0, locals := 65 }) (va_Pc [.ref u, .int lo, .int hi] (rwP G (lzTp u q S ++ lzI G (q 0) 120 tb))) (va_Qi (S := Unit) (fun (r : Int32) (_ : Unit) => r = numV tb L z.2) (rwB G (fun _ : Unit => (lzTp u q (upd (upd S 2 (nI ((numS tb L lo hi z).2))) 3 ((numS tb L lo hi z).1)) ++ lzI G (q 0) 120 tb))) (lzA (lzTp u q S ++ lzI G (q 0) 120 tb))) 0 0 (lzA (lzTp u q S ++ lzI G (q 0) 120 tb)) := by
  refine rw_start (S := Unit) (cc := cX2_readNumber) (maxL := 6) (ret := (some .int)) (by decide) rfl (Nat.le_of_ble_eq_true rfl) ?_
  intro pp ee ss mm bl me cd A hx hb hr hlk hml hts hown hP hK hD hAe hS ls hl
  have hA0 : ∀ zz : Nat, lzA (lzTp u q S ++ lzI G (q 0) 120 tb) zz → A zz := fun zz h9 => by rw [hAe]; exact h9
  rw [← hAe]
  clear hAe
  have hown : ss.vm.findClass RX2 = some mm.cls := hown
  have hw1 := hts (.fieldLink RX2 19 "LampSquares$Tape" "at" "I") (List.mem_of_getElem? (i := 1) rfl)
  have hw2 := hts (.fieldLink RX2 22 "LampSquares$Tape" "fault" "I") (List.mem_of_getElem? (i := 2) rfl)
  have hw15 := hts (.static yX3_isIn) (List.mem_of_getElem? (i := 15) rfl)
  have hw16 := hts (.initialized RX3) (List.mem_of_getElem? (i := 16) rfl)
  have hu_wsX20 : ∀ w ∈ wsX20, w.before ([.ref u, .int lo, .int hi] : List Value).toArray ss = true := fun w h9 => hts w (List.mem_cons_of_mem _ (List.mem_append_right _ h9))
  have hl : lv_has ls 6 [(0, .ref u), (1, .int lo), (2, .int hi)] := hl
  refine lv_aload_n hx hb dX2_readNumber_0 rfl (lv_at hl 0 rfl) ?_
  refine ro_calli (va_runV (As := []) (rest := []) ⟨hx, hb, hml, hown, hts⟩ (c_X2_figuresHere l G u q S tb L z (hL) (hL1) (hz1) (hz2) (hz3)) (cwV 0 hts gX2_readNumber_X2_figuresHere rfl rfl rfl (by decide +kernel) ⟨Nat.le_of_ble_eq_true rfl, Nat.le_of_ble_eq_true rfl⟩) (ro_preV hK hP hP (ci := 2) (q0 := 0) rfl rfl) rfl rfl hl.1 rfl (lv_room (Nat.le_of_ble_eq_true rfl)) dX2_readNumber_1 ⟨Nat.zero_le _, Nat.zero_le _⟩) (fun r_1 hr_1 => ?_)
  refine lz_top (y := nI (figN tb L z.2)) hr_1 ?_
  refine lv_istore_n (lv' := [(3, .int (nI (figN tb L z.2))), (0, .ref u), (1, .int lo), (2, .int hi)]) hx hb dX2_readNumber_4 rfl hl (by decide) rfl (fun ls hl => ?_)
  have hF := figN_le tb hz3
  have J_19 : ∀ (H : Heap) (locs : List Loc), va_P G.1 lzC (lzTp u q (upd S 3 (numE1 tb L z)) ++ lzI G (q 0) 120 tb) H → va_D A (lzTp u q (upd S 3 (numE1 tb L z)) ++ lzI G (q 0) 120 tb) → va_S A ss.heap H locs → ∀ ls : Array Slot, lv_has ls 6 [(3, .int (nI (figN tb L z.2))), (0, .ref u), (1, .int lo), (2, .int hi)] → W pp l ee ({ frames := 3, cells := 0, slots := 0, locals := 65 }) ss mm ([.ref u, .int lo, .int hi] : List Value).toArray bl me cd H locs 0 0 (MQ bl (va_Qi (S := Unit) (fun (r : Int32) (_ : Unit) => r = numV tb L z.2) (rwB G (fun _ : Unit => (lzTp u q (upd (upd S 2 (nI ((numS tb L lo hi z).2))) 3 ((numS tb L lo hi z).1)) ++ lzI G (q 0) 120 tb))) A) ([.ref u, .int lo, .int hi] : List Value).toArray ss 0 0 A) (F0 mm 19 ls []) := by
    intro   H locs hP hD hS ls hl
    refine lv_iconst (v := 0) hx hb dX2_readNumber_19 (by decide) ?_
    refine lv_istore (lv' := [(4, .int 0), (3, .int (nI (figN tb L z.2))), (0, .ref u), (1, .int lo), (2, .int hi)]) hx hb dX2_readNumber_20 hl (by decide) rfl (fun ls hl => ?_)
    refine lv_iconst (v := 0) hx hb dX2_readNumber_22 (by decide) ?_
    refine lv_istore (lv' := [(5, .int 0), (4, .int 0), (3, .int (nI (figN tb L z.2))), (0, .ref u), (1, .int lo), (2, .int hi)]) hx hb dX2_readNumber_23 hl (by decide) rfl (fun ls hl => ?_)
    have J_25 : ∀ (n9 : Nat), ∀ (k : Nat), (k ≤ numK (figN tb L z.2)) → 3 - k < n9 → ∀ (H : Heap) (locs : List Loc), va_P G.1 lzC (lzTp u q (upd S 3 (numE1 tb L z)) ++ lzI G (q 0) 120 tb) H → va_D A (lzTp u q (upd S 3 (numE1 tb L z)) ++ lzI G (q 0) 120 tb) → va_S A ss.heap H locs → ∀ ls : Array Slot, lv_has ls 6 [(4, .int (numF tb L z.2 k)), (5, .int (nI k)), (3, .int (nI (figN tb L z.2))), (0, .ref u), (1, .int lo), (2, .int hi)] → W pp l ee ({ frames := 3, cells := 0, slots := 0, locals := 65 }) ss mm ([.ref u, .int lo, .int hi] : List Value).toArray bl me cd H locs 0 0 (MQ bl (va_Qi (S := Unit) (fun (r : Int32) (_ : Unit) => r = numV tb L z.2) (rwB G (fun _ : Unit => (lzTp u q (upd (upd S 2 (nI ((numS tb L lo hi z).2))) 3 ((numS tb L lo hi z).1)) ++ lzI G (q 0) 120 tb))) A) ([.ref u, .int lo, .int hi] : List Value).toArray ss 0 0 A) (F0 mm 25 ls []) := by
      intro n9
      induction n9 with
      | zero => intro k hk hn; exact absurd hn (Nat.not_lt_zero _)
      | succ n9 ih_25 =>
        intro k hk hn_25 H locs hP hD hS ls hl
        have hk4 : k ≤ 2 := by { unfold numK at hk; split at hk <;> omega }
        refine lv_iload hx hb dX2_readNumber_25 (lv_at hl 1 rfl) ?_
        refine lv_iload_n hx hb dX2_readNumber_27 rfl (lv_at hl 2 rfl) ?_
        refine lv_icmp_ge (tgt := 65) hx hb dX2_readNumber_28 (by decide) (fun c_28 => ?_) (fun c_28 => ?_)
        · skip
          have c_28' := Int32.not_lt.mpr c_28
          have hq : figN tb L z.2 ≤ k := (nI_leI (by omega) (by omega)).mp c_28
          have hk3 : k = numK (figN tb L z.2) := by { unfold numK at hk ⊢; split at hk <;> split <;> omega }
          refine lv_iload hx hb dX2_readNumber_65 (lv_at hl 0 rfl) ?_
          refine lv_iload_n hx hb dX2_readNumber_67 rfl (lv_at hl 4 rfl) ?_
          refine lv_iload_n hx hb dX2_readNumber_68 rfl (lv_at hl 5 rfl) ?_
          refine ro_calli (va_runSN (As := [.int (numF tb L z.2 k), .int lo, .int hi]) (rest := []) ⟨hx, hb, hml, hown, hts⟩ (c_X3_isIn l G (numF tb L z.2 k) lo hi ) (⟨va_cnB (host := RX3) 3 hts gX2_readNumber_X3_isIn_n76 rfl rfl rfl (hK.2 _ (List.mem_of_getElem? (i := 3) rfl)) hw16 (by decide +kernel) ⟨Nat.le_of_ble_eq_true rfl, Nat.le_of_ble_eq_true rfl⟩, hw15, trivial⟩) (ro_pre hK (fun k q h => by simp at h)) rfl rfl hl.1 rfl (lv_room (Nat.le_of_ble_eq_true rfl)) dX2_readNumber_69 ⟨Nat.zero_le _, Nat.zero_le _⟩) (fun r_2 hr_2 => ?_)
          refine lv_if_ne (tgt := 80) hx hb dX2_readNumber_72 (by decide) (fun c_72 => ?_) (fun c_72 => ?_)
          · skip
            have c_72 := b2_n hr_2 c_72
            have hE : numE tb L lo hi z = numE1 tb L z := by { unfold numE numV; rw [← hk3, c_72]; rfl }
            refine lv_aload_n hx hb dX2_readNumber_80 rfl (lv_at hl 3 rfl) ?_
            refine lz_get (G := G) (ci := 2) (v := .int (numE1 tb L z)) (C := RX2) (T := TX2) (N := 4) hx hb hu_wsX20 (fun _ h9 => h9) hown hK hP 0 rfl rfl 3 (by decide) hw2 rfl rfl dX2_readNumber_81 ?_
            refine lv_if_ne (tgt := 97) hx hb dX2_readNumber_84 (by decide) (fun c_84 => ?_) (fun c_84 => ?_)
            · skip
              refine lv_iload hx hb dX2_readNumber_97 (lv_at hl 0 rfl) ?_
              exact rw_iret (S := Unit) (G := G) (Wd := fun _ : Unit => (lzTp u q (upd (upd S 2 (nI ((numS tb L lo hi z).2))) 3 ((numS tb L lo hi z).1)) ++ lzI G (q 0) 120 tb)) () hx hb hr hlk dX2_readNumber_99 hS (by show va_P G.1 lzC (lzTp u q (upd (upd S 2 (nI (if numE tb L lo hi z = 0 then z.2 + figN tb L z.2 else z.2))) 3 (numE tb L lo hi z)) ++ lzI G (q 0) 120 tb) _; rw [hE]; first | (rw [if_pos c_84]; exact hP) | (rw [if_neg c_84, ← hz2]; exact hP)) (by unfold numV; rw [← hk3])
            · skip
              refine lv_aload_n hx hb dX2_readNumber_87 rfl (lv_at hl 3 rfl) ?_
              refine lv_dup hx hb dX2_readNumber_88 rfl ?_
              refine lz_get (G := G) (ci := 2) (v := .int (S 2)) (C := RX2) (T := TX2) (N := 4) hx hb hu_wsX20 (fun _ h9 => h9) hown hK hP 0 rfl rfl 2 (by decide) hw1 rfl rfl dX2_readNumber_89 ?_
              refine lv_iload_n hx hb dX2_readNumber_92 rfl (lv_at hl 2 rfl) ?_
              refine lv_iadd hx hb dX2_readNumber_93 ?_
              refine lz_top (y := nI (z.2 + figN tb L z.2)) (by rw [hz2]; exact nI_add _ _) ?_
              refine lz_put (G := G) (ci := 2) (C := RX2) (T := TX2) (N := 4) hx hb hu_wsX20 (fun _ h9 => h9) tyX2 tyX2_ok nmX2 hown hK hP hD hS 0 rfl rfl 2 (by decide) hw1 rfl rfl (by decide +kernel) (Nat.le_of_ble_eq_true rfl) dX2_readNumber_94 (lzTp u q (upd (upd S 3 (numE1 tb L z)) 2 (nI (z.2 + figN tb L z.2))) ++ lzI G (q 0) 120 tb) rfl (fun H locs hP hD hS => ?_)
              refine lv_iload hx hb dX2_readNumber_97 (lv_at hl 0 rfl) ?_
              exact rw_iret (S := Unit) (G := G) (Wd := fun _ : Unit => (lzTp u q (upd (upd S 2 (nI ((numS tb L lo hi z).2))) 3 ((numS tb L lo hi z).1)) ++ lzI G (q 0) 120 tb)) () hx hb hr hlk dX2_readNumber_99 hS (by show va_P G.1 lzC (lzTp u q (upd (upd S 2 (nI (if numE tb L lo hi z = 0 then z.2 + figN tb L z.2 else z.2))) 3 (numE tb L lo hi z)) ++ lzI G (q 0) 120 tb) _; rw [hE]; first | (rw [if_pos c_84]; exact hP) | (rw [if_neg c_84, ← hz2]; exact hP)) (by unfold numV; rw [← hk3])
          · skip
            have c_72 := b2_z hr_2 c_72
            have hE : numE tb L lo hi z = failI (numE1 tb L z) 2 := by { unfold numE numV; rw [← hk3, c_72]; rfl }
            refine lv_aload_n hx hb dX2_readNumber_75 rfl (lv_at hl 3 rfl) ?_
            refine lv_iconst (v := 2) hx hb dX2_readNumber_76 (by decide) ?_
            have hPc := hP.sub (ws' := lzTp u q (upd S 3 (numE1 tb L z))) [0] rfl
            have hDc := hD.sub (ws' := lzTp u q (upd S 3 (numE1 tb L z))) [0] (by decide) rfl
            have hFc : ∀ zz : Nat, lzA (lzTp u q (upd S 3 (numE1 tb L z))) zz → A zz := lz_free hD [0] rfl
            refine va_callv (va_runV (As := [.int 2]) (rest := []) ⟨hx, hb, hml, hown, hts⟩ (c_X2_fail l G u q (upd S 3 (numE1 tb L z)) 2 ) (cwV 1 hts gX2_readNumber_X2_fail rfl rfl rfl (by decide +kernel) ⟨Nat.le_of_ble_eq_true rfl, Nat.le_of_ble_eq_true rfl⟩) (rw_preV hK hPc hDc hP (ci := 2) (q0 := 0) rfl rfl) rfl rfl hl.1 rfl (lv_room (Nat.le_of_ble_eq_true rfl)) dX2_readNumber_77 ⟨Nat.zero_le _, Nat.zero_le _⟩) hS (fun q _ h => hFc q h) hFc (fun u_4 t9 H1 locs ht hvm hr_3 hB hz1 hk1 hS => ?_)
            replace hB : va_P G.1 lzC _ t9.heap := hB
            rw [ht] at hB
            obtain ⟨hP, hD⟩ := lz_join (wc := lzTp u q (upd S 3 (numE1 tb L z))) (wr := ([(q 0, .inl (G.2 0, 120, .inl tb))] : va_W)) (w1 := lzTp u q (upd S 3 (failI ((numE1 tb L z)) 2))) hP hD [0] [1] rfl rfl (by decide) (by decide) rfl hk1 hB
            replace hP := hP.sub (ws' := (lzTp u q (upd S 3 (failI ((numE1 tb L z)) 2)) ++ lzI G (q 0) 120 tb)) [1, 0] rfl
            replace hD := hD.sub (ws' := (lzTp u q (upd S 3 (failI ((numE1 tb L z)) 2)) ++ lzI G (q 0) 120 tb)) [1, 0] (by decide) rfl
            clear ht hvm hB hz1 hk1
            generalize H1 = H at hP hS ⊢
            refine lv_aload_n hx hb dX2_readNumber_80 rfl (lv_at hl 3 rfl) ?_
            refine lz_get (G := G) (ci := 2) (v := .int (failI ((numE1 tb L z)) 2)) (C := RX2) (T := TX2) (N := 4) hx hb hu_wsX20 (fun _ h9 => h9) hown hK hP 0 rfl rfl 3 (by decide) hw2 rfl rfl dX2_readNumber_81 ?_
            refine lv_if_ne (tgt := 97) hx hb dX2_readNumber_84 (by decide) (fun c_84 => ?_) (fun c_84 => ?_)
            · skip
              refine lv_iload hx hb dX2_readNumber_97 (lv_at hl 0 rfl) ?_
              exact rw_iret (S := Unit) (G := G) (Wd := fun _ : Unit => (lzTp u q (upd (upd S 2 (nI ((numS tb L lo hi z).2))) 3 ((numS tb L lo hi z).1)) ++ lzI G (q 0) 120 tb)) () hx hb hr hlk dX2_readNumber_99 hS (by show va_P G.1 lzC (lzTp u q (upd (upd S 2 (nI (if numE tb L lo hi z = 0 then z.2 + figN tb L z.2 else z.2))) 3 (numE tb L lo hi z)) ++ lzI G (q 0) 120 tb) _; rw [hE]; first | (rw [if_pos c_84]; exact hP) | (rw [if_neg c_84, ← hz2]; exact hP)) (by unfold numV; rw [← hk3])
            · skip
              refine lv_aload_n hx hb dX2_readNumber_87 rfl (lv_at hl 3 rfl) ?_
              refine lv_dup hx hb dX2_readNumber_88 rfl ?_
              refine lz_get (G := G) (ci := 2) (v := .int (S 2)) (C := RX2) (T := TX2) (N := 4) hx hb hu_wsX20 (fun _ h9 => h9) hown hK hP 0 rfl rfl 2 (by decide) hw1 rfl rfl dX2_readNumber_89 ?_
              refine lv_iload_n hx hb dX2_readNumber_92 rfl (lv_at hl 2 rfl) ?_
              refine lv_iadd hx hb dX2_readNumber_93 ?_
              refine lz_top (y := nI (z.2 + figN tb L z.2)) (by rw [hz2]; exact nI_add _ _) ?_
              refine lz_put (G := G) (ci := 2) (C := RX2) (T := TX2) (N := 4) hx hb hu_wsX20 (fun _ h9 => h9) tyX2 tyX2_ok nmX2 hown hK hP hD hS 0 rfl rfl 2 (by decide) hw1 rfl rfl (by decide +kernel) (Nat.le_of_ble_eq_true rfl) dX2_readNumber_94 (lzTp u q (upd (upd S 3 (failI ((numE1 tb L z)) 2)) 2 (nI (z.2 + figN tb L z.2))) ++ lzI G (q 0) 120 tb) rfl (fun H locs hP hD hS => ?_)
              refine lv_iload hx hb dX2_readNumber_97 (lv_at hl 0 rfl) ?_
              exact rw_iret (S := Unit) (G := G) (Wd := fun _ : Unit => (lzTp u q (upd (upd S 2 (nI ((numS tb L lo hi z).2))) 3 ((numS tb L lo hi z).1)) ++ lzI G (q 0) 120 tb)) () hx hb hr hlk dX2_readNumber_99 hS (by show va_P G.1 lzC (lzTp u q (upd (upd S 2 (nI (if numE tb L lo hi z = 0 then z.2 + figN tb L z.2 else z.2))) 3 (numE tb L lo hi z)) ++ lzI G (q 0) 120 tb) _; rw [hE]; first | (rw [if_pos c_84]; exact hP) | (rw [if_neg c_84, ← hz2]; exact hP)) (by unfold numV; rw [← hk3])
        · skip
          have c_28' := Int32.not_le.mp c_28
          have hq : k < figN tb L z.2 := (nI_ltI (by omega) (by omega)).mp c_28'
          refine lv_iload hx hb dX2_readNumber_31 (lv_at hl 1 rfl) ?_
          refine lv_iconst (v := 2) hx hb dX2_readNumber_33 (by decide) ?_
          refine lv_icmp_ge (tgt := 65) hx hb dX2_readNumber_34 (by decide) (fun c_34 => ?_) (fun c_34 => ?_)
          · skip
            have c_34' := Int32.not_lt.mpr c_34
            have hq2 : 2 ≤ k := (nI_leI (a := 2) (by omega) (by omega)).mp c_34
            have hk3 : k = numK (figN tb L z.2) := by { unfold numK at hk ⊢; split at hk <;> split <;> omega }
            refine lv_iload hx hb dX2_readNumber_65 (lv_at hl 0 rfl) ?_
            refine lv_iload_n hx hb dX2_readNumber_67 rfl (lv_at hl 4 rfl) ?_
            refine lv_iload_n hx hb dX2_readNumber_68 rfl (lv_at hl 5 rfl) ?_
            refine ro_calli (va_runSN (As := [.int (numF tb L z.2 k), .int lo, .int hi]) (rest := []) ⟨hx, hb, hml, hown, hts⟩ (c_X3_isIn l G (numF tb L z.2 k) lo hi ) (⟨va_cnB (host := RX3) 3 hts gX2_readNumber_X3_isIn_n76 rfl rfl rfl (hK.2 _ (List.mem_of_getElem? (i := 3) rfl)) hw16 (by decide +kernel) ⟨Nat.le_of_ble_eq_true rfl, Nat.le_of_ble_eq_true rfl⟩, hw15, trivial⟩) (ro_pre hK (fun k q h => by simp at h)) rfl rfl hl.1 rfl (lv_room (Nat.le_of_ble_eq_true rfl)) dX2_readNumber_69 ⟨Nat.zero_le _, Nat.zero_le _⟩) (fun r_5 hr_5 => ?_)
            refine lv_if_ne (tgt := 80) hx hb dX2_readNumber_72 (by decide) (fun c_72 => ?_) (fun c_72 => ?_)
            · skip
              have c_72 := b2_n hr_5 c_72
              have hE : numE tb L lo hi z = numE1 tb L z := by { unfold numE numV; rw [← hk3, c_72]; rfl }
              refine lv_aload_n hx hb dX2_readNumber_80 rfl (lv_at hl 3 rfl) ?_
              refine lz_get (G := G) (ci := 2) (v := .int (numE1 tb L z)) (C := RX2) (T := TX2) (N := 4) hx hb hu_wsX20 (fun _ h9 => h9) hown hK hP 0 rfl rfl 3 (by decide) hw2 rfl rfl dX2_readNumber_81 ?_
              refine lv_if_ne (tgt := 97) hx hb dX2_readNumber_84 (by decide) (fun c_84 => ?_) (fun c_84 => ?_)
              · skip
                refine lv_iload hx hb dX2_readNumber_97 (lv_at hl 0 rfl) ?_
                exact rw_iret (S := Unit) (G := G) (Wd := fun _ : Unit => (lzTp u q (upd (upd S 2 (nI ((numS tb L lo hi z).2))) 3 ((numS tb L lo hi z).1)) ++ lzI G (q 0) 120 tb)) () hx hb hr hlk dX2_readNumber_99 hS (by show va_P G.1 lzC (lzTp u q (upd (upd S 2 (nI (if numE tb L lo hi z = 0 then z.2 + figN tb L z.2 else z.2))) 3 (numE tb L lo hi z)) ++ lzI G (q 0) 120 tb) _; rw [hE]; first | (rw [if_pos c_84]; exact hP) | (rw [if_neg c_84, ← hz2]; exact hP)) (by unfold numV; rw [← hk3])
              · skip
                refine lv_aload_n hx hb dX2_readNumber_87 rfl (lv_at hl 3 rfl) ?_
                refine lv_dup hx hb dX2_readNumber_88 rfl ?_
                refine lz_get (G := G) (ci := 2) (v := .int (S 2)) (C := RX2) (T := TX2) (N := 4) hx hb hu_wsX20 (fun _ h9 => h9) hown hK hP 0 rfl rfl 2 (by decide) hw1 rfl rfl dX2_readNumber_89 ?_
                refine lv_iload_n hx hb dX2_readNumber_92 rfl (lv_at hl 2 rfl) ?_
                refine lv_iadd hx hb dX2_readNumber_93 ?_
                refine lz_top (y := nI (z.2 + figN tb L z.2)) (by rw [hz2]; exact nI_add _ _) ?_
                refine lz_put (G := G) (ci := 2) (C := RX2) (T := TX2) (N := 4) hx hb hu_wsX20 (fun _ h9 => h9) tyX2 tyX2_ok nmX2 hown hK hP hD hS 0 rfl rfl 2 (by decide) hw1 rfl rfl (by decide +kernel) (Nat.le_of_ble_eq_true rfl) dX2_readNumber_94 (lzTp u q (upd (upd S 3 (numE1 tb L z)) 2 (nI (z.2 + figN tb L z.2))) ++ lzI G (q 0) 120 tb) rfl (fun H locs hP hD hS => ?_)
                refine lv_iload hx hb dX2_readNumber_97 (lv_at hl 0 rfl) ?_
                exact rw_iret (S := Unit) (G := G) (Wd := fun _ : Unit => (lzTp u q (upd (upd S 2 (nI ((numS tb L lo hi z).2))) 3 ((numS tb L lo hi z).1)) ++ lzI G (q 0) 120 tb)) () hx hb hr hlk dX2_readNumber_99 hS (by show va_P G.1 lzC (lzTp u q (upd (upd S 2 (nI (if numE tb L lo hi z = 0 then z.2 + figN tb L z.2 else z.2))) 3 (numE tb L lo hi z)) ++ lzI G (q 0) 120 tb) _; rw [hE]; first | (rw [if_pos c_84]; exact hP) | (rw [if_neg c_84, ← hz2]; exact hP)) (by unfold numV; rw [← hk3])
            · skip
              have c_72 := b2_z hr_5 c_72
              have hE : numE tb L lo hi z = failI (numE1 tb L z) 2 := by { unfold numE numV; rw [← hk3, c_72]; rfl }
              refine lv_aload_n hx hb dX2_readNumber_75 rfl (lv_at hl 3 rfl) ?_
              refine lv_iconst (v := 2) hx hb dX2_readNumber_76 (by decide) ?_
              have hPc := hP.sub (ws' := lzTp u q (upd S 3 (numE1 tb L z))) [0] rfl
              have hDc := hD.sub (ws' := lzTp u q (upd S 3 (numE1 tb L z))) [0] (by decide) rfl
              have hFc : ∀ zz : Nat, lzA (lzTp u q (upd S 3 (numE1 tb L z))) zz → A zz := lz_free hD [0] rfl
              refine va_callv (va_runV (As := [.int 2]) (rest := []) ⟨hx, hb, hml, hown, hts⟩ (c_X2_fail l G u q (upd S 3 (numE1 tb L z)) 2 ) (cwV 1 hts gX2_readNumber_X2_fail rfl rfl rfl (by decide +kernel) ⟨Nat.le_of_ble_eq_true rfl, Nat.le_of_ble_eq_true rfl⟩) (rw_preV hK hPc hDc hP (ci := 2) (q0 := 0) rfl rfl) rfl rfl hl.1 rfl (lv_room (Nat.le_of_ble_eq_true rfl)) dX2_readNumber_77 ⟨Nat.zero_le _, Nat.zero_le _⟩) hS (fun q _ h => hFc q h) hFc (fun u_7 t9 H1 locs ht hvm hr_6 hB hz1 hk1 hS => ?_)
              replace hB : va_P G.1 lzC _ t9.heap := hB
              rw [ht] at hB
              obtain ⟨hP, hD⟩ := lz_join (wc := lzTp u q (upd S 3 (numE1 tb L z))) (wr := ([(q 0, .inl (G.2 0, 120, .inl tb))] : va_W)) (w1 := lzTp u q (upd S 3 (failI ((numE1 tb L z)) 2))) hP hD [0] [1] rfl rfl (by decide) (by decide) rfl hk1 hB
              replace hP := hP.sub (ws' := (lzTp u q (upd S 3 (failI ((numE1 tb L z)) 2)) ++ lzI G (q 0) 120 tb)) [1, 0] rfl
              replace hD := hD.sub (ws' := (lzTp u q (upd S 3 (failI ((numE1 tb L z)) 2)) ++ lzI G (q 0) 120 tb)) [1, 0] (by decide) rfl
              clear ht hvm hB hz1 hk1
              generalize H1 = H at hP hS ⊢
              refine lv_aload_n hx hb dX2_readNumber_80 rfl (lv_at hl 3 rfl) ?_
              refine lz_get (G := G) (ci := 2) (v := .int (failI ((numE1 tb L z)) 2)) (C := RX2) (T := TX2) (N := 4) hx hb hu_wsX20 (fun _ h9 => h9) hown hK hP 0 rfl rfl 3 (by decide) hw2 rfl rfl dX2_readNumber_81 ?_
              refine lv_if_ne (tgt := 97) hx hb dX2_readNumber_84 (by decide) (fun c_84 => ?_) (fun c_84 => ?_)
              · skip
                refine lv_iload hx hb dX2_readNumber_97 (lv_at hl 0 rfl) ?_
                exact rw_iret (S := Unit) (G := G) (Wd := fun _ : Unit => (lzTp u q (upd (upd S 2 (nI ((numS tb L lo hi z).2))) 3 ((numS tb L lo hi z).1)) ++ lzI G (q 0) 120 tb)) () hx hb hr hlk dX2_readNumber_99 hS (by show va_P G.1 lzC (lzTp u q (upd (upd S 2 (nI (if numE tb L lo hi z = 0 then z.2 + figN tb L z.2 else z.2))) 3 (numE tb L lo hi z)) ++ lzI G (q 0) 120 tb) _; rw [hE]; first | (rw [if_pos c_84]; exact hP) | (rw [if_neg c_84, ← hz2]; exact hP)) (by unfold numV; rw [← hk3])
              · skip
                refine lv_aload_n hx hb dX2_readNumber_87 rfl (lv_at hl 3 rfl) ?_
                refine lv_dup hx hb dX2_readNumber_88 rfl ?_
                refine lz_get (G := G) (ci := 2) (v := .int (S 2)) (C := RX2) (T := TX2) (N := 4) hx hb hu_wsX20 (fun _ h9 => h9) hown hK hP 0 rfl rfl 2 (by decide) hw1 rfl rfl dX2_readNumber_89 ?_
                refine lv_iload_n hx hb dX2_readNumber_92 rfl (lv_at hl 2 rfl) ?_
                refine lv_iadd hx hb dX2_readNumber_93 ?_
                refine lz_top (y := nI (z.2 + figN tb L z.2)) (by rw [hz2]; exact nI_add _ _) ?_
                refine lz_put (G := G) (ci := 2) (C := RX2) (T := TX2) (N := 4) hx hb hu_wsX20 (fun _ h9 => h9) tyX2 tyX2_ok nmX2 hown hK hP hD hS 0 rfl rfl 2 (by decide) hw1 rfl rfl (by decide +kernel) (Nat.le_of_ble_eq_true rfl) dX2_readNumber_94 (lzTp u q (upd (upd S 3 (failI ((numE1 tb L z)) 2)) 2 (nI (z.2 + figN tb L z.2))) ++ lzI G (q 0) 120 tb) rfl (fun H locs hP hD hS => ?_)
                refine lv_iload hx hb dX2_readNumber_97 (lv_at hl 0 rfl) ?_
                exact rw_iret (S := Unit) (G := G) (Wd := fun _ : Unit => (lzTp u q (upd (upd S 2 (nI ((numS tb L lo hi z).2))) 3 ((numS tb L lo hi z).1)) ++ lzI G (q 0) 120 tb)) () hx hb hr hlk dX2_readNumber_99 hS (by show va_P G.1 lzC (lzTp u q (upd (upd S 2 (nI (if numE tb L lo hi z = 0 then z.2 + figN tb L z.2 else z.2))) 3 (numE tb L lo hi z)) ++ lzI G (q 0) 120 tb) _; rw [hE]; first | (rw [if_pos c_84]; exact hP) | (rw [if_neg c_84, ← hz2]; exact hP)) (by unfold numV; rw [← hk3])
          · skip
            have c_34' := Int32.not_le.mp c_34
            have hq2 : k < 2 := (nI_ltI (b := 2) (by omega) (by omega)).mp c_34'
            refine lv_iload hx hb dX2_readNumber_37 (lv_at hl 0 rfl) ?_
            refine lv_bipush (v := 10) hx hb dX2_readNumber_39 (by decide) ?_
            refine lv_imul hx hb dX2_readNumber_41 ?_
            refine lv_aload_n hx hb dX2_readNumber_42 rfl (lv_at hl 3 rfl) ?_
            refine lv_aload_n hx hb dX2_readNumber_43 rfl (lv_at hl 3 rfl) ?_
            refine lz_get (G := G) (ci := 2) (v := .int (S 2)) (C := RX2) (T := TX2) (N := 4) hx hb hu_wsX20 (fun _ h9 => h9) hown hK hP 0 rfl rfl 2 (by decide) hw1 rfl rfl dX2_readNumber_44 ?_
            refine lv_iload hx hb dX2_readNumber_47 (lv_at hl 1 rfl) ?_
            refine lv_iadd hx hb dX2_readNumber_49 ?_
            refine lz_top (y := nI (z.2 + k)) (by rw [hz2]; exact nI_add _ _) ?_
            refine ro_calli (va_runV (As := [.int (nI (z.2 + k))]) (rest := [.int ((numF tb L z.2 k) * 10)]) ⟨hx, hb, hml, hown, hts⟩ (c_X2_byteAt l G u q (upd S 3 (numE1 tb L z)) tb L (z.2 + k) (hL) (hL1) (by omega)) (cwV 1 hts gX2_readNumber_X2_byteAt rfl rfl rfl (by decide +kernel) ⟨Nat.le_of_ble_eq_true rfl, Nat.le_of_ble_eq_true rfl⟩) (ro_preV hK hP hP (ci := 2) (q0 := 0) rfl rfl) rfl rfl hl.1 rfl (lv_room (Nat.le_of_ble_eq_true rfl)) dX2_readNumber_50 ⟨Nat.zero_le _, Nat.zero_le _⟩) (fun r_8 hr_8 => ?_)
            refine lz_top (y := byI tb L (z.2 + k)) hr_8 ?_
            refine lv_iadd hx hb dX2_readNumber_53 ?_
            refine lv_bipush (v := 48) hx hb dX2_readNumber_54 (by decide) ?_
            refine lv_isub hx hb dX2_readNumber_56 ?_
            refine lv_topi (fun x_9 ex_9 => ?_)
            refine lv_istore (lv' := [(4, .int x_9), (5, .int (nI k)), (3, .int (nI (figN tb L z.2))), (0, .ref u), (1, .int lo), (2, .int hi)]) hx hb dX2_readNumber_57 hl (by decide) rfl (fun ls hl => ?_)
            refine lv_iinc (v := nI (k + 1)) (lv' := [(5, .int (nI (k + 1))), (4, .int x_9), (3, .int (nI (figN tb L z.2))), (0, .ref u), (1, .int lo), (2, .int hi)]) hx hb dX2_readNumber_59 hl (k := 1) rfl (nI_1 _) (by decide) rfl (fun ls hl => ?_)
            refine lv_goto (tgt := 25) hx hb dX2_readNumber_62 (by decide) ?_
            obtain rfl : x_9 = numF tb L z.2 (k + 1) := by rw [ex_9]; rfl
            exact ih_25 (k + 1) (by unfold numK; split <;> omega) (by unfold numK at hk; split at hk <;> omega) _ _ hP hD hS _ (lv_sub hl [1, 0, 2, 3, 4, 5] rfl)
    exact J_25 _ 0 (Nat.zero_le _) (Nat.lt_succ_self _) _ _ hP hD hS _ (lv_sub hl [1, 0, 2, 3, 4, 5] rfl)
  refine lv_iload_n hx hb dX2_readNumber_5 rfl (lv_at hl 0 rfl) ?_
  refine lv_if_eq (tgt := 14) hx hb dX2_readNumber_6 (by decide) (fun c_6 => ?_) (fun c_6 => ?_)
  · skip
    have hf : figN tb L z.2 = 0 := (nI_eq (b := 0) (by omega) (by omega)).mp c_6
    refine lv_aload_n hx hb dX2_readNumber_14 rfl (lv_at hl 1 rfl) ?_
    refine lv_iconst (v := 1) hx hb dX2_readNumber_15 (by decide) ?_
    have hPc := hP.sub (ws' := lzTp u q S) [0] rfl
    have hDc := hD.sub (ws' := lzTp u q S) [0] (by decide) rfl
    have hFc : ∀ zz : Nat, lzA (lzTp u q S) zz → A zz := lz_free hD [0] rfl
    refine va_callv (va_runV (As := [.int 1]) (rest := []) ⟨hx, hb, hml, hown, hts⟩ (c_X2_fail l G u q S 1 ) (cwV 1 hts gX2_readNumber_X2_fail rfl rfl rfl (by decide +kernel) ⟨Nat.le_of_ble_eq_true rfl, Nat.le_of_ble_eq_true rfl⟩) (rw_preV hK hPc hDc hP (ci := 2) (q0 := 0) rfl rfl) rfl rfl hl.1 rfl (lv_room (Nat.le_of_ble_eq_true rfl)) dX2_readNumber_16 ⟨Nat.zero_le _, Nat.zero_le _⟩) hS (fun q _ h => hFc q h) hFc (fun u_11 t9 H1 locs ht hvm hr_10 hB hz1 hk1 hS => ?_)
    replace hB : va_P G.1 lzC _ t9.heap := hB
    rw [ht] at hB
    obtain ⟨hP, hD⟩ := lz_join (wc := lzTp u q S) (wr := ([(q 0, .inl (G.2 0, 120, .inl tb))] : va_W)) (w1 := lzTp u q (upd S 3 (failI ((S 3)) 1))) hP hD [0] [1] rfl rfl (by decide) (by decide) rfl hk1 hB
    replace hP := hP.sub (ws' := (lzTp u q (upd S 3 (failI ((S 3)) 1)) ++ lzI G (q 0) 120 tb)) [1, 0] rfl
    replace hD := hD.sub (ws' := (lzTp u q (upd S 3 (failI ((S 3)) 1)) ++ lzI G (q 0) 120 tb)) [1, 0] (by decide) rfl
    clear ht hvm hB hz1 hk1
    generalize H1 = H at hP hS ⊢
    have hE_12 : failI ((S 3)) 1 = numE1 tb L z := by unfold numE1; rw [← hz1]; first | rw [if_pos (Or.inl hf)] | rw [if_pos (Or.inr hf)] | rw [if_neg (fun h9 => h9.elim hf (fun h8 => absurd h8 (by omega)))]
    replace hP : va_P G.1 lzC (lzTp u q (upd S 3 (numE1 tb L z)) ++ lzI G (q 0) 120 tb) H := by rw [← hE_12]; exact hP
    replace hD : va_D A (lzTp u q (upd S 3 (numE1 tb L z)) ++ lzI G (q 0) 120 tb) := by rw [← hE_12]; exact hD
    exact J_19   _ _ hP hD hS _ (lv_sub hl [0, 1, 2, 3] rfl)
  · skip
    have hf : ¬ figN tb L z.2 = 0 := fun h9 => c_6 (by rw [h9]; rfl)
    refine lv_iload_n hx hb dX2_readNumber_9 rfl (lv_at hl 0 rfl) ?_
    refine lv_iconst (v := 2) hx hb dX2_readNumber_10 (by decide) ?_
    refine lv_icmp_le (tgt := 19) hx hb dX2_readNumber_11 (by decide) (fun c_11 => ?_) (fun c_11 => ?_)
    · skip
      have c_11' := Int32.not_lt.mpr c_11
      have hf2 : figN tb L z.2 ≤ 2 := (nI_leI (b := 2) (by omega) (by omega)).mp c_11
      have hE_13 : S 3 = numE1 tb L z := by unfold numE1; rw [← hz1]; first | rw [if_pos (Or.inl hf)] | rw [if_pos (Or.inr hf)] | rw [if_neg (fun h9 => h9.elim hf (fun h8 => absurd h8 (by omega)))]
      replace hP : va_P G.1 lzC (lzTp u q (upd S 3 (numE1 tb L z)) ++ lzI G (q 0) 120 tb) ss.heap := by rw [← hE_13]; exact hP
      replace hD : va_D A (lzTp u q (upd S 3 (numE1 tb L z)) ++ lzI G (q 0) 120 tb) := by rw [← hE_13]; exact hD
      exact J_19   _ _ hP hD hS _ (lv_sub hl [0, 1, 2, 3] rfl)
    · skip
      have c_11' := Int32.not_le.mp c_11
      have hf : 2 < figN tb L z.2 := (nI_ltI (a := 2) (by omega) (by omega)).mp c_11'
      refine lv_aload_n hx hb dX2_readNumber_14 rfl (lv_at hl 1 rfl) ?_
      refine lv_iconst (v := 1) hx hb dX2_readNumber_15 (by decide) ?_
      have hPc := hP.sub (ws' := lzTp u q S) [0] rfl
      have hDc := hD.sub (ws' := lzTp u q S) [0] (by decide) rfl
      have hFc : ∀ zz : Nat, lzA (lzTp u q S) zz → A zz := lz_free hD [0] rfl
      refine va_callv (va_runV (As := [.int 1]) (rest := []) ⟨hx, hb, hml, hown, hts⟩ (c_X2_fail l G u q S 1 ) (cwV 1 hts gX2_readNumber_X2_fail rfl rfl rfl (by decide +kernel) ⟨Nat.le_of_ble_eq_true rfl, Nat.le_of_ble_eq_true rfl⟩) (rw_preV hK hPc hDc hP (ci := 2) (q0 := 0) rfl rfl) rfl rfl hl.1 rfl (lv_room (Nat.le_of_ble_eq_true rfl)) dX2_readNumber_16 ⟨Nat.zero_le _, Nat.zero_le _⟩) hS (fun q _ h => hFc q h) hFc (fun u_15 t9 H1 locs ht hvm hr_14 hB hz1 hk1 hS => ?_)
      replace hB : va_P G.1 lzC _ t9.heap := hB
      rw [ht] at hB
      obtain ⟨hP, hD⟩ := lz_join (wc := lzTp u q S) (wr := ([(q 0, .inl (G.2 0, 120, .inl tb))] : va_W)) (w1 := lzTp u q (upd S 3 (failI ((S 3)) 1))) hP hD [0] [1] rfl rfl (by decide) (by decide) rfl hk1 hB
      replace hP := hP.sub (ws' := (lzTp u q (upd S 3 (failI ((S 3)) 1)) ++ lzI G (q 0) 120 tb)) [1, 0] rfl
      replace hD := hD.sub (ws' := (lzTp u q (upd S 3 (failI ((S 3)) 1)) ++ lzI G (q 0) 120 tb)) [1, 0] (by decide) rfl
      clear ht hvm hB hz1 hk1
      generalize H1 = H at hP hS ⊢
      have hE_16 : failI ((S 3)) 1 = numE1 tb L z := by unfold numE1; rw [← hz1]; first | rw [if_pos (Or.inl hf)] | rw [if_pos (Or.inr hf)] | rw [if_neg (fun h9 => h9.elim hf (fun h8 => absurd h8 (by omega)))]
      replace hP : va_P G.1 lzC (lzTp u q (upd S 3 (numE1 tb L z)) ++ lzI G (q 0) 120 tb) H := by rw [← hE_16]; exact hP
      replace hD : va_D A (lzTp u q (upd S 3 (numE1 tb L z)) ++ lzI G (q 0) 120 tb) := by rw [← hE_16]; exact hD
      exact J_19   _ _ hP hD hS _ (lv_sub hl [0, 1, 2, 3] rfl)
set_option maxHeartbeats 4000000 in
set_option maxRecDepth 100000 in
theorem c_X2_readLaw (l : Launch) (G : lzG) (u : Nat) (q : Nat → Nat) (S : Nat → Int32) (tb : Nat → Int32) (L : Nat) (z : Int32 × Nat) (h : Nat) (q2 : Nat → Nat) (D : Nat → Int32) (E : Nat → Nat → Int32) (hL : S 1 = nI L) (hL1 : L ≤ 120) (hz1 : S 3 = z.1) (hz2 : S 2 = nI z.2) (hz3 : z.2 ≤ L) : Met l yX2_readLaw wsX2_readLaw ({ frames := 4, cells := 0, slots := 0, locals := 90 }) (va_Pc [.ref u, .ref h] (rwP G (lzTp u q S ++ (lzI G (q 0) 120 tb ++ (lzDoor G h q2 D E))))) (va_Qv (S := Unit) (fun _ : Unit => True) (rwB G (fun _ : Unit => (lzTp u q (upd (upd S 2 (nI ((lawZ tb L z).2))) 3 ((lawZ tb L z).1)) ++ (lzI G (q 0) 120 tb ++ (lzDoor G h q2 (upd (upd D 0 (numV tb L ((lawA tb L z).2))) 1 (numV tb L ((lawB tb L z).2))) E))))) (lzA (lzTp u q S ++ (lzI G (q 0) 120 tb ++ (lzDoor G h q2 D E))))) 0 0 (lzA (lzTp u q S ++ (lzI G (q 0) 120 tb ++ (lzDoor G h q2 D E)))) := by
  refine rw_start (S := Unit) (cc := cX2_readLaw) (maxL := 2) (ret := none) (by decide) rfl (Nat.le_of_ble_eq_true rfl) ?_
  intro pp ee ss mm bl me cd A hx hb hr hlk hml hts hown hP hK hD hAe hS ls hl
  have hA0 : ∀ zz : Nat, lzA (lzTp u q S ++ (lzI G (q 0) 120 tb ++ (lzDoor G h q2 D E))) zz → A zz := fun zz h9 => by rw [hAe]; exact h9
  rw [← hAe]
  clear hAe
  have hown : ss.vm.findClass RX2 = some mm.cls := hown
  have hw1 := hts (.fieldLink RX2 47 "LampSquares$Door" "edge" "I") (List.mem_of_getElem? (i := 1) rfl)
  have hw2 := hts (.fieldLink RX2 52 "LampSquares$Door" "strict" "I") (List.mem_of_getElem? (i := 2) rfl)
  have hu_wsX10 : ∀ w ∈ wsX10, w.before ([.ref u, .ref h] : List Value).toArray ss = true := fun w h9 => hts w (List.mem_cons_of_mem _ (List.mem_append_left _ (List.mem_append_right _ h9)))
  have hl : lv_has ls 2 [(0, .ref u), (1, .ref h)] := hl
  refine lv_aload_n hx hb dX2_readLaw_0 rfl (lv_at hl 0 rfl) ?_
  refine lv_bipush (v := 100) hx hb dX2_readLaw_1 (by decide) ?_
  have hPc := hP.sub (ws' := (lzTp u q S ++ lzI G (q 0) 120 tb)) [0, 1] rfl
  have hDc := hD.sub (ws' := (lzTp u q S ++ lzI G (q 0) 120 tb)) [0, 1] (by decide) rfl
  have hFc : ∀ zz : Nat, lzA (lzTp u q S ++ lzI G (q 0) 120 tb) zz → A zz := lz_free hD [0, 1] rfl
  refine va_callv (va_runV (As := [.int 100]) (rest := []) ⟨hx, hb, hml, hown, hts⟩ (c_X2_readSign l G u q S tb L z 100 (hL) (hL1) (hz1) (hz2) (hz3)) (cwV 1 hts gX2_readLaw_X2_readSign rfl rfl rfl (by decide +kernel) ⟨Nat.le_of_ble_eq_true rfl, Nat.le_of_ble_eq_true rfl⟩) (rw_preV hK hPc hDc hP (ci := 2) (q0 := 0) rfl rfl) rfl rfl hl.1 rfl (lv_room (Nat.le_of_ble_eq_true rfl)) dX2_readLaw_3 ⟨Nat.zero_le _, Nat.zero_le _⟩) hS (fun q _ h => hFc q h) hFc (fun u_2 t9 H1 locs ht hvm hr_1 hB hz1 hk1 hS => ?_)
  replace hB : va_P G.1 lzC _ t9.heap := hB
  rw [ht] at hB
  obtain ⟨hP, hD⟩ := lz_join (wc := (lzTp u q S ++ lzI G (q 0) 120 tb)) (wr := ([(h, .inr (1, [.int (D 0), .int (D 1), .int (D 2), .int (D 3), .ref (q2 4), .ref (q2 5), .ref (q2 6), .ref (q2 7), .ref (q2 8), .ref (q2 9), .ref (q2 10), .ref (q2 11), .ref (q2 12), .ref (q2 13)])), (q2 4, .inl (G.2 0, 8, .inl (E 4))), (q2 5, .inl (G.2 0, 8, .inl (E 5))), (q2 6, .inl (G.2 0, 8, .inl (E 6))), (q2 7, .inl (G.2 0, 8, .inl (E 7))), (q2 8, .inl (G.2 0, 8, .inl (E 8))), (q2 9, .inl (G.2 0, 5, .inl (E 9))), (q2 10, .inl (G.2 0, 5, .inl (E 10))), (q2 11, .inl (G.2 0, 5, .inl (E 11))), (q2 12, .inl (G.2 0, 5, .inl (E 12))), (q2 13, .inl (G.2 0, 5, .inl (E 13)))] : va_W)) (w1 := (lzTp u q (upd (upd S 2 (nI ((sgnS tb L 100 z).2))) 3 ((sgnS tb L 100 z).1)) ++ lzI G (q 0) 120 tb)) hP hD [0, 1] [2, 3, 4, 5, 6, 7, 8, 9, 10, 11, 12] rfl rfl (by decide) (by decide) rfl hk1 hB
  replace hP := hP.sub (ws' := (lzTp u q (upd (upd S 2 (nI ((sgnS tb L 100 z).2))) 3 ((sgnS tb L 100 z).1)) ++ (lzI G (q 0) 120 tb ++ (lzDoor G h q2 D E)))) [11, 12, 0, 1, 2, 3, 4, 5, 6, 7, 8, 9, 10] rfl
  replace hD := hD.sub (ws' := (lzTp u q (upd (upd S 2 (nI ((sgnS tb L 100 z).2))) 3 ((sgnS tb L 100 z).1)) ++ (lzI G (q 0) 120 tb ++ (lzDoor G h q2 D E)))) [11, 12, 0, 1, 2, 3, 4, 5, 6, 7, 8, 9, 10] (by decide) rfl
  clear ht hvm hB hz1 hk1
  generalize H1 = H at hP hS ⊢
  obtain ⟨z1, h_z1⟩ : ∃ y : Int32 × Nat, y = sgnS tb L 100 z := ⟨_, rfl⟩
  rw [← h_z1] at hP hD
  have hle_z1 : z1.2 ≤ L := by rw [h_z1]; exact (sgnS_le (by decide) hz3)
  refine lv_aload_n hx hb dX2_readLaw_6 rfl (lv_at hl 1 rfl) ?_
  refine lv_aload_n hx hb dX2_readLaw_7 rfl (lv_at hl 0 rfl) ?_
  refine lv_iconst (v := 1) hx hb dX2_readLaw_8 (by decide) ?_
  refine lv_bipush (v := 9) hx hb dX2_readLaw_9 (by decide) ?_
  have hPc := hP.sub (ws' := (lzTp u q (upd (upd S 2 (nI z1.2)) 3 z1.1) ++ lzI G (q 0) 120 tb)) [0, 1] rfl
  have hDc := hD.sub (ws' := (lzTp u q (upd (upd S 2 (nI z1.2)) 3 z1.1) ++ lzI G (q 0) 120 tb)) [0, 1] (by decide) rfl
  have hFc : ∀ zz : Nat, lzA (lzTp u q (upd (upd S 2 (nI z1.2)) 3 z1.1) ++ lzI G (q 0) 120 tb) zz → A zz := lz_free hD [0, 1] rfl
  refine va_calli (va_runV (As := [.int 1, .int 9]) (rest := [.ref h]) ⟨hx, hb, hml, hown, hts⟩ (c_X2_readNumber l G u q (upd (upd S 2 (nI z1.2)) 3 z1.1) tb L z1 1 9 (hL) (hL1) (rfl) (rfl) (hle_z1)) (cwV 2 hts gX2_readLaw_X2_readNumber rfl rfl rfl (by decide +kernel) ⟨Nat.le_of_ble_eq_true rfl, Nat.le_of_ble_eq_true rfl⟩) (rw_preV hK hPc hDc hP (ci := 2) (q0 := 0) rfl rfl) rfl rfl hl.1 rfl (lv_room (Nat.le_of_ble_eq_true rfl)) dX2_readLaw_11 ⟨Nat.zero_le _, Nat.zero_le _⟩) hS (fun q _ h => hFc q h) hFc (fun r_3 u_4 t9 H1 locs ht hvm hr_3 hB hz1 hk1 hS => ?_)
  replace hB : va_P G.1 lzC _ t9.heap := hB
  rw [ht] at hB
  obtain ⟨hP, hD⟩ := lz_join (wc := (lzTp u q (upd (upd S 2 (nI z1.2)) 3 z1.1) ++ lzI G (q 0) 120 tb)) (wr := ([(h, .inr (1, [.int (D 0), .int (D 1), .int (D 2), .int (D 3), .ref (q2 4), .ref (q2 5), .ref (q2 6), .ref (q2 7), .ref (q2 8), .ref (q2 9), .ref (q2 10), .ref (q2 11), .ref (q2 12), .ref (q2 13)])), (q2 4, .inl (G.2 0, 8, .inl (E 4))), (q2 5, .inl (G.2 0, 8, .inl (E 5))), (q2 6, .inl (G.2 0, 8, .inl (E 6))), (q2 7, .inl (G.2 0, 8, .inl (E 7))), (q2 8, .inl (G.2 0, 8, .inl (E 8))), (q2 9, .inl (G.2 0, 5, .inl (E 9))), (q2 10, .inl (G.2 0, 5, .inl (E 10))), (q2 11, .inl (G.2 0, 5, .inl (E 11))), (q2 12, .inl (G.2 0, 5, .inl (E 12))), (q2 13, .inl (G.2 0, 5, .inl (E 13)))] : va_W)) (w1 := (lzTp u q (upd (upd S 2 (nI ((numS tb L 1 9 z1).2))) 3 ((numS tb L 1 9 z1).1)) ++ lzI G (q 0) 120 tb)) hP hD [0, 1] [2, 3, 4, 5, 6, 7, 8, 9, 10, 11, 12] rfl rfl (by decide) (by decide) rfl hk1 hB
  replace hP := hP.sub (ws' := (lzTp u q (upd (upd S 2 (nI ((numS tb L 1 9 z1).2))) 3 ((numS tb L 1 9 z1).1)) ++ (lzI G (q 0) 120 tb ++ (lzDoor G h q2 D E)))) [11, 12, 0, 1, 2, 3, 4, 5, 6, 7, 8, 9, 10] rfl
  replace hD := hD.sub (ws' := (lzTp u q (upd (upd S 2 (nI ((numS tb L 1 9 z1).2))) 3 ((numS tb L 1 9 z1).1)) ++ (lzI G (q 0) 120 tb ++ (lzDoor G h q2 D E)))) [11, 12, 0, 1, 2, 3, 4, 5, 6, 7, 8, 9, 10] (by decide) rfl
  clear ht hvm hB hz1 hk1
  generalize H1 = H at hP hS ⊢
  refine lz_top (y := numV tb L z1.2) hr_3 ?_
  obtain ⟨z2, h_z2⟩ : ∃ y : Int32 × Nat, y = numS tb L 1 9 z1 := ⟨_, rfl⟩
  rw [← h_z2] at hP hD
  have hle_z2 : z2.2 ≤ L := by rw [h_z2]; exact (numS_le hle_z1)
  refine lz_put (G := G) (ci := 1) (C := RX1) (T := TX1) (N := 14) hx hb hu_wsX10 (fun _ h9 => h9) tyX1 tyX1_ok nmX1 hown hK hP hD hS 2 rfl rfl 0 (by decide) hw1 rfl rfl (by decide +kernel) (Nat.le_of_ble_eq_true rfl) dX2_readLaw_14 (lzTp u q (upd (upd S 2 (nI z2.2)) 3 z2.1) ++ (lzI G (q 0) 120 tb ++ (lzDoor G h q2 (upd D 0 (numV tb L z1.2)) E))) rfl (fun H locs hP hD hS => ?_)
  refine lv_aload_n hx hb dX2_readLaw_17 rfl (lv_at hl 0 rfl) ?_
  refine lv_bipush (v := 44) hx hb dX2_readLaw_18 (by decide) ?_
  have hPc := hP.sub (ws' := (lzTp u q (upd (upd S 2 (nI z2.2)) 3 z2.1) ++ lzI G (q 0) 120 tb)) [0, 1] rfl
  have hDc := hD.sub (ws' := (lzTp u q (upd (upd S 2 (nI z2.2)) 3 z2.1) ++ lzI G (q 0) 120 tb)) [0, 1] (by decide) rfl
  have hFc : ∀ zz : Nat, lzA (lzTp u q (upd (upd S 2 (nI z2.2)) 3 z2.1) ++ lzI G (q 0) 120 tb) zz → A zz := lz_free hD [0, 1] rfl
  refine va_callv (va_runV (As := [.int 44]) (rest := []) ⟨hx, hb, hml, hown, hts⟩ (c_X2_readSign l G u q (upd (upd S 2 (nI z2.2)) 3 z2.1) tb L z2 44 (hL) (hL1) (rfl) (rfl) (hle_z2)) (cwV 1 hts gX2_readLaw_X2_readSign rfl rfl rfl (by decide +kernel) ⟨Nat.le_of_ble_eq_true rfl, Nat.le_of_ble_eq_true rfl⟩) (rw_preV hK hPc hDc hP (ci := 2) (q0 := 0) rfl rfl) rfl rfl hl.1 rfl (lv_room (Nat.le_of_ble_eq_true rfl)) dX2_readLaw_20 ⟨Nat.zero_le _, Nat.zero_le _⟩) hS (fun q _ h => hFc q h) hFc (fun u_6 t9 H1 locs ht hvm hr_5 hB hz1 hk1 hS => ?_)
  replace hB : va_P G.1 lzC _ t9.heap := hB
  rw [ht] at hB
  obtain ⟨hP, hD⟩ := lz_join (wc := (lzTp u q (upd (upd S 2 (nI z2.2)) 3 z2.1) ++ lzI G (q 0) 120 tb)) (wr := ([(h, .inr (1, [.int (numV tb L z1.2), .int (D 1), .int (D 2), .int (D 3), .ref (q2 4), .ref (q2 5), .ref (q2 6), .ref (q2 7), .ref (q2 8), .ref (q2 9), .ref (q2 10), .ref (q2 11), .ref (q2 12), .ref (q2 13)])), (q2 4, .inl (G.2 0, 8, .inl (E 4))), (q2 5, .inl (G.2 0, 8, .inl (E 5))), (q2 6, .inl (G.2 0, 8, .inl (E 6))), (q2 7, .inl (G.2 0, 8, .inl (E 7))), (q2 8, .inl (G.2 0, 8, .inl (E 8))), (q2 9, .inl (G.2 0, 5, .inl (E 9))), (q2 10, .inl (G.2 0, 5, .inl (E 10))), (q2 11, .inl (G.2 0, 5, .inl (E 11))), (q2 12, .inl (G.2 0, 5, .inl (E 12))), (q2 13, .inl (G.2 0, 5, .inl (E 13)))] : va_W)) (w1 := (lzTp u q (upd (upd S 2 (nI ((sgnS tb L 44 z2).2))) 3 ((sgnS tb L 44 z2).1)) ++ lzI G (q 0) 120 tb)) hP hD [0, 1] [2, 3, 4, 5, 6, 7, 8, 9, 10, 11, 12] rfl rfl (by decide) (by decide) rfl hk1 hB
  replace hP := hP.sub (ws' := (lzTp u q (upd (upd S 2 (nI ((sgnS tb L 44 z2).2))) 3 ((sgnS tb L 44 z2).1)) ++ (lzI G (q 0) 120 tb ++ (lzDoor G h q2 (upd D 0 (numV tb L z1.2)) E)))) [11, 12, 0, 1, 2, 3, 4, 5, 6, 7, 8, 9, 10] rfl
  replace hD := hD.sub (ws' := (lzTp u q (upd (upd S 2 (nI ((sgnS tb L 44 z2).2))) 3 ((sgnS tb L 44 z2).1)) ++ (lzI G (q 0) 120 tb ++ (lzDoor G h q2 (upd D 0 (numV tb L z1.2)) E)))) [11, 12, 0, 1, 2, 3, 4, 5, 6, 7, 8, 9, 10] (by decide) rfl
  clear ht hvm hB hz1 hk1
  generalize H1 = H at hP hS ⊢
  obtain ⟨z3, h_z3⟩ : ∃ y : Int32 × Nat, y = sgnS tb L 44 z2 := ⟨_, rfl⟩
  rw [← h_z3] at hP hD
  have hle_z3 : z3.2 ≤ L := by rw [h_z3]; exact (sgnS_le (by decide) hle_z2)
  refine lv_aload_n hx hb dX2_readLaw_23 rfl (lv_at hl 1 rfl) ?_
  refine lv_aload_n hx hb dX2_readLaw_24 rfl (lv_at hl 0 rfl) ?_
  refine lv_iconst (v := 0) hx hb dX2_readLaw_25 (by decide) ?_
  refine lv_bipush (v := 8) hx hb dX2_readLaw_26 (by decide) ?_
  have hPc := hP.sub (ws' := (lzTp u q (upd (upd S 2 (nI z3.2)) 3 z3.1) ++ lzI G (q 0) 120 tb)) [0, 1] rfl
  have hDc := hD.sub (ws' := (lzTp u q (upd (upd S 2 (nI z3.2)) 3 z3.1) ++ lzI G (q 0) 120 tb)) [0, 1] (by decide) rfl
  have hFc : ∀ zz : Nat, lzA (lzTp u q (upd (upd S 2 (nI z3.2)) 3 z3.1) ++ lzI G (q 0) 120 tb) zz → A zz := lz_free hD [0, 1] rfl
  refine va_calli (va_runV (As := [.int 0, .int 8]) (rest := [.ref h]) ⟨hx, hb, hml, hown, hts⟩ (c_X2_readNumber l G u q (upd (upd S 2 (nI z3.2)) 3 z3.1) tb L z3 0 8 (hL) (hL1) (rfl) (rfl) (hle_z3)) (cwV 2 hts gX2_readLaw_X2_readNumber rfl rfl rfl (by decide +kernel) ⟨Nat.le_of_ble_eq_true rfl, Nat.le_of_ble_eq_true rfl⟩) (rw_preV hK hPc hDc hP (ci := 2) (q0 := 0) rfl rfl) rfl rfl hl.1 rfl (lv_room (Nat.le_of_ble_eq_true rfl)) dX2_readLaw_28 ⟨Nat.zero_le _, Nat.zero_le _⟩) hS (fun q _ h => hFc q h) hFc (fun r_7 u_8 t9 H1 locs ht hvm hr_7 hB hz1 hk1 hS => ?_)
  replace hB : va_P G.1 lzC _ t9.heap := hB
  rw [ht] at hB
  obtain ⟨hP, hD⟩ := lz_join (wc := (lzTp u q (upd (upd S 2 (nI z3.2)) 3 z3.1) ++ lzI G (q 0) 120 tb)) (wr := ([(h, .inr (1, [.int (numV tb L z1.2), .int (D 1), .int (D 2), .int (D 3), .ref (q2 4), .ref (q2 5), .ref (q2 6), .ref (q2 7), .ref (q2 8), .ref (q2 9), .ref (q2 10), .ref (q2 11), .ref (q2 12), .ref (q2 13)])), (q2 4, .inl (G.2 0, 8, .inl (E 4))), (q2 5, .inl (G.2 0, 8, .inl (E 5))), (q2 6, .inl (G.2 0, 8, .inl (E 6))), (q2 7, .inl (G.2 0, 8, .inl (E 7))), (q2 8, .inl (G.2 0, 8, .inl (E 8))), (q2 9, .inl (G.2 0, 5, .inl (E 9))), (q2 10, .inl (G.2 0, 5, .inl (E 10))), (q2 11, .inl (G.2 0, 5, .inl (E 11))), (q2 12, .inl (G.2 0, 5, .inl (E 12))), (q2 13, .inl (G.2 0, 5, .inl (E 13)))] : va_W)) (w1 := (lzTp u q (upd (upd S 2 (nI ((numS tb L 0 8 z3).2))) 3 ((numS tb L 0 8 z3).1)) ++ lzI G (q 0) 120 tb)) hP hD [0, 1] [2, 3, 4, 5, 6, 7, 8, 9, 10, 11, 12] rfl rfl (by decide) (by decide) rfl hk1 hB
  replace hP := hP.sub (ws' := (lzTp u q (upd (upd S 2 (nI ((numS tb L 0 8 z3).2))) 3 ((numS tb L 0 8 z3).1)) ++ (lzI G (q 0) 120 tb ++ (lzDoor G h q2 (upd D 0 (numV tb L z1.2)) E)))) [11, 12, 0, 1, 2, 3, 4, 5, 6, 7, 8, 9, 10] rfl
  replace hD := hD.sub (ws' := (lzTp u q (upd (upd S 2 (nI ((numS tb L 0 8 z3).2))) 3 ((numS tb L 0 8 z3).1)) ++ (lzI G (q 0) 120 tb ++ (lzDoor G h q2 (upd D 0 (numV tb L z1.2)) E)))) [11, 12, 0, 1, 2, 3, 4, 5, 6, 7, 8, 9, 10] (by decide) rfl
  clear ht hvm hB hz1 hk1
  generalize H1 = H at hP hS ⊢
  refine lz_top (y := numV tb L z3.2) hr_7 ?_
  obtain ⟨z4, h_z4⟩ : ∃ y : Int32 × Nat, y = numS tb L 0 8 z3 := ⟨_, rfl⟩
  rw [← h_z4] at hP hD
  have hle_z4 : z4.2 ≤ L := by rw [h_z4]; exact (numS_le hle_z3)
  refine lz_put (G := G) (ci := 1) (C := RX1) (T := TX1) (N := 14) hx hb hu_wsX10 (fun _ h9 => h9) tyX1 tyX1_ok nmX1 hown hK hP hD hS 2 rfl rfl 1 (by decide) hw2 rfl rfl (by decide +kernel) (Nat.le_of_ble_eq_true rfl) dX2_readLaw_31 (lzTp u q (upd (upd S 2 (nI z4.2)) 3 z4.1) ++ (lzI G (q 0) 120 tb ++ (lzDoor G h q2 (upd (upd D 0 (numV tb L z1.2)) 1 (numV tb L z3.2)) E))) rfl (fun H locs hP hD hS => ?_)
  refine lv_aload_n hx hb dX2_readLaw_34 rfl (lv_at hl 0 rfl) ?_
  refine lv_bipush (v := 59) hx hb dX2_readLaw_35 (by decide) ?_
  have hPc := hP.sub (ws' := (lzTp u q (upd (upd S 2 (nI z4.2)) 3 z4.1) ++ lzI G (q 0) 120 tb)) [0, 1] rfl
  have hDc := hD.sub (ws' := (lzTp u q (upd (upd S 2 (nI z4.2)) 3 z4.1) ++ lzI G (q 0) 120 tb)) [0, 1] (by decide) rfl
  have hFc : ∀ zz : Nat, lzA (lzTp u q (upd (upd S 2 (nI z4.2)) 3 z4.1) ++ lzI G (q 0) 120 tb) zz → A zz := lz_free hD [0, 1] rfl
  refine va_callv (va_runV (As := [.int 59]) (rest := []) ⟨hx, hb, hml, hown, hts⟩ (c_X2_readSign l G u q (upd (upd S 2 (nI z4.2)) 3 z4.1) tb L z4 59 (hL) (hL1) (rfl) (rfl) (hle_z4)) (cwV 1 hts gX2_readLaw_X2_readSign rfl rfl rfl (by decide +kernel) ⟨Nat.le_of_ble_eq_true rfl, Nat.le_of_ble_eq_true rfl⟩) (rw_preV hK hPc hDc hP (ci := 2) (q0 := 0) rfl rfl) rfl rfl hl.1 rfl (lv_room (Nat.le_of_ble_eq_true rfl)) dX2_readLaw_37 ⟨Nat.zero_le _, Nat.zero_le _⟩) hS (fun q _ h => hFc q h) hFc (fun u_10 t9 H1 locs ht hvm hr_9 hB hz1 hk1 hS => ?_)
  replace hB : va_P G.1 lzC _ t9.heap := hB
  rw [ht] at hB
  obtain ⟨hP, hD⟩ := lz_join (wc := (lzTp u q (upd (upd S 2 (nI z4.2)) 3 z4.1) ++ lzI G (q 0) 120 tb)) (wr := ([(h, .inr (1, [.int (numV tb L z1.2), .int (numV tb L z3.2), .int (D 2), .int (D 3), .ref (q2 4), .ref (q2 5), .ref (q2 6), .ref (q2 7), .ref (q2 8), .ref (q2 9), .ref (q2 10), .ref (q2 11), .ref (q2 12), .ref (q2 13)])), (q2 4, .inl (G.2 0, 8, .inl (E 4))), (q2 5, .inl (G.2 0, 8, .inl (E 5))), (q2 6, .inl (G.2 0, 8, .inl (E 6))), (q2 7, .inl (G.2 0, 8, .inl (E 7))), (q2 8, .inl (G.2 0, 8, .inl (E 8))), (q2 9, .inl (G.2 0, 5, .inl (E 9))), (q2 10, .inl (G.2 0, 5, .inl (E 10))), (q2 11, .inl (G.2 0, 5, .inl (E 11))), (q2 12, .inl (G.2 0, 5, .inl (E 12))), (q2 13, .inl (G.2 0, 5, .inl (E 13)))] : va_W)) (w1 := (lzTp u q (upd (upd S 2 (nI ((sgnS tb L 59 z4).2))) 3 ((sgnS tb L 59 z4).1)) ++ lzI G (q 0) 120 tb)) hP hD [0, 1] [2, 3, 4, 5, 6, 7, 8, 9, 10, 11, 12] rfl rfl (by decide) (by decide) rfl hk1 hB
  replace hP := hP.sub (ws' := (lzTp u q (upd (upd S 2 (nI ((sgnS tb L 59 z4).2))) 3 ((sgnS tb L 59 z4).1)) ++ (lzI G (q 0) 120 tb ++ (lzDoor G h q2 (upd (upd D 0 (numV tb L z1.2)) 1 (numV tb L z3.2)) E)))) [11, 12, 0, 1, 2, 3, 4, 5, 6, 7, 8, 9, 10] rfl
  replace hD := hD.sub (ws' := (lzTp u q (upd (upd S 2 (nI ((sgnS tb L 59 z4).2))) 3 ((sgnS tb L 59 z4).1)) ++ (lzI G (q 0) 120 tb ++ (lzDoor G h q2 (upd (upd D 0 (numV tb L z1.2)) 1 (numV tb L z3.2)) E)))) [11, 12, 0, 1, 2, 3, 4, 5, 6, 7, 8, 9, 10] (by decide) rfl
  clear ht hvm hB hz1 hk1
  generalize H1 = H at hP hS ⊢
  obtain ⟨z5, h_z5⟩ : ∃ y : Int32 × Nat, y = sgnS tb L 59 z4 := ⟨_, rfl⟩
  rw [← h_z5] at hP hD
  have hle_z5 : z5.2 ≤ L := by rw [h_z5]; exact (sgnS_le (by decide) hle_z4)
  have e1 : lawA tb L z = z1 := h_z1.symm
  have e3 : lawB tb L z = z3 := by { unfold lawB; rw [e1, ← h_z2, ← h_z3] }
  have e5 : lawZ tb L z = z5 := by { unfold lawZ; rw [e3, ← h_z4, ← h_z5] }
  exact rw_vret (S := Unit) (G := G) (Wd := fun _ : Unit => (lzTp u q (upd (upd S 2 (nI ((lawZ tb L z).2))) 3 ((lawZ tb L z).1)) ++ (lzI G (q 0) 120 tb ++ (lzDoor G h q2 (upd (upd D 0 (numV tb L ((lawA tb L z).2))) 1 (numV tb L ((lawB tb L z).2))) E)))) () hx hb hr hlk dX2_readLaw_40 hS (by show va_P G.1 lzC (lzTp u q (upd (upd S 2 (nI ((lawZ tb L z).2))) 3 ((lawZ tb L z).1)) ++ (lzI G (q 0) 120 tb ++ lzDoor G h q2 (upd (upd D 0 (numV tb L ((lawA tb L z).2))) 1 (numV tb L ((lawB tb L z).2))) E)) _; rw [e5, e3, e1]; exact hP) (trivial)
set_option maxHeartbeats 4000000 in
set_option maxRecDepth 100000 in
theorem c_X2_readVisitor (l : Launch) (G : lzG) (u : Nat) (q : Nat → Nat) (S : Nat → Int32) (tb : Nat → Int32) (L : Nat) (z : Int32 × Nat) (h : Nat) (q2 : Nat → Nat) (D : Nat → Int32) (E : Nat → Nat → Int32) (M : Nat) (hL : S 1 = nI L) (hL1 : L ≤ 120) (hz1 : S 3 = z.1) (hz2 : S 2 = nI z.2) (hz3 : z.2 ≤ L) (hM : D 3 = nI M) (hM5 : M ≤ 5) : Met l yX2_readVisitor wsX2_readVisitor ({ frames := 4, cells := 0, slots := 0, locals := 90 }) (va_Pc [.ref u, .ref h] (rwP G (lzTp u q S ++ (lzI G (q 0) 120 tb ++ (lzDoor G h q2 D E))))) (va_Qv (S := Unit) (fun _ : Unit => True) (rwB G (fun _ : Unit => (lzTp u q (upd (upd S 2 (nI ((visZ tb L M z).2))) 3 ((visZ tb L M z).1)) ++ (lzI G (q 0) 120 tb ++ (lzDoor G h q2 (visD tb L M z D) (visF tb L M z E)))))) (lzA (lzTp u q S ++ (lzI G (q 0) 120 tb ++ (lzDoor G h q2 D E))))) 0 0 (lzA (lzTp u q S ++ (lzI G (q 0) 120 tb ++ (lzDoor G h q2 D E)))) := by
  refine rw_start (S := Unit) (cc := cX2_readVisitor) (maxL := 4) (ret := none) (by decide) rfl (Nat.le_of_ble_eq_true rfl) ?_
  intro pp ee ss mm bl me cd A hx hb hr hlk hml hts hown hP hK hD hAe hS ls hl
  have hA0 : ∀ zz : Nat, lzA (lzTp u q S ++ (lzI G (q 0) 120 tb ++ (lzDoor G h q2 D E))) zz → A zz := fun zz h9 => by rw [hAe]; exact h9
  rw [← hAe]
  clear hAe
  have hown : ss.vm.findClass RX2 = some mm.cls := hown
  have hw1 := hts (.fieldLink RX2 19 "LampSquares$Tape" "at" "I") (List.mem_of_getElem? (i := 1) rfl)
  have hw2 := hts (.fieldLink RX2 70 "LampSquares$Door" "visitors" "I") (List.mem_of_getElem? (i := 2) rfl)
  have hw3 := hts (.fieldLink RX2 22 "LampSquares$Tape" "fault" "I") (List.mem_of_getElem? (i := 3) rfl)
  have hu_wsX10 : ∀ w ∈ wsX10, w.before ([.ref u, .ref h] : List Value).toArray ss = true := fun w h9 => hts w (List.mem_cons_of_mem _ (List.mem_append_right _ h9))
  have hu_wsX20 : ∀ w ∈ wsX20, w.before ([.ref u, .ref h] : List Value).toArray ss = true := fun w h9 => hts w (List.mem_cons_of_mem _ (List.mem_append_left _ (List.mem_append_right _ h9)))
  have hl : lv_has ls 4 [(0, .ref u), (1, .ref h)] := hl
  have J_35 : ∀ (z1 : Int32 × Nat), (z1 = visA tb L M z) → ∀ (H : Heap) (locs : List Loc), va_P G.1 lzC (lzTp u q (upd (upd S 2 (nI z1.2)) 3 z1.1) ++ (lzI G (q 0) 120 tb ++ (lzDoor G h q2 D E))) H → va_D A (lzTp u q (upd (upd S 2 (nI z1.2)) 3 z1.1) ++ (lzI G (q 0) 120 tb ++ (lzDoor G h q2 D E))) → va_S A ss.heap H locs → ∀ ls : Array Slot, lv_has ls 4 [(0, .ref u), (1, .ref h)] → W pp l ee ({ frames := 4, cells := 0, slots := 0, locals := 90 }) ss mm ([.ref u, .ref h] : List Value).toArray bl me cd H locs 0 0 (MQ bl (va_Qv (S := Unit) (fun _ : Unit => True) (rwB G (fun _ : Unit => (lzTp u q (upd (upd S 2 (nI ((visZ tb L M z).2))) 3 ((visZ tb L M z).1)) ++ (lzI G (q 0) 120 tb ++ (lzDoor G h q2 (visD tb L M z D) (visF tb L M z E)))))) A) ([.ref u, .ref h] : List Value).toArray ss 0 0 A) (F0 mm 35 ls []) := by
    intro z1 h_z1 H locs hP hD hS ls hl
    have hle_z1 : z1.2 ≤ L := by rw [h_z1]; exact visA_le hz3
    refine lv_aload_n hx hb dX2_readVisitor_35 rfl (lv_at hl 0 rfl) ?_
    refine lv_iconst (v := 0) hx hb dX2_readVisitor_36 (by decide) ?_
    refine lv_bipush (v := 9) hx hb dX2_readVisitor_37 (by decide) ?_
    have hPc := hP.sub (ws' := (lzTp u q (upd (upd S 2 (nI z1.2)) 3 z1.1) ++ lzI G (q 0) 120 tb)) [0, 1] rfl
    have hDc := hD.sub (ws' := (lzTp u q (upd (upd S 2 (nI z1.2)) 3 z1.1) ++ lzI G (q 0) 120 tb)) [0, 1] (by decide) rfl
    have hFc : ∀ zz : Nat, lzA (lzTp u q (upd (upd S 2 (nI z1.2)) 3 z1.1) ++ lzI G (q 0) 120 tb) zz → A zz := lz_free hD [0, 1] rfl
    refine va_calli (va_runV (As := [.int 0, .int 9]) (rest := []) ⟨hx, hb, hml, hown, hts⟩ (c_X2_readNumber l G u q (upd (upd S 2 (nI z1.2)) 3 z1.1) tb L z1 0 9 (hL) (hL1) (rfl) (rfl) (hle_z1)) (cwV 2 hts gX2_readVisitor_X2_readNumber rfl rfl rfl (by decide +kernel) ⟨Nat.le_of_ble_eq_true rfl, Nat.le_of_ble_eq_true rfl⟩) (rw_preV hK hPc hDc hP (ci := 2) (q0 := 0) rfl rfl) rfl rfl hl.1 rfl (lv_room (Nat.le_of_ble_eq_true rfl)) dX2_readVisitor_39 ⟨Nat.zero_le _, Nat.zero_le _⟩) hS (fun q _ h => hFc q h) hFc (fun r_1 u_2 t9 H1 locs ht hvm hr_1 hB hz1 hk1 hS => ?_)
    replace hB : va_P G.1 lzC _ t9.heap := hB
    rw [ht] at hB
    obtain ⟨hP, hD⟩ := lz_join (wc := (lzTp u q (upd (upd S 2 (nI z1.2)) 3 z1.1) ++ lzI G (q 0) 120 tb)) (wr := ([(h, .inr (1, [.int (D 0), .int (D 1), .int (D 2), .int (D 3), .ref (q2 4), .ref (q2 5), .ref (q2 6), .ref (q2 7), .ref (q2 8), .ref (q2 9), .ref (q2 10), .ref (q2 11), .ref (q2 12), .ref (q2 13)])), (q2 4, .inl (G.2 0, 8, .inl (E 4))), (q2 5, .inl (G.2 0, 8, .inl (E 5))), (q2 6, .inl (G.2 0, 8, .inl (E 6))), (q2 7, .inl (G.2 0, 8, .inl (E 7))), (q2 8, .inl (G.2 0, 8, .inl (E 8))), (q2 9, .inl (G.2 0, 5, .inl (E 9))), (q2 10, .inl (G.2 0, 5, .inl (E 10))), (q2 11, .inl (G.2 0, 5, .inl (E 11))), (q2 12, .inl (G.2 0, 5, .inl (E 12))), (q2 13, .inl (G.2 0, 5, .inl (E 13)))] : va_W)) (w1 := (lzTp u q (upd (upd S 2 (nI ((numS tb L 0 9 z1).2))) 3 ((numS tb L 0 9 z1).1)) ++ lzI G (q 0) 120 tb)) hP hD [0, 1] [2, 3, 4, 5, 6, 7, 8, 9, 10, 11, 12] rfl rfl (by decide) (by decide) rfl hk1 hB
    replace hP := hP.sub (ws' := (lzTp u q (upd (upd S 2 (nI ((numS tb L 0 9 z1).2))) 3 ((numS tb L 0 9 z1).1)) ++ (lzI G (q 0) 120 tb ++ (lzDoor G h q2 D E)))) [11, 12, 0, 1, 2, 3, 4, 5, 6, 7, 8, 9, 10] rfl
    replace hD := hD.sub (ws' := (lzTp u q (upd (upd S 2 (nI ((numS tb L 0 9 z1).2))) 3 ((numS tb L 0 9 z1).1)) ++ (lzI G (q 0) 120 tb ++ (lzDoor G h q2 D E)))) [11, 12, 0, 1, 2, 3, 4, 5, 6, 7, 8, 9, 10] (by decide) rfl
    clear ht hvm hB hz1 hk1
    generalize H1 = H at hP hS ⊢
    refine lz_top (y := numV tb L z1.2) hr_1 ?_
    obtain ⟨z2, h_z2⟩ : ∃ y : Int32 × Nat, y = numS tb L 0 9 z1 := ⟨_, rfl⟩
    rw [← h_z2] at hP hD
    have hle_z2 : z2.2 ≤ L := by rw [h_z2]; exact (numS_le hle_z1)
    refine lv_topi (fun x_3 ex_3 => ?_)
    refine lv_istore_n (lv' := [(2, .int x_3), (0, .ref u), (1, .ref h)]) hx hb dX2_readVisitor_42 rfl hl (by decide) rfl (fun ls hl => ?_)
    refine lv_aload_n hx hb dX2_readVisitor_43 rfl (lv_at hl 1 rfl) ?_
    refine lv_bipush (v := 44) hx hb dX2_readVisitor_44 (by decide) ?_
    have hPc := hP.sub (ws' := (lzTp u q (upd (upd S 2 (nI z2.2)) 3 z2.1) ++ lzI G (q 0) 120 tb)) [0, 1] rfl
    have hDc := hD.sub (ws' := (lzTp u q (upd (upd S 2 (nI z2.2)) 3 z2.1) ++ lzI G (q 0) 120 tb)) [0, 1] (by decide) rfl
    have hFc : ∀ zz : Nat, lzA (lzTp u q (upd (upd S 2 (nI z2.2)) 3 z2.1) ++ lzI G (q 0) 120 tb) zz → A zz := lz_free hD [0, 1] rfl
    refine va_callv (va_runV (As := [.int 44]) (rest := []) ⟨hx, hb, hml, hown, hts⟩ (c_X2_readSign l G u q (upd (upd S 2 (nI z2.2)) 3 z2.1) tb L z2 44 (hL) (hL1) (rfl) (rfl) (hle_z2)) (cwV 1 hts gX2_readVisitor_X2_readSign rfl rfl rfl (by decide +kernel) ⟨Nat.le_of_ble_eq_true rfl, Nat.le_of_ble_eq_true rfl⟩) (rw_preV hK hPc hDc hP (ci := 2) (q0 := 0) rfl rfl) rfl rfl hl.1 rfl (lv_room (Nat.le_of_ble_eq_true rfl)) dX2_readVisitor_46 ⟨Nat.zero_le _, Nat.zero_le _⟩) hS (fun q _ h => hFc q h) hFc (fun u_5 t9 H1 locs ht hvm hr_4 hB hz1 hk1 hS => ?_)
    replace hB : va_P G.1 lzC _ t9.heap := hB
    rw [ht] at hB
    obtain ⟨hP, hD⟩ := lz_join (wc := (lzTp u q (upd (upd S 2 (nI z2.2)) 3 z2.1) ++ lzI G (q 0) 120 tb)) (wr := ([(h, .inr (1, [.int (D 0), .int (D 1), .int (D 2), .int (D 3), .ref (q2 4), .ref (q2 5), .ref (q2 6), .ref (q2 7), .ref (q2 8), .ref (q2 9), .ref (q2 10), .ref (q2 11), .ref (q2 12), .ref (q2 13)])), (q2 4, .inl (G.2 0, 8, .inl (E 4))), (q2 5, .inl (G.2 0, 8, .inl (E 5))), (q2 6, .inl (G.2 0, 8, .inl (E 6))), (q2 7, .inl (G.2 0, 8, .inl (E 7))), (q2 8, .inl (G.2 0, 8, .inl (E 8))), (q2 9, .inl (G.2 0, 5, .inl (E 9))), (q2 10, .inl (G.2 0, 5, .inl (E 10))), (q2 11, .inl (G.2 0, 5, .inl (E 11))), (q2 12, .inl (G.2 0, 5, .inl (E 12))), (q2 13, .inl (G.2 0, 5, .inl (E 13)))] : va_W)) (w1 := (lzTp u q (upd (upd S 2 (nI ((sgnS tb L 44 z2).2))) 3 ((sgnS tb L 44 z2).1)) ++ lzI G (q 0) 120 tb)) hP hD [0, 1] [2, 3, 4, 5, 6, 7, 8, 9, 10, 11, 12] rfl rfl (by decide) (by decide) rfl hk1 hB
    replace hP := hP.sub (ws' := (lzTp u q (upd (upd S 2 (nI ((sgnS tb L 44 z2).2))) 3 ((sgnS tb L 44 z2).1)) ++ (lzI G (q 0) 120 tb ++ (lzDoor G h q2 D E)))) [11, 12, 0, 1, 2, 3, 4, 5, 6, 7, 8, 9, 10] rfl
    replace hD := hD.sub (ws' := (lzTp u q (upd (upd S 2 (nI ((sgnS tb L 44 z2).2))) 3 ((sgnS tb L 44 z2).1)) ++ (lzI G (q 0) 120 tb ++ (lzDoor G h q2 D E)))) [11, 12, 0, 1, 2, 3, 4, 5, 6, 7, 8, 9, 10] (by decide) rfl
    clear ht hvm hB hz1 hk1
    generalize H1 = H at hP hS ⊢
    obtain ⟨z3, h_z3⟩ : ∃ y : Int32 × Nat, y = sgnS tb L 44 z2 := ⟨_, rfl⟩
    rw [← h_z3] at hP hD
    have hle_z3 : z3.2 ≤ L := by rw [h_z3]; exact (sgnS_le (by decide) hle_z2)
    refine lv_aload_n hx hb dX2_readVisitor_49 rfl (lv_at hl 1 rfl) ?_
    refine lv_iconst (v := 0) hx hb dX2_readVisitor_50 (by decide) ?_
    refine lv_bipush (v := 9) hx hb dX2_readVisitor_51 (by decide) ?_
    have hPc := hP.sub (ws' := (lzTp u q (upd (upd S 2 (nI z3.2)) 3 z3.1) ++ lzI G (q 0) 120 tb)) [0, 1] rfl
    have hDc := hD.sub (ws' := (lzTp u q (upd (upd S 2 (nI z3.2)) 3 z3.1) ++ lzI G (q 0) 120 tb)) [0, 1] (by decide) rfl
    have hFc : ∀ zz : Nat, lzA (lzTp u q (upd (upd S 2 (nI z3.2)) 3 z3.1) ++ lzI G (q 0) 120 tb) zz → A zz := lz_free hD [0, 1] rfl
    refine va_calli (va_runV (As := [.int 0, .int 9]) (rest := []) ⟨hx, hb, hml, hown, hts⟩ (c_X2_readNumber l G u q (upd (upd S 2 (nI z3.2)) 3 z3.1) tb L z3 0 9 (hL) (hL1) (rfl) (rfl) (hle_z3)) (cwV 2 hts gX2_readVisitor_X2_readNumber rfl rfl rfl (by decide +kernel) ⟨Nat.le_of_ble_eq_true rfl, Nat.le_of_ble_eq_true rfl⟩) (rw_preV hK hPc hDc hP (ci := 2) (q0 := 0) rfl rfl) rfl rfl hl.1 rfl (lv_room (Nat.le_of_ble_eq_true rfl)) dX2_readVisitor_53 ⟨Nat.zero_le _, Nat.zero_le _⟩) hS (fun q _ h => hFc q h) hFc (fun r_6 u_7 t9 H1 locs ht hvm hr_6 hB hz1 hk1 hS => ?_)
    replace hB : va_P G.1 lzC _ t9.heap := hB
    rw [ht] at hB
    obtain ⟨hP, hD⟩ := lz_join (wc := (lzTp u q (upd (upd S 2 (nI z3.2)) 3 z3.1) ++ lzI G (q 0) 120 tb)) (wr := ([(h, .inr (1, [.int (D 0), .int (D 1), .int (D 2), .int (D 3), .ref (q2 4), .ref (q2 5), .ref (q2 6), .ref (q2 7), .ref (q2 8), .ref (q2 9), .ref (q2 10), .ref (q2 11), .ref (q2 12), .ref (q2 13)])), (q2 4, .inl (G.2 0, 8, .inl (E 4))), (q2 5, .inl (G.2 0, 8, .inl (E 5))), (q2 6, .inl (G.2 0, 8, .inl (E 6))), (q2 7, .inl (G.2 0, 8, .inl (E 7))), (q2 8, .inl (G.2 0, 8, .inl (E 8))), (q2 9, .inl (G.2 0, 5, .inl (E 9))), (q2 10, .inl (G.2 0, 5, .inl (E 10))), (q2 11, .inl (G.2 0, 5, .inl (E 11))), (q2 12, .inl (G.2 0, 5, .inl (E 12))), (q2 13, .inl (G.2 0, 5, .inl (E 13)))] : va_W)) (w1 := (lzTp u q (upd (upd S 2 (nI ((numS tb L 0 9 z3).2))) 3 ((numS tb L 0 9 z3).1)) ++ lzI G (q 0) 120 tb)) hP hD [0, 1] [2, 3, 4, 5, 6, 7, 8, 9, 10, 11, 12] rfl rfl (by decide) (by decide) rfl hk1 hB
    replace hP := hP.sub (ws' := (lzTp u q (upd (upd S 2 (nI ((numS tb L 0 9 z3).2))) 3 ((numS tb L 0 9 z3).1)) ++ (lzI G (q 0) 120 tb ++ (lzDoor G h q2 D E)))) [11, 12, 0, 1, 2, 3, 4, 5, 6, 7, 8, 9, 10] rfl
    replace hD := hD.sub (ws' := (lzTp u q (upd (upd S 2 (nI ((numS tb L 0 9 z3).2))) 3 ((numS tb L 0 9 z3).1)) ++ (lzI G (q 0) 120 tb ++ (lzDoor G h q2 D E)))) [11, 12, 0, 1, 2, 3, 4, 5, 6, 7, 8, 9, 10] (by decide) rfl
    clear ht hvm hB hz1 hk1
    generalize H1 = H at hP hS ⊢
    refine lz_top (y := numV tb L z3.2) hr_6 ?_
    obtain ⟨z4, h_z4⟩ : ∃ y : Int32 × Nat, y = numS tb L 0 9 z3 := ⟨_, rfl⟩
    rw [← h_z4] at hP hD
    have hle_z4 : z4.2 ≤ L := by rw [h_z4]; exact (numS_le hle_z3)
    refine lv_topi (fun x_8 ex_8 => ?_)
    refine lv_istore_n (lv' := [(3, .int x_8), (2, .int x_3), (0, .ref u), (1, .ref h)]) hx hb dX2_readVisitor_56 rfl hl (by decide) rfl (fun ls hl => ?_)
    refine lv_aload_n hx hb dX2_readVisitor_57 rfl (lv_at hl 2 rfl) ?_
    refine lv_bipush (v := 59) hx hb dX2_readVisitor_58 (by decide) ?_
    have hPc := hP.sub (ws' := (lzTp u q (upd (upd S 2 (nI z4.2)) 3 z4.1) ++ lzI G (q 0) 120 tb)) [0, 1] rfl
    have hDc := hD.sub (ws' := (lzTp u q (upd (upd S 2 (nI z4.2)) 3 z4.1) ++ lzI G (q 0) 120 tb)) [0, 1] (by decide) rfl
    have hFc : ∀ zz : Nat, lzA (lzTp u q (upd (upd S 2 (nI z4.2)) 3 z4.1) ++ lzI G (q 0) 120 tb) zz → A zz := lz_free hD [0, 1] rfl
    refine va_callv (va_runV (As := [.int 59]) (rest := []) ⟨hx, hb, hml, hown, hts⟩ (c_X2_readSign l G u q (upd (upd S 2 (nI z4.2)) 3 z4.1) tb L z4 59 (hL) (hL1) (rfl) (rfl) (hle_z4)) (cwV 1 hts gX2_readVisitor_X2_readSign rfl rfl rfl (by decide +kernel) ⟨Nat.le_of_ble_eq_true rfl, Nat.le_of_ble_eq_true rfl⟩) (rw_preV hK hPc hDc hP (ci := 2) (q0 := 0) rfl rfl) rfl rfl hl.1 rfl (lv_room (Nat.le_of_ble_eq_true rfl)) dX2_readVisitor_60 ⟨Nat.zero_le _, Nat.zero_le _⟩) hS (fun q _ h => hFc q h) hFc (fun u_10 t9 H1 locs ht hvm hr_9 hB hz1 hk1 hS => ?_)
    replace hB : va_P G.1 lzC _ t9.heap := hB
    rw [ht] at hB
    obtain ⟨hP, hD⟩ := lz_join (wc := (lzTp u q (upd (upd S 2 (nI z4.2)) 3 z4.1) ++ lzI G (q 0) 120 tb)) (wr := ([(h, .inr (1, [.int (D 0), .int (D 1), .int (D 2), .int (D 3), .ref (q2 4), .ref (q2 5), .ref (q2 6), .ref (q2 7), .ref (q2 8), .ref (q2 9), .ref (q2 10), .ref (q2 11), .ref (q2 12), .ref (q2 13)])), (q2 4, .inl (G.2 0, 8, .inl (E 4))), (q2 5, .inl (G.2 0, 8, .inl (E 5))), (q2 6, .inl (G.2 0, 8, .inl (E 6))), (q2 7, .inl (G.2 0, 8, .inl (E 7))), (q2 8, .inl (G.2 0, 8, .inl (E 8))), (q2 9, .inl (G.2 0, 5, .inl (E 9))), (q2 10, .inl (G.2 0, 5, .inl (E 10))), (q2 11, .inl (G.2 0, 5, .inl (E 11))), (q2 12, .inl (G.2 0, 5, .inl (E 12))), (q2 13, .inl (G.2 0, 5, .inl (E 13)))] : va_W)) (w1 := (lzTp u q (upd (upd S 2 (nI ((sgnS tb L 59 z4).2))) 3 ((sgnS tb L 59 z4).1)) ++ lzI G (q 0) 120 tb)) hP hD [0, 1] [2, 3, 4, 5, 6, 7, 8, 9, 10, 11, 12] rfl rfl (by decide) (by decide) rfl hk1 hB
    replace hP := hP.sub (ws' := (lzTp u q (upd (upd S 2 (nI ((sgnS tb L 59 z4).2))) 3 ((sgnS tb L 59 z4).1)) ++ (lzI G (q 0) 120 tb ++ (lzDoor G h q2 D E)))) [11, 12, 0, 1, 2, 3, 4, 5, 6, 7, 8, 9, 10] rfl
    replace hD := hD.sub (ws' := (lzTp u q (upd (upd S 2 (nI ((sgnS tb L 59 z4).2))) 3 ((sgnS tb L 59 z4).1)) ++ (lzI G (q 0) 120 tb ++ (lzDoor G h q2 D E)))) [11, 12, 0, 1, 2, 3, 4, 5, 6, 7, 8, 9, 10] (by decide) rfl
    clear ht hvm hB hz1 hk1
    generalize H1 = H at hP hS ⊢
    obtain ⟨z5, h_z5⟩ : ∃ y : Int32 × Nat, y = sgnS tb L 59 z4 := ⟨_, rfl⟩
    rw [← h_z5] at hP hD
    have hle_z5 : z5.2 ≤ L := by rw [h_z5]; exact (sgnS_le (by decide) hle_z4)
    refine lv_aload_n hx hb dX2_readVisitor_63 rfl (lv_at hl 2 rfl) ?_
    refine lz_get (G := G) (ci := 2) (v := .int z5.1) (C := RX2) (T := TX2) (N := 4) hx hb hu_wsX20 (fun _ h9 => h9) hown hK hP 0 rfl rfl 3 (by decide) hw3 rfl rfl dX2_readVisitor_64 ?_
    have e1 : visA tb L M z = z1 := h_z1.symm
    have e3 : visB tb L M z = z3 := by { unfold visB; rw [e1, ← h_z2, ← h_z3] }
    have e5 : visZ tb L M z = z5 := by { unfold visZ; rw [e3, ← h_z4, ← h_z5] }
    refine lv_if_ne (tgt := 76) hx hb dX2_readVisitor_67 (by decide) (fun c_67 => ?_) (fun c_67 => ?_)
    · skip
      have hv0 : ¬ (visZ tb L M z).1 = 0 := by rw [e5]; exact c_67
      exact rw_vret (S := Unit) (G := G) (Wd := fun _ : Unit => (lzTp u q (upd (upd S 2 (nI ((visZ tb L M z).2))) 3 ((visZ tb L M z).1)) ++ (lzI G (q 0) 120 tb ++ (lzDoor G h q2 (visD tb L M z D) (visF tb L M z E))))) () hx hb hr hlk dX2_readVisitor_76 hS (by show va_P G.1 lzC (lzTp u q (upd (upd S 2 (nI ((visZ tb L M z).2))) 3 ((visZ tb L M z).1)) ++ (lzI G (q 0) 120 tb ++ lzDoor G h q2 (visD tb L M z D) (visF tb L M z E))) _; unfold visD visF; first | (rw [if_pos hv0, if_pos hv0, e5, e3, e1, ← ex_3, ← ex_8]; exact hP) | (rw [if_neg hv0, if_neg hv0, e5]; exact hP)) (trivial)
    · skip
      have hv0 : (visZ tb L M z).1 = 0 := by rw [e5]; exact c_67
      refine lv_aload_n hx hb dX2_readVisitor_70 rfl (lv_at hl 3 rfl) ?_
      refine lv_iload_n hx hb dX2_readVisitor_71 rfl (lv_at hl 1 rfl) ?_
      refine lv_iload_n hx hb dX2_readVisitor_72 rfl (lv_at hl 0 rfl) ?_
      have hPc := hP.sub (ws' := lzDoor G h q2 D E) [2, 3, 4, 5, 6, 7, 8, 9, 10, 11, 12] rfl
      have hDc := hD.sub (ws' := lzDoor G h q2 D E) [2, 3, 4, 5, 6, 7, 8, 9, 10, 11, 12] (by decide) rfl
      have hFc : ∀ zz : Nat, lzA (lzDoor G h q2 D E) zz → A zz := lz_free hD [2, 3, 4, 5, 6, 7, 8, 9, 10, 11, 12] rfl
      refine va_callv (va_runV (As := [.int x_3, .int x_8]) (rest := []) ⟨hx, hb, hml, hown, hts⟩ (c_X1_addVisitor l G h q2 D E x_3 x_8 M (hM) ((visZ_0 hv0).2)) (cwV 2 hts gX2_readVisitor_X1_addVisitor rfl rfl rfl (by decide +kernel) ⟨Nat.le_of_ble_eq_true rfl, Nat.le_of_ble_eq_true rfl⟩) (rw_preV hK hPc hDc hP (ci := 1) (q0 := 2) rfl rfl) rfl rfl hl.1 rfl (lv_room (Nat.le_of_ble_eq_true rfl)) dX2_readVisitor_73 ⟨Nat.zero_le _, Nat.zero_le _⟩) hS (fun q _ h => hFc q h) hFc (fun u_12 t9 H1 locs ht hvm hr_11 hB hz1 hk1 hS => ?_)
      replace hB : va_P G.1 lzC _ t9.heap := hB
      rw [ht] at hB
      obtain ⟨hP, hD⟩ := lz_join (wc := lzDoor G h q2 D E) (wr := ([(u, .inr (2, [.ref (q 0), .int (S 1), .int (nI z5.2), .int z5.1])), (q 0, .inl (G.2 0, 120, .inl tb))] : va_W)) (w1 := lzDoor G h q2 (upd D 3 (nI (M + 1))) (lzF (lzF E 9 (upd ((E 9)) M x_3)) 10 (upd ((E 10)) M x_8))) hP hD [2, 3, 4, 5, 6, 7, 8, 9, 10, 11, 12] [0, 1] rfl rfl (by decide) (by decide) rfl hk1 hB
      replace hP := hP.sub (ws' := (lzTp u q (upd (upd S 2 (nI z5.2)) 3 z5.1) ++ (lzI G (q 0) 120 tb ++ (lzDoor G h q2 (upd D 3 (nI (M + 1))) (lzF (lzF E 9 (upd ((E 9)) M x_3)) 10 (upd ((E 10)) M x_8)))))) [0, 1, 2, 3, 4, 5, 6, 7, 8, 9, 10, 11, 12] rfl
      replace hD := hD.sub (ws' := (lzTp u q (upd (upd S 2 (nI z5.2)) 3 z5.1) ++ (lzI G (q 0) 120 tb ++ (lzDoor G h q2 (upd D 3 (nI (M + 1))) (lzF (lzF E 9 (upd ((E 9)) M x_3)) 10 (upd ((E 10)) M x_8)))))) [0, 1, 2, 3, 4, 5, 6, 7, 8, 9, 10, 11, 12] (by decide) rfl
      clear ht hvm hB hz1 hk1
      generalize H1 = H at hP hS ⊢
      exact rw_vret (S := Unit) (G := G) (Wd := fun _ : Unit => (lzTp u q (upd (upd S 2 (nI ((visZ tb L M z).2))) 3 ((visZ tb L M z).1)) ++ (lzI G (q 0) 120 tb ++ (lzDoor G h q2 (visD tb L M z D) (visF tb L M z E))))) () hx hb hr hlk dX2_readVisitor_76 hS (by show va_P G.1 lzC (lzTp u q (upd (upd S 2 (nI ((visZ tb L M z).2))) 3 ((visZ tb L M z).1)) ++ (lzI G (q 0) 120 tb ++ lzDoor G h q2 (visD tb L M z D) (visF tb L M z E))) _; unfold visD visF; first | (rw [if_pos hv0, if_pos hv0, e5, e3, e1, ← ex_3, ← ex_8]; exact hP) | (rw [if_neg hv0, if_neg hv0, e5]; exact hP)) (trivial)
  refine lv_aload_n hx hb dX2_readVisitor_0 rfl (lv_at hl 0 rfl) ?_
  refine lv_aload_n hx hb dX2_readVisitor_1 rfl (lv_at hl 0 rfl) ?_
  refine lv_aload_n hx hb dX2_readVisitor_2 rfl (lv_at hl 0 rfl) ?_
  refine lz_get (G := G) (ci := 2) (v := .int (S 2)) (C := RX2) (T := TX2) (N := 4) hx hb hu_wsX20 (fun _ h9 => h9) hown hK hP 0 rfl rfl 2 (by decide) hw1 rfl rfl dX2_readVisitor_3 ?_
  refine lz_top (y := nI z.2) (hz2) ?_
  have hPc := hP.sub (ws' := (lzTp u q S ++ lzI G (q 0) 120 tb)) [0, 1] rfl
  refine ro_calli (va_runV (As := [.int (nI z.2)]) (rest := [.ref u]) ⟨hx, hb, hml, hown, hts⟩ (c_X2_byteAt l G u q S tb L z.2 (hL) (hL1) (by omega)) (cwV 1 hts gX2_readVisitor_X2_byteAt rfl rfl rfl (by decide +kernel) ⟨Nat.le_of_ble_eq_true rfl, Nat.le_of_ble_eq_true rfl⟩) (ro_preV hK hPc hP (ci := 2) (q0 := 0) rfl rfl) rfl rfl hl.1 rfl (lv_room (Nat.le_of_ble_eq_true rfl)) dX2_readVisitor_6 ⟨Nat.zero_le _, Nat.zero_le _⟩) (fun r_13 hr_13 => ?_)
  refine lz_top (y := byI tb L z.2) hr_13 ?_
  refine lv_bipush (v := 118) hx hb dX2_readVisitor_9 (by decide) ?_
  refine lv_icmp_ne (tgt := 18) hx hb dX2_readVisitor_11 (by decide) (fun c_11 => ?_) (fun c_11 => ?_)
  · skip
    refine lv_iconst (v := 0) hx hb dX2_readVisitor_18 (by decide) ?_
    refine lv_aload_n hx hb dX2_readVisitor_19 rfl (lv_at hl 1 rfl) ?_
    refine lz_get (G := G) (ci := 1) (v := .int (D 3)) (C := RX1) (T := TX1) (N := 14) hx hb hu_wsX10 (fun _ h9 => h9) hown hK hP 2 rfl rfl 3 (by decide) hw2 rfl rfl dX2_readVisitor_20 ?_
    refine lv_iconst (v := 5) hx hb dX2_readVisitor_23 (by decide) ?_
    refine lv_icmp_ge (tgt := 31) hx hb dX2_readVisitor_24 (by decide) (fun c_24 => ?_) (fun c_24 => ?_)
    · skip
      have c_24' := Int32.not_lt.mpr c_24
      have hm : ¬ M < 5 := fun h9 => absurd (lz_ge (k := M) (N := 5) rfl (hM ▸ c_24) (by omega) (by omega)) (by omega)
      refine lv_iconst (v := 0) hx hb dX2_readVisitor_31 (by decide) ?_
      have hPc := hP.sub (ws' := (lzTp u q S ++ lzI G (q 0) 120 tb)) [0, 1] rfl
      have hDc := hD.sub (ws' := (lzTp u q S ++ lzI G (q 0) 120 tb)) [0, 1] (by decide) rfl
      have hFc : ∀ zz : Nat, lzA (lzTp u q S ++ lzI G (q 0) 120 tb) zz → A zz := lz_free hD [0, 1] rfl
      refine va_callv (va_runV (As := [.int 0, .int 0]) (rest := []) ⟨hx, hb, hml, hown, hts⟩ (c_X2_readToken l G u q S tb L z false false (hL) (hL1) (hz1) (hz2) (hz3)) (cwV 2 hts gX2_readVisitor_X2_readToken rfl rfl rfl (by decide +kernel) ⟨Nat.le_of_ble_eq_true rfl, Nat.le_of_ble_eq_true rfl⟩) (rw_preV hK hPc hDc hP (ci := 2) (q0 := 0) rfl rfl) rfl rfl hl.1 rfl (lv_room (Nat.le_of_ble_eq_true rfl)) dX2_readVisitor_32 ⟨Nat.zero_le _, Nat.zero_le _⟩) hS (fun q _ h => hFc q h) hFc (fun u_15 t9 H1 locs ht hvm hr_14 hB hz1 hk1 hS => ?_)
      replace hB : va_P G.1 lzC _ t9.heap := hB
      rw [ht] at hB
      obtain ⟨hP, hD⟩ := lz_join (wc := (lzTp u q S ++ lzI G (q 0) 120 tb)) (wr := ([(h, .inr (1, [.int (D 0), .int (D 1), .int (D 2), .int (D 3), .ref (q2 4), .ref (q2 5), .ref (q2 6), .ref (q2 7), .ref (q2 8), .ref (q2 9), .ref (q2 10), .ref (q2 11), .ref (q2 12), .ref (q2 13)])), (q2 4, .inl (G.2 0, 8, .inl (E 4))), (q2 5, .inl (G.2 0, 8, .inl (E 5))), (q2 6, .inl (G.2 0, 8, .inl (E 6))), (q2 7, .inl (G.2 0, 8, .inl (E 7))), (q2 8, .inl (G.2 0, 8, .inl (E 8))), (q2 9, .inl (G.2 0, 5, .inl (E 9))), (q2 10, .inl (G.2 0, 5, .inl (E 10))), (q2 11, .inl (G.2 0, 5, .inl (E 11))), (q2 12, .inl (G.2 0, 5, .inl (E 12))), (q2 13, .inl (G.2 0, 5, .inl (E 13)))] : va_W)) (w1 := (lzTp u q (upd (upd S 2 (nI ((tokS false false z).2))) 3 ((tokS false false z).1)) ++ lzI G (q 0) 120 tb)) hP hD [0, 1] [2, 3, 4, 5, 6, 7, 8, 9, 10, 11, 12] rfl rfl (by decide) (by decide) rfl hk1 hB
      replace hP := hP.sub (ws' := (lzTp u q (upd (upd S 2 (nI ((tokS false false z).2))) 3 ((tokS false false z).1)) ++ (lzI G (q 0) 120 tb ++ (lzDoor G h q2 D E)))) [11, 12, 0, 1, 2, 3, 4, 5, 6, 7, 8, 9, 10] rfl
      replace hD := hD.sub (ws' := (lzTp u q (upd (upd S 2 (nI ((tokS false false z).2))) 3 ((tokS false false z).1)) ++ (lzI G (q 0) 120 tb ++ (lzDoor G h q2 D E)))) [11, 12, 0, 1, 2, 3, 4, 5, 6, 7, 8, 9, 10] (by decide) rfl
      clear ht hvm hB hz1 hk1
      generalize H1 = H at hP hS ⊢
      obtain ⟨zz, hzz⟩ : ∃ y : Int32 × Nat, y = tokS false false z := ⟨_, rfl⟩
      rw [← hzz] at hP hD
      exact J_35 zz (by rw [hzz]; simp [visA, c_11, c_24, c_24', hm]) _ _ hP hD hS _ (lv_sub hl [0, 1] rfl)
    · skip
      have c_24' := Int32.not_le.mp c_24
      have hm : M < 5 := lz_lt (k := M) (N := 5) rfl (hM ▸ c_24) (by omega) (by omega)
      refine lv_iconst (v := 1) hx hb dX2_readVisitor_27 (by decide) ?_
      refine lv_goto (tgt := 32) hx hb dX2_readVisitor_28 (by decide) ?_
      have hPc := hP.sub (ws' := (lzTp u q S ++ lzI G (q 0) 120 tb)) [0, 1] rfl
      have hDc := hD.sub (ws' := (lzTp u q S ++ lzI G (q 0) 120 tb)) [0, 1] (by decide) rfl
      have hFc : ∀ zz : Nat, lzA (lzTp u q S ++ lzI G (q 0) 120 tb) zz → A zz := lz_free hD [0, 1] rfl
      refine va_callv (va_runV (As := [.int 0, .int 1]) (rest := []) ⟨hx, hb, hml, hown, hts⟩ (c_X2_readToken l G u q S tb L z false true (hL) (hL1) (hz1) (hz2) (hz3)) (cwV 2 hts gX2_readVisitor_X2_readToken rfl rfl rfl (by decide +kernel) ⟨Nat.le_of_ble_eq_true rfl, Nat.le_of_ble_eq_true rfl⟩) (rw_preV hK hPc hDc hP (ci := 2) (q0 := 0) rfl rfl) rfl rfl hl.1 rfl (lv_room (Nat.le_of_ble_eq_true rfl)) dX2_readVisitor_32 ⟨Nat.zero_le _, Nat.zero_le _⟩) hS (fun q _ h => hFc q h) hFc (fun u_17 t9 H1 locs ht hvm hr_16 hB hz1 hk1 hS => ?_)
      replace hB : va_P G.1 lzC _ t9.heap := hB
      rw [ht] at hB
      obtain ⟨hP, hD⟩ := lz_join (wc := (lzTp u q S ++ lzI G (q 0) 120 tb)) (wr := ([(h, .inr (1, [.int (D 0), .int (D 1), .int (D 2), .int (D 3), .ref (q2 4), .ref (q2 5), .ref (q2 6), .ref (q2 7), .ref (q2 8), .ref (q2 9), .ref (q2 10), .ref (q2 11), .ref (q2 12), .ref (q2 13)])), (q2 4, .inl (G.2 0, 8, .inl (E 4))), (q2 5, .inl (G.2 0, 8, .inl (E 5))), (q2 6, .inl (G.2 0, 8, .inl (E 6))), (q2 7, .inl (G.2 0, 8, .inl (E 7))), (q2 8, .inl (G.2 0, 8, .inl (E 8))), (q2 9, .inl (G.2 0, 5, .inl (E 9))), (q2 10, .inl (G.2 0, 5, .inl (E 10))), (q2 11, .inl (G.2 0, 5, .inl (E 11))), (q2 12, .inl (G.2 0, 5, .inl (E 12))), (q2 13, .inl (G.2 0, 5, .inl (E 13)))] : va_W)) (w1 := (lzTp u q (upd (upd S 2 (nI ((tokS false true z).2))) 3 ((tokS false true z).1)) ++ lzI G (q 0) 120 tb)) hP hD [0, 1] [2, 3, 4, 5, 6, 7, 8, 9, 10, 11, 12] rfl rfl (by decide) (by decide) rfl hk1 hB
      replace hP := hP.sub (ws' := (lzTp u q (upd (upd S 2 (nI ((tokS false true z).2))) 3 ((tokS false true z).1)) ++ (lzI G (q 0) 120 tb ++ (lzDoor G h q2 D E)))) [11, 12, 0, 1, 2, 3, 4, 5, 6, 7, 8, 9, 10] rfl
      replace hD := hD.sub (ws' := (lzTp u q (upd (upd S 2 (nI ((tokS false true z).2))) 3 ((tokS false true z).1)) ++ (lzI G (q 0) 120 tb ++ (lzDoor G h q2 D E)))) [11, 12, 0, 1, 2, 3, 4, 5, 6, 7, 8, 9, 10] (by decide) rfl
      clear ht hvm hB hz1 hk1
      generalize H1 = H at hP hS ⊢
      obtain ⟨zz, hzz⟩ : ∃ y : Int32 × Nat, y = tokS false true z := ⟨_, rfl⟩
      rw [← hzz] at hP hD
      exact J_35 zz (by rw [hzz]; simp [visA, c_11, c_24, c_24', hm]) _ _ hP hD hS _ (lv_sub hl [0, 1] rfl)
  · skip
    refine lv_iconst (v := 1) hx hb dX2_readVisitor_14 (by decide) ?_
    refine lv_goto (tgt := 19) hx hb dX2_readVisitor_15 (by decide) ?_
    refine lv_aload_n hx hb dX2_readVisitor_19 rfl (lv_at hl 1 rfl) ?_
    refine lz_get (G := G) (ci := 1) (v := .int (D 3)) (C := RX1) (T := TX1) (N := 14) hx hb hu_wsX10 (fun _ h9 => h9) hown hK hP 2 rfl rfl 3 (by decide) hw2 rfl rfl dX2_readVisitor_20 ?_
    refine lv_iconst (v := 5) hx hb dX2_readVisitor_23 (by decide) ?_
    refine lv_icmp_ge (tgt := 31) hx hb dX2_readVisitor_24 (by decide) (fun c_24 => ?_) (fun c_24 => ?_)
    · skip
      have c_24' := Int32.not_lt.mpr c_24
      have hm : ¬ M < 5 := fun h9 => absurd (lz_ge (k := M) (N := 5) rfl (hM ▸ c_24) (by omega) (by omega)) (by omega)
      refine lv_iconst (v := 0) hx hb dX2_readVisitor_31 (by decide) ?_
      have hPc := hP.sub (ws' := (lzTp u q S ++ lzI G (q 0) 120 tb)) [0, 1] rfl
      have hDc := hD.sub (ws' := (lzTp u q S ++ lzI G (q 0) 120 tb)) [0, 1] (by decide) rfl
      have hFc : ∀ zz : Nat, lzA (lzTp u q S ++ lzI G (q 0) 120 tb) zz → A zz := lz_free hD [0, 1] rfl
      refine va_callv (va_runV (As := [.int 1, .int 0]) (rest := []) ⟨hx, hb, hml, hown, hts⟩ (c_X2_readToken l G u q S tb L z true false (hL) (hL1) (hz1) (hz2) (hz3)) (cwV 2 hts gX2_readVisitor_X2_readToken rfl rfl rfl (by decide +kernel) ⟨Nat.le_of_ble_eq_true rfl, Nat.le_of_ble_eq_true rfl⟩) (rw_preV hK hPc hDc hP (ci := 2) (q0 := 0) rfl rfl) rfl rfl hl.1 rfl (lv_room (Nat.le_of_ble_eq_true rfl)) dX2_readVisitor_32 ⟨Nat.zero_le _, Nat.zero_le _⟩) hS (fun q _ h => hFc q h) hFc (fun u_19 t9 H1 locs ht hvm hr_18 hB hz1 hk1 hS => ?_)
      replace hB : va_P G.1 lzC _ t9.heap := hB
      rw [ht] at hB
      obtain ⟨hP, hD⟩ := lz_join (wc := (lzTp u q S ++ lzI G (q 0) 120 tb)) (wr := ([(h, .inr (1, [.int (D 0), .int (D 1), .int (D 2), .int (D 3), .ref (q2 4), .ref (q2 5), .ref (q2 6), .ref (q2 7), .ref (q2 8), .ref (q2 9), .ref (q2 10), .ref (q2 11), .ref (q2 12), .ref (q2 13)])), (q2 4, .inl (G.2 0, 8, .inl (E 4))), (q2 5, .inl (G.2 0, 8, .inl (E 5))), (q2 6, .inl (G.2 0, 8, .inl (E 6))), (q2 7, .inl (G.2 0, 8, .inl (E 7))), (q2 8, .inl (G.2 0, 8, .inl (E 8))), (q2 9, .inl (G.2 0, 5, .inl (E 9))), (q2 10, .inl (G.2 0, 5, .inl (E 10))), (q2 11, .inl (G.2 0, 5, .inl (E 11))), (q2 12, .inl (G.2 0, 5, .inl (E 12))), (q2 13, .inl (G.2 0, 5, .inl (E 13)))] : va_W)) (w1 := (lzTp u q (upd (upd S 2 (nI ((tokS true false z).2))) 3 ((tokS true false z).1)) ++ lzI G (q 0) 120 tb)) hP hD [0, 1] [2, 3, 4, 5, 6, 7, 8, 9, 10, 11, 12] rfl rfl (by decide) (by decide) rfl hk1 hB
      replace hP := hP.sub (ws' := (lzTp u q (upd (upd S 2 (nI ((tokS true false z).2))) 3 ((tokS true false z).1)) ++ (lzI G (q 0) 120 tb ++ (lzDoor G h q2 D E)))) [11, 12, 0, 1, 2, 3, 4, 5, 6, 7, 8, 9, 10] rfl
      replace hD := hD.sub (ws' := (lzTp u q (upd (upd S 2 (nI ((tokS true false z).2))) 3 ((tokS true false z).1)) ++ (lzI G (q 0) 120 tb ++ (lzDoor G h q2 D E)))) [11, 12, 0, 1, 2, 3, 4, 5, 6, 7, 8, 9, 10] (by decide) rfl
      clear ht hvm hB hz1 hk1
      generalize H1 = H at hP hS ⊢
      obtain ⟨zz, hzz⟩ : ∃ y : Int32 × Nat, y = tokS true false z := ⟨_, rfl⟩
      rw [← hzz] at hP hD
      exact J_35 zz (by rw [hzz]; simp [visA, c_11, c_24, c_24', hm]) _ _ hP hD hS _ (lv_sub hl [0, 1] rfl)
    · skip
      have c_24' := Int32.not_le.mp c_24
      have hm : M < 5 := lz_lt (k := M) (N := 5) rfl (hM ▸ c_24) (by omega) (by omega)
      refine lv_iconst (v := 1) hx hb dX2_readVisitor_27 (by decide) ?_
      refine lv_goto (tgt := 32) hx hb dX2_readVisitor_28 (by decide) ?_
      have hPc := hP.sub (ws' := (lzTp u q S ++ lzI G (q 0) 120 tb)) [0, 1] rfl
      have hDc := hD.sub (ws' := (lzTp u q S ++ lzI G (q 0) 120 tb)) [0, 1] (by decide) rfl
      have hFc : ∀ zz : Nat, lzA (lzTp u q S ++ lzI G (q 0) 120 tb) zz → A zz := lz_free hD [0, 1] rfl
      refine va_callv (va_runV (As := [.int 1, .int 1]) (rest := []) ⟨hx, hb, hml, hown, hts⟩ (c_X2_readToken l G u q S tb L z true true (hL) (hL1) (hz1) (hz2) (hz3)) (cwV 2 hts gX2_readVisitor_X2_readToken rfl rfl rfl (by decide +kernel) ⟨Nat.le_of_ble_eq_true rfl, Nat.le_of_ble_eq_true rfl⟩) (rw_preV hK hPc hDc hP (ci := 2) (q0 := 0) rfl rfl) rfl rfl hl.1 rfl (lv_room (Nat.le_of_ble_eq_true rfl)) dX2_readVisitor_32 ⟨Nat.zero_le _, Nat.zero_le _⟩) hS (fun q _ h => hFc q h) hFc (fun u_21 t9 H1 locs ht hvm hr_20 hB hz1 hk1 hS => ?_)
      replace hB : va_P G.1 lzC _ t9.heap := hB
      rw [ht] at hB
      obtain ⟨hP, hD⟩ := lz_join (wc := (lzTp u q S ++ lzI G (q 0) 120 tb)) (wr := ([(h, .inr (1, [.int (D 0), .int (D 1), .int (D 2), .int (D 3), .ref (q2 4), .ref (q2 5), .ref (q2 6), .ref (q2 7), .ref (q2 8), .ref (q2 9), .ref (q2 10), .ref (q2 11), .ref (q2 12), .ref (q2 13)])), (q2 4, .inl (G.2 0, 8, .inl (E 4))), (q2 5, .inl (G.2 0, 8, .inl (E 5))), (q2 6, .inl (G.2 0, 8, .inl (E 6))), (q2 7, .inl (G.2 0, 8, .inl (E 7))), (q2 8, .inl (G.2 0, 8, .inl (E 8))), (q2 9, .inl (G.2 0, 5, .inl (E 9))), (q2 10, .inl (G.2 0, 5, .inl (E 10))), (q2 11, .inl (G.2 0, 5, .inl (E 11))), (q2 12, .inl (G.2 0, 5, .inl (E 12))), (q2 13, .inl (G.2 0, 5, .inl (E 13)))] : va_W)) (w1 := (lzTp u q (upd (upd S 2 (nI ((tokS true true z).2))) 3 ((tokS true true z).1)) ++ lzI G (q 0) 120 tb)) hP hD [0, 1] [2, 3, 4, 5, 6, 7, 8, 9, 10, 11, 12] rfl rfl (by decide) (by decide) rfl hk1 hB
      replace hP := hP.sub (ws' := (lzTp u q (upd (upd S 2 (nI ((tokS true true z).2))) 3 ((tokS true true z).1)) ++ (lzI G (q 0) 120 tb ++ (lzDoor G h q2 D E)))) [11, 12, 0, 1, 2, 3, 4, 5, 6, 7, 8, 9, 10] rfl
      replace hD := hD.sub (ws' := (lzTp u q (upd (upd S 2 (nI ((tokS true true z).2))) 3 ((tokS true true z).1)) ++ (lzI G (q 0) 120 tb ++ (lzDoor G h q2 D E)))) [11, 12, 0, 1, 2, 3, 4, 5, 6, 7, 8, 9, 10] (by decide) rfl
      clear ht hvm hB hz1 hk1
      generalize H1 = H at hP hS ⊢
      obtain ⟨zz, hzz⟩ : ∃ y : Int32 × Nat, y = tokS true true z := ⟨_, rfl⟩
      rw [← hzz] at hP hD
      exact J_35 zz (by rw [hzz]; simp [visA, c_11, c_24, c_24', hm]) _ _ hP hD hS _ (lv_sub hl [0, 1] rfl)
