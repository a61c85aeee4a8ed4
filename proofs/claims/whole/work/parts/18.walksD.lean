set_option maxHeartbeats 4000000 in
set_option maxRecDepth 100000 in
theorem c_X3_found (l : Launch) (G : lzG) (x : Nat) (q : Nat → Nat) (S : Nat → Int32) (n : Int32)  : Met l yX3_found wsX3_found ({ frames := 0, cells := 0, slots := 0, locals := 0 }) (va_Pc [.ref x, .int n] (rwP G (lzX x q S))) (va_Qi (S := Unit) (fun (r : Int32) (_ : Unit) => r = -1000010 - n) (rwB G (fun _ : Unit => lzX x q (upd S 3 n))) (lzA (lzX x q S))) 0 0 (lzA (lzX x q S)) := by
  refine rw_start (S := Unit) (cc := cX3_found) (maxL := 2) (ret := (some .int)) (by decide) rfl (Nat.le_of_ble_eq_true rfl) ?_
  intro pp ee ss mm bl me cd A hx hb hr hlk hml hts hown hP hK hD hAe hS ls hl
  have hA0 : ∀ zz : Nat, lzA (lzX x q S) zz → A zz := fun zz h9 => by rw [hAe]; exact h9
  rw [← hAe]
  clear hAe
  have hown : ss.vm.findClass RX3 = some mm.cls := hown
  have hw1 := hts (.fieldLink RX3 21 "LampSquares" "finding" "I") (List.mem_of_getElem? (i := 1) rfl)
  have hw2 := hts (.constant RX3 307 (-1000010)) (List.mem_of_getElem? (i := 2) rfl)
  have hu_wsX30 : ∀ w ∈ wsX30, w.before ([.ref x, .int n] : List Value).toArray ss = true := fun w h9 => hts w (List.mem_cons_of_mem _ (List.mem_append_right _ h9))
  have hl : lv_has ls 2 [(0, .ref x), (1, .int n)] := hl
  refine lv_aload_n hx hb dX3_found_0 rfl (lv_at hl 0 rfl) ?_
  refine lv_iload_n hx hb dX3_found_1 rfl (lv_at hl 1 rfl) ?_
  refine lz_put (G := G) (ci := 3) (C := RX3) (T := TX3) (N := 13) hx hb hu_wsX30 (fun _ h9 => h9) tyX3 tyX3_ok nmX3 hown hK hP hD hS 0 rfl rfl 3 (by decide) hw1 rfl rfl (by decide +kernel) (Nat.le_of_ble_eq_true rfl) dX3_found_2 (lzX x q (upd S 3 n)) rfl (fun H locs hP hD hS => ?_)
  refine lv_ldcw hx hb hown hw2 dX3_found_5 ?_
  refine lv_iload_n hx hb dX3_found_8 rfl (lv_at hl 1 rfl) ?_
  refine lv_isub hx hb dX3_found_9 ?_
  exact rw_iret (S := Unit) (G := G) (Wd := fun _ : Unit => lzX x q (upd S 3 n)) () hx hb hr hlk dX3_found_10 hS (hP) (rfl)
set_option maxHeartbeats 4000000 in
set_option maxRecDepth 100000 in
theorem c_X4_finding (l : Launch) (G : lzG) (m : Nat) (q : Nat → Nat) (S : Nat → Int32) (n : Int32)  : Met l yX4_finding wsX4_finding ({ frames := 0, cells := 0, slots := 0, locals := 0 }) (va_Pc [.ref m, .int n] (rwP G (lzM m q S))) (va_Qi (S := Unit) (fun (r : Int32) (_ : Unit) => r = -1000010 - n) (rwB G (fun _ : Unit => lzM m q (upd S 1 n))) (lzA (lzM m q S))) 0 0 (lzA (lzM m q S)) := by
  refine rw_start (S := Unit) (cc := cX4_finding) (maxL := 2) (ret := (some .int)) (by decide) rfl (Nat.le_of_ble_eq_true rfl) ?_
  intro pp ee ss mm bl me cd A hx hb hr hlk hml hts hown hP hK hD hAe hS ls hl
  have hA0 : ∀ zz : Nat, lzA (lzM m q S) zz → A zz := fun zz h9 => by rw [hAe]; exact h9
  rw [← hAe]
  clear hAe
  have hown : ss.vm.findClass RX4 = some mm.cls := hown
  have hw1 := hts (.fieldLink RX4 52 "LampSquaresModel" "status" "I") (List.mem_of_getElem? (i := 1) rfl)
  have hw2 := hts (.constant RX4 55 (-1000010)) (List.mem_of_getElem? (i := 2) rfl)
  have hu_wsX40 : ∀ w ∈ wsX40, w.before ([.ref m, .int n] : List Value).toArray ss = true := fun w h9 => hts w (List.mem_cons_of_mem _ (List.mem_append_right _ h9))
  have hl : lv_has ls 2 [(0, .ref m), (1, .int n)] := hl
  refine lv_aload_n hx hb dX4_finding_0 rfl (lv_at hl 0 rfl) ?_
  refine lv_iload_n hx hb dX4_finding_1 rfl (lv_at hl 1 rfl) ?_
  refine lz_put (G := G) (ci := 4) (C := RX4) (T := TX4) (N := 24) hx hb hu_wsX40 (fun _ h9 => h9) tyX4 tyX4_ok nmX4 hown hK hP hD hS 0 rfl rfl 1 (by decide) hw1 rfl rfl (by decide +kernel) (Nat.le_of_ble_eq_true rfl) dX4_finding_2 (lzM m q (upd S 1 n)) rfl (fun H locs hP hD hS => ?_)
  refine lv_ldc hx hb hown hw2 dX4_finding_5 ?_
  refine lv_iload_n hx hb dX4_finding_7 rfl (lv_at hl 1 rfl) ?_
  refine lv_isub hx hb dX4_finding_8 ?_
  exact rw_iret (S := Unit) (G := G) (Wd := fun _ : Unit => lzM m q (upd S 1 n)) () hx hb hr hlk dX4_finding_9 hS (hP) (rfl)
set_option maxHeartbeats 4000000 in
set_option maxRecDepth 100000 in
theorem c_X3_begin (l : Launch) (G : lzG) (x : Nat) (q : Nat → Nat) (S : Nat → Int32) (t : Nat → Int32) (T : Nat) (b : Int32) (hT : S 11 = nI T) (hT16 : T < 16) : Met l yX3_begin wsX3_begin ({ frames := 0, cells := 0, slots := 0, locals := 0 }) (va_Pc [.ref x, .int b] (rwP G (lzX x q S ++ lzI G (q 10) 16 t))) (va_Qv (S := Unit) (fun _ : Unit => True) (rwB G (fun _ : Unit => (lzX x q (upd S 11 (nI (T + 1))) ++ lzI G (q 10) 16 (upd t T b)))) (lzA (lzX x q S ++ lzI G (q 10) 16 t))) 0 0 (lzA (lzX x q S ++ lzI G (q 10) 16 t)) := by
  refine rw_start (S := Unit) (cc := cX3_begin) (maxL := 2) (ret := none) (by decide) rfl (Nat.le_of_ble_eq_true rfl) ?_
  intro pp ee ss mm bl me cd A hx hb hr hlk hml hts hown hP hK hD hAe hS ls hl
  have hA0 : ∀ zz : Nat, lzA (lzX x q S ++ lzI G (q 10) 16 t) zz → A zz := fun zz h9 => by rw [hAe]; exact h9
  rw [← hAe]
  clear hAe
  have hown : ss.vm.findClass RX3 = some mm.cls := hown
  have hw1 := hts (.fieldLink RX3 59 "LampSquares" "tracedCount" "I") (List.mem_of_getElem? (i := 1) rfl)
  have hw2 := hts (.fieldLink RX3 56 "LampSquares" "traced" "[I") (List.mem_of_getElem? (i := 2) rfl)
  have hu_wsX30 : ∀ w ∈ wsX30, w.before ([.ref x, .int b] : List Value).toArray ss = true := fun w h9 => hts w (List.mem_cons_of_mem _ (List.mem_append_right _ h9))
  have hl : lv_has ls 2 [(0, .ref x), (1, .int b)] := hl
  refine lv_aload_n hx hb dX3_begin_0 rfl (lv_at hl 0 rfl) ?_
  refine lz_get (G := G) (ci := 3) (v := .int (S 11)) (C := RX3) (T := TX3) (N := 13) hx hb hu_wsX30 (fun _ h9 => h9) hown hK hP 0 rfl rfl 11 (by decide) hw1 rfl rfl dX3_begin_1 ?_
  refine lv_bipush (v := 16) hx hb dX3_begin_4 (by decide) ?_
  refine lv_icmp_ge (tgt := 29) hx hb dX3_begin_6 (by decide) (fun c_6 => ?_) (fun c_6 => ?_)
  · skip
    have c_6' := Int32.not_lt.mpr c_6
    exact absurd (lz_ge (N := 16) rfl (hT ▸ c_6) (by omega) (by omega)) (by omega)
  · skip
    have c_6' := Int32.not_le.mp c_6
    refine lv_aload_n hx hb dX3_begin_9 rfl (lv_at hl 0 rfl) ?_
    refine lz_get (G := G) (ci := 3) (v := .ref (q 10)) (C := RX3) (T := TX3) (N := 13) hx hb hu_wsX30 (fun _ h9 => h9) hown hK hP 0 rfl rfl 10 (by decide) hw2 rfl rfl dX3_begin_10 ?_
    refine lv_aload_n hx hb dX3_begin_13 rfl (lv_at hl 0 rfl) ?_
    refine lz_get (G := G) (ci := 3) (v := .int (S 11)) (C := RX3) (T := TX3) (N := 13) hx hb hu_wsX30 (fun _ h9 => h9) hown hK hP 0 rfl rfl 11 (by decide) hw1 rfl rfl dX3_begin_14 ?_
    refine lz_top (y := nI T) (hT) ?_
    refine lv_iload_n hx hb dX3_begin_17 rfl (lv_at hl 1 rfl) ?_
    refine lz_iast (f := t) hx hb hK hP hD hS 1 rfl T (by omega) (Nat.le_of_ble_eq_true rfl) dX3_begin_18 (lzX x q S ++ lzI G (q 10) 16 (upd t T b)) rfl (fun H locs hP hD hS => ?_)
    refine lv_aload_n hx hb dX3_begin_19 rfl (lv_at hl 0 rfl) ?_
    refine lv_dup hx hb dX3_begin_20 rfl ?_
    refine lz_get (G := G) (ci := 3) (v := .int (S 11)) (C := RX3) (T := TX3) (N := 13) hx hb hu_wsX30 (fun _ h9 => h9) hown hK hP 0 rfl rfl 11 (by decide) hw1 rfl rfl dX3_begin_21 ?_
    refine lv_iconst (v := 1) hx hb dX3_begin_24 (by decide) ?_
    refine lv_iadd hx hb dX3_begin_25 ?_
    refine lz_top (y := nI (T + 1)) (by rw [hT]; exact nI_1 T) ?_
    refine lz_put (G := G) (ci := 3) (C := RX3) (T := TX3) (N := 13) hx hb hu_wsX30 (fun _ h9 => h9) tyX3 tyX3_ok nmX3 hown hK hP hD hS 0 rfl rfl 11 (by decide) hw1 rfl rfl (by decide +kernel) (Nat.le_of_ble_eq_true rfl) dX3_begin_26 (lzX x q (upd S 11 (nI (T + 1))) ++ lzI G (q 10) 16 (upd t T b)) rfl (fun H locs hP hD hS => ?_)
    exact rw_vret (S := Unit) (G := G) (Wd := fun _ : Unit => (lzX x q (upd S 11 (nI (T + 1))) ++ lzI G (q 10) 16 (upd t T b))) () hx hb hr hlk dX3_begin_29 hS (hP) (trivial)
set_option maxHeartbeats 4000000 in
set_option maxRecDepth 100000 in
theorem c_X4_began (l : Launch) (G : lzG) (m : Nat) (q : Nat → Nat) (S : Nat → Int32) (t : Nat → Int32) (T : Nat) (b : Int32) (hT : S 23 = nI T) (hT16 : T < 16) : Met l yX4_began wsX4_began ({ frames := 0, cells := 0, slots := 0, locals := 0 }) (va_Pc [.ref m, .int b] (rwP G (lzM m q S ++ lzI G (q 22) 16 t))) (va_Qv (S := Unit) (fun _ : Unit => True) (rwB G (fun _ : Unit => (lzM m q (upd S 23 (nI (T + 1))) ++ lzI G (q 22) 16 (upd t T b)))) (lzA (lzM m q S ++ lzI G (q 22) 16 t))) 0 0 (lzA (lzM m q S ++ lzI G (q 22) 16 t)) := by
  refine rw_start (S := Unit) (cc := cX4_began) (maxL := 2) (ret := none) (by decide) rfl (Nat.le_of_ble_eq_true rfl) ?_
  intro pp ee ss mm bl me cd A hx hb hr hlk hml hts hown hP hK hD hAe hS ls hl
  have hA0 : ∀ zz : Nat, lzA (lzM m q S ++ lzI G (q 22) 16 t) zz → A zz := fun zz h9 => by rw [hAe]; exact h9
  rw [← hAe]
  clear hAe
  have hown : ss.vm.findClass RX4 = some mm.cls := hown
  have hw1 := hts (.fieldLink RX4 263 "LampSquaresModel" "traced" "I") (List.mem_of_getElem? (i := 1) rfl)
  have hw2 := hts (.fieldLink RX4 45 "LampSquaresModel" "trace" "[I") (List.mem_of_getElem? (i := 2) rfl)
  have hu_wsX40 : ∀ w ∈ wsX40, w.before ([.ref m, .int b] : List Value).toArray ss = true := fun w h9 => hts w (List.mem_cons_of_mem _ (List.mem_append_right _ h9))
  have hl : lv_has ls 2 [(0, .ref m), (1, .int b)] := hl
  refine lv_aload_n hx hb dX4_began_0 rfl (lv_at hl 0 rfl) ?_
  refine lz_get (G := G) (ci := 4) (v := .int (S 23)) (C := RX4) (T := TX4) (N := 24) hx hb hu_wsX40 (fun _ h9 => h9) hown hK hP 0 rfl rfl 23 (by decide) hw1 rfl rfl dX4_began_1 ?_
  refine lv_bipush (v := 16) hx hb dX4_began_4 (by decide) ?_
  refine lv_icmp_ge (tgt := 29) hx hb dX4_began_6 (by decide) (fun c_6 => ?_) (fun c_6 => ?_)
  · skip
    have c_6' := Int32.not_lt.mpr c_6
    exact absurd (lz_ge (N := 16) rfl (hT ▸ c_6) (by omega) (by omega)) (by omega)
  · skip
    have c_6' := Int32.not_le.mp c_6
    refine lv_aload_n hx hb dX4_began_9 rfl (lv_at hl 0 rfl) ?_
    refine lz_get (G := G) (ci := 4) (v := .ref (q 22)) (C := RX4) (T := TX4) (N := 24) hx hb hu_wsX40 (fun _ h9 => h9) hown hK hP 0 rfl rfl 22 (by decide) hw2 rfl rfl dX4_began_10 ?_
    refine lv_aload_n hx hb dX4_began_13 rfl (lv_at hl 0 rfl) ?_
    refine lz_get (G := G) (ci := 4) (v := .int (S 23)) (C := RX4) (T := TX4) (N := 24) hx hb hu_wsX40 (fun _ h9 => h9) hown hK hP 0 rfl rfl 23 (by decide) hw1 rfl rfl dX4_began_14 ?_
    refine lz_top (y := nI T) (hT) ?_
    refine lv_iload_n hx hb dX4_began_17 rfl (lv_at hl 1 rfl) ?_
    refine lz_iast (f := t) hx hb hK hP hD hS 1 rfl T (by omega) (Nat.le_of_ble_eq_true rfl) dX4_began_18 (lzM m q S ++ lzI G (q 22) 16 (upd t T b)) rfl (fun H locs hP hD hS => ?_)
    refine lv_aload_n hx hb dX4_began_19 rfl (lv_at hl 0 rfl) ?_
    refine lv_dup hx hb dX4_began_20 rfl ?_
    refine lz_get (G := G) (ci := 4) (v := .int (S 23)) (C := RX4) (T := TX4) (N := 24) hx hb hu_wsX40 (fun _ h9 => h9) hown hK hP 0 rfl rfl 23 (by decide) hw1 rfl rfl dX4_began_21 ?_
    refine lv_iconst (v := 1) hx hb dX4_began_24 (by decide) ?_
    refine lv_iadd hx hb dX4_began_25 ?_
    refine lz_top (y := nI (T + 1)) (by rw [hT]; exact nI_1 T) ?_
    refine lz_put (G := G) (ci := 4) (C := RX4) (T := TX4) (N := 24) hx hb hu_wsX40 (fun _ h9 => h9) tyX4 tyX4_ok nmX4 hown hK hP hD hS 0 rfl rfl 23 (by decide) hw1 rfl rfl (by decide +kernel) (Nat.le_of_ble_eq_true rfl) dX4_began_26 (lzM m q (upd S 23 (nI (T + 1))) ++ lzI G (q 22) 16 (upd t T b)) rfl (fun H locs hP hD hS => ?_)
    exact rw_vret (S := Unit) (G := G) (Wd := fun _ : Unit => (lzM m q (upd S 23 (nI (T + 1))) ++ lzI G (q 22) 16 (upd t T b))) () hx hb hr hlk dX4_began_29 hS (hP) (trivial)
set_option maxHeartbeats 4000000 in
set_option maxRecDepth 100000 in
theorem c_J7_fill_53178 (l : Launch) (G : lzG) (a n : Nat) (f : Nat → Int32) (v : Int32) (hn : n < 2 ^ 31) : Met l yJ7_fill_53178 wsJ7_fill_53178 ({ frames := 0, cells := 0, slots := 0, locals := 0 }) (va_Pc [.ref a, .int v] (rwP G (lzI G a n f))) (va_Qv (S := Unit) (fun _ : Unit => True) (rwB G (fun _ : Unit => lzI G a n (fa_fill (fun _ => v) f n))) (lzA (lzI G a n f))) 0 0 (lzA (lzI G a n f)) := by
  refine rw_start (S := Unit) (cc := cJ7_fill_53178) (maxL := 4) (ret := none) (by decide) rfl (Nat.le_of_ble_eq_true rfl) ?_
  intro pp ee ss mm bl me cd A hx hb hr hlk hml hts hown hP hK hD hAe hS ls hl
  have hA0 : ∀ zz : Nat, lzA (lzI G a n f) zz → A zz := fun zz h9 => by rw [hAe]; exact h9
  rw [← hAe]
  clear hAe
  have hown : ss.vm.findClass RJ7 = some mm.cls := hown
  have hl : lv_has ls 4 [(0, .ref a), (1, .int v)] := hl
  refine lv_iconst (v := 0) hx hb dJ7_fill_53178_0 (by decide) ?_
  refine lv_istore_n (lv' := [(2, .int 0), (0, .ref a), (1, .int v)]) hx hb dJ7_fill_53178_1 rfl hl (by decide) rfl (fun ls hl => ?_)
  refine lv_aload_n hx hb dJ7_fill_53178_2 rfl (lv_at hl 1 rfl) ?_
  refine lz_alen (f := f) hx hb hK hP 0 rfl dJ7_fill_53178_3 ?_
  refine lv_istore_n (lv' := [(3, .int (nI n)), (2, .int 0), (0, .ref a), (1, .int v)]) hx hb dJ7_fill_53178_4 rfl hl (by decide) rfl (fun ls hl => ?_)
  have J_5 : ∀ (n9 : Nat), ∀ (k : Nat), (k ≤ n) → n - k < n9 → ∀ (H : Heap) (locs : List Loc), va_P G.1 lzC (lzI G a n (fa_fill (fun _ => v) f k)) H → va_D A (lzI G a n (fa_fill (fun _ => v) f k)) → va_S A ss.heap H locs → ∀ ls : Array Slot, lv_has ls 4 [(2, .int (nI k)), (3, .int (nI n)), (0, .ref a), (1, .int v)] → W pp l ee ({ frames := 0, cells := 0, slots := 0, locals := 0 }) ss mm ([.ref a, .int v] : List Value).toArray bl me cd H locs 0 0 (MQ bl (va_Qv (S := Unit) (fun _ : Unit => True) (rwB G (fun _ : Unit => lzI G a n (fa_fill (fun _ => v) f n))) A) ([.ref a, .int v] : List Value).toArray ss 0 0 A) (F0 mm 5 ls []) := by
    intro n9
    induction n9 with
    | zero => intro k hk hn; exact absurd hn (Nat.not_lt_zero _)
    | succ n9 ih_5 =>
      intro k hk hn_5 H locs hP hD hS ls hl
      refine lv_iload_n hx hb dJ7_fill_53178_5 rfl (lv_at hl 0 rfl) ?_
      refine lv_iload_n hx hb dJ7_fill_53178_6 rfl (lv_at hl 1 rfl) ?_
      refine lv_icmp_ge (tgt := 20) hx hb dJ7_fill_53178_7 (by decide) (fun c_7 => ?_) (fun c_7 => ?_)
      · skip
        have c_7' := Int32.not_lt.mpr c_7
        have hk2 : n ≤ k := (nI_leI (by omega) (by omega)).mp c_7
        have hk3 : k = n := by omega
        exact rw_vret (S := Unit) (G := G) (Wd := fun _ : Unit => lzI G a n (fa_fill (fun _ => v) f n)) () hx hb hr hlk dJ7_fill_53178_20 hS (by rw [hk3] at hP; exact hP) (trivial)
      · skip
        have c_7' := Int32.not_le.mp c_7
        have hk2 : k < n := (nI_ltI (by omega) (by omega)).mp c_7'
        refine lv_aload_n hx hb dJ7_fill_53178_10 rfl (lv_at hl 2 rfl) ?_
        refine lv_iload_n hx hb dJ7_fill_53178_11 rfl (lv_at hl 0 rfl) ?_
        refine lv_iload_n hx hb dJ7_fill_53178_12 rfl (lv_at hl 3 rfl) ?_
        refine lz_iast (f := fa_fill (fun _ => v) f k) hx hb hK hP hD hS 0 rfl k (by omega) hn dJ7_fill_53178_13 (lzI G a n (upd (fa_fill (fun _ => v) f k) k v)) rfl (fun H locs hP hD hS => ?_)
        refine lv_iinc (v := nI (k + 1)) (lv' := [(2, .int (nI (k + 1))), (3, .int (nI n)), (0, .ref a), (1, .int v)]) hx hb dJ7_fill_53178_14 hl (k := 0) rfl (nI_1 _) (by decide) rfl (fun ls hl => ?_)
        refine lv_goto (tgt := 5) hx hb dJ7_fill_53178_17 (by decide) ?_
        have hE_1 : upd (fa_fill (fun _ => v) f k) k v = fa_fill (fun _ => v) f (k + 1) := fa_fill_succ (fun _ => v) f k
        replace hP : va_P G.1 lzC (lzI G a n (fa_fill (fun _ => v) f (k + 1))) H := by rw [← hE_1]; exact hP
        replace hD : va_D A (lzI G a n (fa_fill (fun _ => v) f (k + 1))) := by rw [← hE_1]; exact hD
        exact ih_5 (k + 1) (by omega) (by omega) _ _ hP hD hS _ (lv_sub hl [0, 1, 2, 3] rfl)
  have hE_2 : f = fa_fill (fun _ => v) f 0 := (fa_fill_0 _ _).symm
  replace hP : va_P G.1 lzC (lzI G a n (fa_fill (fun _ => v) f 0)) ss.heap := by rw [← hE_2]; exact hP
  replace hD : va_D A (lzI G a n (fa_fill (fun _ => v) f 0)) := by rw [← hE_2]; exact hD
  exact J_5 _ 0 (by omega) (Nat.lt_succ_self _) _ _ hP hD hS _ (lv_sub hl [1, 0, 2, 3] rfl)
set_option maxHeartbeats 4000000 in
set_option maxRecDepth 100000 in
theorem c_X1_clear (l : Launch) (G : lzG) (h : Nat) (q : Nat → Nat) (S : Nat → Int32) (F : Nat → Nat → Int32)  : Met l yX1_clear wsX1_clear ({ frames := 1, cells := 0, slots := 0, locals := 23 }) (va_Pc [.ref h] (rwP G (lzDoor G h q S F))) (va_Qv (S := Unit) (fun _ : Unit => True) (rwB G (fun _ : Unit => lzDoor G h q (upd (upd (upd (upd S 0 0) 1 0) 2 0) 3 0) (lzF (lzF (lzF (lzF (lzF F 6 (fa_fill (fun _ => 0) (F 6) 8)) 7 (fa_fill (fun _ => 0) (F 7) 8)) 8 (fa_fill (fun _ => -1000000) (F 8) 8)) 11 (fa_fill (fun _ => 0) (F 11) 5)) 12 (fa_fill (fun _ => 0) (F 12) 5)))) (lzA (lzDoor G h q S F))) 0 0 (lzA (lzDoor G h q S F)) := by
  refine rw_start (S := Unit) (cc := cX1_clear) (maxL := 1) (ret := none) (by decide) rfl (Nat.le_of_ble_eq_true rfl) ?_
  intro pp ee ss mm bl me cd A hx hb hr hlk hml hts hown hP hK hD hAe hS ls hl
  have hA0 : ∀ zz : Nat, lzA (lzDoor G h q S F) zz → A zz := fun zz h9 => by rw [hAe]; exact h9
  rw [← hAe]
  clear hAe
  have hown : ss.vm.findClass RX1 = some mm.cls := hown
  have hw1 := hts (.fieldLink RX1 9 "LampSquares$Door" "edge" "I") (List.mem_of_getElem? (i := 1) rfl)
  have hw2 := hts (.fieldLink RX1 15 "LampSquares$Door" "strict" "I") (List.mem_of_getElem? (i := 2) rfl)
  have hw3 := hts (.fieldLink RX1 18 "LampSquares$Door" "squares" "I") (List.mem_of_getElem? (i := 3) rfl)
  have hw4 := hts (.fieldLink RX1 21 "LampSquares$Door" "visitors" "I") (List.mem_of_getElem? (i := 4) rfl)
  have hw5 := hts (.fieldLink RX1 31 "LampSquares$Door" "votesFor" "[I") (List.mem_of_getElem? (i := 5) rfl)
  have hw6 := hts (.fieldLink RX1 34 "LampSquares$Door" "votesAgainst" "[I") (List.mem_of_getElem? (i := 6) rfl)
  have hw7 := hts (.fieldLink RX1 37 "LampSquares$Door" "settledAs" "[I") (List.mem_of_getElem? (i := 7) rfl)
  have hw8 := hts (.constant RX1 61 (-1000000)) (List.mem_of_getElem? (i := 8) rfl)
  have hw9 := hts (.fieldLink RX1 46 "LampSquares$Door" "timesAsked" "[I") (List.mem_of_getElem? (i := 9) rfl)
  have hw10 := hts (.fieldLink RX1 49 "LampSquares$Door" "timesLetIn" "[I") (List.mem_of_getElem? (i := 10) rfl)
  have hu_wsX10 : ∀ w ∈ wsX10, w.before ([.ref h] : List Value).toArray ss = true := fun w h9 => hts w (List.mem_cons_of_mem _ (List.mem_append_right _ h9))
  have hl : lv_has ls 1 [(0, .ref h)] := hl
  refine lv_aload_n hx hb dX1_clear_0 rfl (lv_at hl 0 rfl) ?_
  refine lv_iconst (v := 0) hx hb dX1_clear_1 (by decide) ?_
  refine lz_put (G := G) (ci := 1) (C := RX1) (T := TX1) (N := 14) hx hb hu_wsX10 (fun _ h9 => h9) tyX1 tyX1_ok nmX1 hown hK hP hD hS 0 rfl rfl 0 (by decide) hw1 rfl rfl (by decide +kernel) (Nat.le_of_ble_eq_true rfl) dX1_clear_2 (lzDoor G h q (upd S 0 0) F) rfl (fun H locs hP hD hS => ?_)
  refine lv_aload_n hx hb dX1_clear_5 rfl (lv_at hl 0 rfl) ?_
  refine lv_iconst (v := 0) hx hb dX1_clear_6 (by decide) ?_
  refine lz_put (G := G) (ci := 1) (C := RX1) (T := TX1) (N := 14) hx hb hu_wsX10 (fun _ h9 => h9) tyX1 tyX1_ok nmX1 hown hK hP hD hS 0 rfl rfl 1 (by decide) hw2 rfl rfl (by decide +kernel) (Nat.le_of_ble_eq_true rfl) dX1_clear_7 (lzDoor G h q (upd (upd S 0 0) 1 0) F) rfl (fun H locs hP hD hS => ?_)
  refine lv_aload_n hx hb dX1_clear_10 rfl (lv_at hl 0 rfl) ?_
  refine lv_iconst (v := 0) hx hb dX1_clear_11 (by decide) ?_
  refine lz_put (G := G) (ci := 1) (C := RX1) (T := TX1) (N := 14) hx hb hu_wsX10 (fun _ h9 => h9) tyX1 tyX1_ok nmX1 hown hK hP hD hS 0 rfl rfl 2 (by decide) hw3 rfl rfl (by decide +kernel) (Nat.le_of_ble_eq_true rfl) dX1_clear_12 (lzDoor G h q (upd (upd (upd S 0 0) 1 0) 2 0) F) rfl (fun H locs hP hD hS => ?_)
  refine lv_aload_n hx hb dX1_clear_15 rfl (lv_at hl 0 rfl) ?_
  refine lv_iconst (v := 0) hx hb dX1_clear_16 (by decide) ?_
  refine lz_put (G := G) (ci := 1) (C := RX1) (T := TX1) (N := 14) hx hb hu_wsX10 (fun _ h9 => h9) tyX1 tyX1_ok nmX1 hown hK hP hD hS 0 rfl rfl 3 (by decide) hw4 rfl rfl (by decide +kernel) (Nat.le_of_ble_eq_true rfl) dX1_clear_17 (lzDoor G h q (upd (upd (upd (upd S 0 0) 1 0) 2 0) 3 0) F) rfl (fun H locs hP hD hS => ?_)
  refine lv_aload_n hx hb dX1_clear_20 rfl (lv_at hl 0 rfl) ?_
  refine lz_get (G := G) (ci := 1) (v := .ref (q 6)) (C := RX1) (T := TX1) (N := 14) hx hb hu_wsX10 (fun _ h9 => h9) hown hK hP 0 rfl rfl 6 (by decide) hw5 rfl rfl dX1_clear_21 ?_
  refine lv_iconst (v := 0) hx hb dX1_clear_24 (by decide) ?_
  have hPc := hP.sub (ws' := lzI G (q 6) 8 (F 6)) [3] rfl
  have hDc := hD.sub (ws' := lzI G (q 6) 8 (F 6)) [3] (by decide) rfl
  have hFc : ∀ zz : Nat, lzA (lzI G (q 6) 8 (F 6)) zz → A zz := lz_free hD [3] rfl
  refine va_callv (va_runS (As := [.ref (q 6), .int 0]) (rest := []) ⟨hx, hb, hml, hown, hts⟩ (c_J7_fill_53178 l G (q 6) 8 (F 6) 0 (by decide)) (va_cwS 2 hts gX1_clear_J7_fill_53178 rfl rfl rfl (by decide +kernel) ⟨Nat.le_of_ble_eq_true rfl, Nat.le_of_ble_eq_true rfl⟩) (rw_pre hK hPc hDc) rfl rfl hl.1 rfl (lv_room (Nat.le_of_ble_eq_true rfl)) dX1_clear_25 ⟨Nat.zero_le _, Nat.zero_le _⟩) hS (fun q _ h => hFc q h) hFc (fun u_2 t9 H1 locs ht hvm hr_1 hB hz1 hk1 hS => ?_)
  replace hB : va_P G.1 lzC _ t9.heap := hB
  rw [ht] at hB
  obtain ⟨hP, hD⟩ := lz_join (wc := lzI G (q 6) 8 (F 6)) (wr := ([(h, .inr (1, [.int 0, .int 0, .int 0, .int 0, .ref (q 4), .ref (q 5), .ref (q 6), .ref (q 7), .ref (q 8), .ref (q 9), .ref (q 10), .ref (q 11), .ref (q 12), .ref (q 13)])), (q 4, .inl (G.2 0, 8, .inl (F 4))), (q 5, .inl (G.2 0, 8, .inl (F 5))), (q 7, .inl (G.2 0, 8, .inl (F 7))), (q 8, .inl (G.2 0, 8, .inl (F 8))), (q 9, .inl (G.2 0, 5, .inl (F 9))), (q 10, .inl (G.2 0, 5, .inl (F 10))), (q 11, .inl (G.2 0, 5, .inl (F 11))), (q 12, .inl (G.2 0, 5, .inl (F 12))), (q 13, .inl (G.2 0, 5, .inl (F 13)))] : va_W)) (w1 := lzI G (q 6) 8 (fa_fill (fun _ => 0) (F 6) 8)) hP hD [3] [0, 1, 2, 4, 5, 6, 7, 8, 9, 10] rfl rfl (by decide) (by decide) rfl hk1 hB
  replace hP := hP.sub (ws' := lzDoor G h q (upd (upd (upd (upd S 0 0) 1 0) 2 0) 3 0) (lzF F 6 (fa_fill (fun _ => 0) (F 6) 8))) [0, 1, 2, 10, 3, 4, 5, 6, 7, 8, 9] rfl
  replace hD := hD.sub (ws' := lzDoor G h q (upd (upd (upd (upd S 0 0) 1 0) 2 0) 3 0) (lzF F 6 (fa_fill (fun _ => 0) (F 6) 8))) [0, 1, 2, 10, 3, 4, 5, 6, 7, 8, 9] (by decide) rfl
  clear ht hvm hB hz1 hk1
  generalize H1 = H at hP hS ⊢
  refine lv_aload_n hx hb dX1_clear_28 rfl (lv_at hl 0 rfl) ?_
  refine lz_get (G := G) (ci := 1) (v := .ref (q 7)) (C := RX1) (T := TX1) (N := 14) hx hb hu_wsX10 (fun _ h9 => h9) hown hK hP 0 rfl rfl 7 (by decide) hw6 rfl rfl dX1_clear_29 ?_
  refine lv_iconst (v := 0) hx hb dX1_clear_32 (by decide) ?_
  have hPc := hP.sub (ws' := lzI G (q 7) 8 (F 7)) [4] rfl
  have hDc := hD.sub (ws' := lzI G (q 7) 8 (F 7)) [4] (by decide) rfl
  have hFc : ∀ zz : Nat, lzA (lzI G (q 7) 8 (F 7)) zz → A zz := lz_free hD [4] rfl
  refine va_callv (va_runS (As := [.ref (q 7), .int 0]) (rest := []) ⟨hx, hb, hml, hown, hts⟩ (c_J7_fill_53178 l G (q 7) 8 (F 7) 0 (by decide)) (va_cwS 2 hts gX1_clear_J7_fill_53178 rfl rfl rfl (by decide +kernel) ⟨Nat.le_of_ble_eq_true rfl, Nat.le_of_ble_eq_true rfl⟩) (rw_pre hK hPc hDc) rfl rfl hl.1 rfl (lv_room (Nat.le_of_ble_eq_true rfl)) dX1_clear_33 ⟨Nat.zero_le _, Nat.zero_le _⟩) hS (fun q _ h => hFc q h) hFc (fun u_4 t9 H1 locs ht hvm hr_3 hB hz1 hk1 hS => ?_)
  replace hB : va_P G.1 lzC _ t9.heap := hB
  rw [ht] at hB
  obtain ⟨hP, hD⟩ := lz_join (wc := lzI G (q 7) 8 (F 7)) (wr := ([(h, .inr (1, [.int 0, .int 0, .int 0, .int 0, .ref (q 4), .ref (q 5), .ref (q 6), .ref (q 7), .ref (q 8), .ref (q 9), .ref (q 10), .ref (q 11), .ref (q 12), .ref (q 13)])), (q 4, .inl (G.2 0, 8, .inl (F 4))), (q 5, .inl (G.2 0, 8, .inl (F 5))), (q 6, .inl (G.2 0, 8, .inl (fa_fill (fun _ => 0) (F 6) 8))), (q 8, .inl (G.2 0, 8, .inl (F 8))), (q 9, .inl (G.2 0, 5, .inl (F 9))), (q 10, .inl (G.2 0, 5, .inl (F 10))), (q 11, .inl (G.2 0, 5, .inl (F 11))), (q 12, .inl (G.2 0, 5, .inl (F 12))), (q 13, .inl (G.2 0, 5, .inl (F 13)))] : va_W)) (w1 := lzI G (q 7) 8 (fa_fill (fun _ => 0) (F 7) 8)) hP hD [4] [0, 1, 2, 3, 5, 6, 7, 8, 9, 10] rfl rfl (by decide) (by decide) rfl hk1 hB
  replace hP := hP.sub (ws' := lzDoor G h q (upd (upd (upd (upd S 0 0) 1 0) 2 0) 3 0) (lzF (lzF F 6 (fa_fill (fun _ => 0) (F 6) 8)) 7 (fa_fill (fun _ => 0) (F 7) 8))) [0, 1, 2, 3, 10, 4, 5, 6, 7, 8, 9] rfl
  replace hD := hD.sub (ws' := lzDoor G h q (upd (upd (upd (upd S 0 0) 1 0) 2 0) 3 0) (lzF (lzF F 6 (fa_fill (fun _ => 0) (F 6) 8)) 7 (fa_fill (fun _ => 0) (F 7) 8))) [0, 1, 2, 3, 10, 4, 5, 6, 7, 8, 9] (by decide) rfl
  clear ht hvm hB hz1 hk1
  generalize H1 = H at hP hS ⊢
  refine lv_aload_n hx hb dX1_clear_36 rfl (lv_at hl 0 rfl) ?_
  refine lz_get (G := G) (ci := 1) (v := .ref (q 8)) (C := RX1) (T := TX1) (N := 14) hx hb hu_wsX10 (fun _ h9 => h9) hown hK hP 0 rfl rfl 8 (by decide) hw7 rfl rfl dX1_clear_37 ?_
  refine lv_ldc hx hb hown hw8 dX1_clear_40 ?_
  have hPc := hP.sub (ws' := lzI G (q 8) 8 (F 8)) [5] rfl
  have hDc := hD.sub (ws' := lzI G (q 8) 8 (F 8)) [5] (by decide) rfl
  have hFc : ∀ zz : Nat, lzA (lzI G (q 8) 8 (F 8)) zz → A zz := lz_free hD [5] rfl
  refine va_callv (va_runS (As := [.ref (q 8), .int (-1000000)]) (rest := []) ⟨hx, hb, hml, hown, hts⟩ (c_J7_fill_53178 l G (q 8) 8 (F 8) (-1000000) (by decide)) (va_cwS 2 hts gX1_clear_J7_fill_53178 rfl rfl rfl (by decide +kernel) ⟨Nat.le_of_ble_eq_true rfl, Nat.le_of_ble_eq_true rfl⟩) (rw_pre hK hPc hDc) rfl rfl hl.1 rfl (lv_room (Nat.le_of_ble_eq_true rfl)) dX1_clear_42 ⟨Nat.zero_le _, Nat.zero_le _⟩) hS (fun q _ h => hFc q h) hFc (fun u_6 t9 H1 locs ht hvm hr_5 hB hz1 hk1 hS => ?_)
  replace hB : va_P G.1 lzC _ t9.heap := hB
  rw [ht] at hB
  obtain ⟨hP, hD⟩ := lz_join (wc := lzI G (q 8) 8 (F 8)) (wr := ([(h, .inr (1, [.int 0, .int 0, .int 0, .int 0, .ref (q 4), .ref (q 5), .ref (q 6), .ref (q 7), .ref (q 8), .ref (q 9), .ref (q 10), .ref (q 11), .ref (q 12), .ref (q 13)])), (q 4, .inl (G.2 0, 8, .inl (F 4))), (q 5, .inl (G.2 0, 8, .inl (F 5))), (q 6, .inl (G.2 0, 8, .inl (fa_fill (fun _ => 0) (F 6) 8))), (q 7, .inl (G.2 0, 8, .inl (fa_fill (fun _ => 0) (F 7) 8))), (q 9, .inl (G.2 0, 5, .inl (F 9))), (q 10, .inl (G.2 0, 5, .inl (F 10))), (q 11, .inl (G.2 0, 5, .inl (F 11))), (q 12, .inl (G.2 0, 5, .inl (F 12))), (q 13, .inl (G.2 0, 5, .inl (F 13)))] : va_W)) (w1 := lzI G (q 8) 8 (fa_fill (fun _ => (-1000000)) (F 8) 8)) hP hD [5] [0, 1, 2, 3, 4, 6, 7, 8, 9, 10] rfl rfl (by decide) (by decide) rfl hk1 hB
  replace hP := hP.sub (ws' := lzDoor G h q (upd (upd (upd (upd S 0 0) 1 0) 2 0) 3 0) (lzF (lzF (lzF F 6 (fa_fill (fun _ => 0) (F 6) 8)) 7 (fa_fill (fun _ => 0) (F 7) 8)) 8 (fa_fill (fun _ => (-1000000)) (F 8) 8))) [0, 1, 2, 3, 4, 10, 5, 6, 7, 8, 9] rfl
  replace hD := hD.sub (ws' := lzDoor G h q (upd (upd (upd (upd S 0 0) 1 0) 2 0) 3 0) (lzF (lzF (lzF F 6 (fa_fill (fun _ => 0) (F 6) 8)) 7 (fa_fill (fun _ => 0) (F 7) 8)) 8 (fa_fill (fun _ => (-1000000)) (F 8) 8))) [0, 1, 2, 3, 4, 10, 5, 6, 7, 8, 9] (by decide) rfl
  clear ht hvm hB hz1 hk1
  generalize H1 = H at hP hS ⊢
  refine lv_aload_n hx hb dX1_clear_45 rfl (lv_at hl 0 rfl) ?_
  refine lz_get (G := G) (ci := 1) (v := .ref (q 11)) (C := RX1) (T := TX1) (N := 14) hx hb hu_wsX10 (fun _ h9 => h9) hown hK hP 0 rfl rfl 11 (by decide) hw9 rfl rfl dX1_clear_46 ?_
  refine lv_iconst (v := 0) hx hb dX1_clear_49 (by decide) ?_
  have hPc := hP.sub (ws' := lzI G (q 11) 5 (F 11)) [8] rfl
  have hDc := hD.sub (ws' := lzI G (q 11) 5 (F 11)) [8] (by decide) rfl
  have hFc : ∀ zz : Nat, lzA (lzI G (q 11) 5 (F 11)) zz → A zz := lz_free hD [8] rfl
  refine va_callv (va_runS (As := [.ref (q 11), .int 0]) (rest := []) ⟨hx, hb, hml, hown, hts⟩ (c_J7_fill_53178 l G (q 11) 5 (F 11) 0 (by decide)) (va_cwS 2 hts gX1_clear_J7_fill_53178 rfl rfl rfl (by decide +kernel) ⟨Nat.le_of_ble_eq_true rfl, Nat.le_of_ble_eq_true rfl⟩) (rw_pre hK hPc hDc) rfl rfl hl.1 rfl (lv_room (Nat.le_of_ble_eq_true rfl)) dX1_clear_50 ⟨Nat.zero_le _, Nat.zero_le _⟩) hS (fun q _ h => hFc q h) hFc (fun u_8 t9 H1 locs ht hvm hr_7 hB hz1 hk1 hS => ?_)
  replace hB : va_P G.1 lzC _ t9.heap := hB
  rw [ht] at hB
  obtain ⟨hP, hD⟩ := lz_join (wc := lzI G (q 11) 5 (F 11)) (wr := ([(h, .inr (1, [.int 0, .int 0, .int 0, .int 0, .ref (q 4), .ref (q 5), .ref (q 6), .ref (q 7), .ref (q 8), .ref (q 9), .ref (q 10), .ref (q 11), .ref (q 12), .ref (q 13)])), (q 4, .inl (G.2 0, 8, .inl (F 4))), (q 5, .inl (G.2 0, 8, .inl (F 5))), (q 6, .inl (G.2 0, 8, .inl (fa_fill (fun _ => 0) (F 6) 8))), (q 7, .inl (G.2 0, 8, .inl (fa_fill (fun _ => 0) (F 7) 8))), (q 8, .inl (G.2 0, 8, .inl (fa_fill (fun _ => (-1000000)) (F 8) 8))), (q 9, .inl (G.2 0, 5, .inl (F 9))), (q 10, .inl (G.2 0, 5, .inl (F 10))), (q 12, .inl (G.2 0, 5, .inl (F 12))), (q 13, .inl (G.2 0, 5, .inl (F 13)))] : va_W)) (w1 := lzI G (q 11) 5 (fa_fill (fun _ => 0) (F 11) 5)) hP hD [8] [0, 1, 2, 3, 4, 5, 6, 7, 9, 10] rfl rfl (by decide) (by decide) rfl hk1 hB
  replace hP := hP.sub (ws' := lzDoor G h q (upd (upd (upd (upd S 0 0) 1 0) 2 0) 3 0) (lzF (lzF (lzF (lzF F 6 (fa_fill (fun _ => 0) (F 6) 8)) 7 (fa_fill (fun _ => 0) (F 7) 8)) 8 (fa_fill (fun _ => (-1000000)) (F 8) 8)) 11 (fa_fill (fun _ => 0) (F 11) 5))) [0, 1, 2, 3, 4, 5, 6, 7, 10, 8, 9] rfl
  replace hD := hD.sub (ws' := lzDoor G h q (upd (upd (upd (upd S 0 0) 1 0) 2 0) 3 0) (lzF (lzF (lzF (lzF F 6 (fa_fill (fun _ => 0) (F 6) 8)) 7 (fa_fill (fun _ => 0) (F 7) 8)) 8 (fa_fill (fun _ => (-1000000)) (F 8) 8)) 11 (fa_fill (fun _ => 0) (F 11) 5))) [0, 1, 2, 3, 4, 5, 6, 7, 10, 8, 9] (by decide) rfl
  clear ht hvm hB hz1 hk1
  generalize H1 = H at hP hS ⊢
  refine lv_aload_n hx hb dX1_clear_53 rfl (lv_at hl 0 rfl) ?_
  refine lz_get (G := G) (ci := 1) (v := .ref (q 12)) (C := RX1) (T := TX1) (N := 14) hx hb hu_wsX10 (fun _ h9 => h9) hown hK hP 0 rfl rfl 12 (by decide) hw10 rfl rfl dX1_clear_54 ?_
  refine lv_iconst (v := 0) hx hb dX1_clear_57 (by decide) ?_
  have hPc := hP.sub (ws' := lzI G (q 12) 5 (F 12)) [9] rfl
  have hDc := hD.sub (ws' := lzI G (q 12) 5 (F 12)) [9] (by decide) rfl
  have hFc : ∀ zz : Nat, lzA (lzI G (q 12) 5 (F 12)) zz → A zz := lz_free hD [9] rfl
  refine va_callv (va_runS (As := [.ref (q 12), .int 0]) (rest := []) ⟨hx, hb, hml, hown, hts⟩ (c_J7_fill_53178 l G (q 12) 5 (F 12) 0 (by decide)) (va_cwS 2 hts gX1_clear_J7_fill_53178 rfl rfl rfl (by decide +kernel) ⟨Nat.le_of_ble_eq_true rfl, Nat.le_of_ble_eq_true rfl⟩) (rw_pre hK hPc hDc) rfl rfl hl.1 rfl (lv_room (Nat.le_of_ble_eq_true rfl)) dX1_clear_58 ⟨Nat.zero_le _, Nat.zero_le _⟩) hS (fun q _ h => hFc q h) hFc (fun u_10 t9 H1 locs ht hvm hr_9 hB hz1 hk1 hS => ?_)
  replace hB : va_P G.1 lzC _ t9.heap := hB
  rw [ht] at hB
  obtain ⟨hP, hD⟩ := lz_join (wc := lzI G (q 12) 5 (F 12)) (wr := ([(h, .inr (1, [.int 0, .int 0, .int 0, .int 0, .ref (q 4), .ref (q 5), .ref (q 6), .ref (q 7), .ref (q 8), .ref (q 9), .ref (q 10), .ref (q 11), .ref (q 12), .ref (q 13)])), (q 4, .inl (G.2 0, 8, .inl (F 4))), (q 5, .inl (G.2 0, 8, .inl (F 5))), (q 6, .inl (G.2 0, 8, .inl (fa_fill (fun _ => 0) (F 6) 8))), (q 7, .inl (G.2 0, 8, .inl (fa_fill (fun _ => 0) (F 7) 8))), (q 8, .inl (G.2 0, 8, .inl (fa_fill (fun _ => (-1000000)) (F 8) 8))), (q 9, .inl (G.2 0, 5, .inl (F 9))), (q 10, .inl (G.2 0, 5, .inl (F 10))), (q 11, .inl (G.2 0, 5, .inl (fa_fill (fun _ => 0) (F 11) 5))), (q 13, .inl (G.2 0, 5, .inl (F 13)))] : va_W)) (w1 := lzI G (q 12) 5 (fa_fill (fun _ => 0) (F 12) 5)) hP hD [9] [0, 1, 2, 3, 4, 5, 6, 7, 8, 10] rfl rfl (by decide) (by decide) rfl hk1 hB
  replace hP := hP.sub (ws' := lzDoor G h q (upd (upd (upd (upd S 0 0) 1 0) 2 0) 3 0) (lzF (lzF (lzF (lzF (lzF F 6 (fa_fill (fun _ => 0) (F 6) 8)) 7 (fa_fill (fun _ => 0) (F 7) 8)) 8 (fa_fill (fun _ => (-1000000)) (F 8) 8)) 11 (fa_fill (fun _ => 0) (F 11) 5)) 12 (fa_fill (fun _ => 0) (F 12) 5))) [0, 1, 2, 3, 4, 5, 6, 7, 8, 10, 9] rfl
  replace hD := hD.sub (ws' := lzDoor G h q (upd (upd (upd (upd S 0 0) 1 0) 2 0) 3 0) (lzF (lzF (lzF (lzF (lzF F 6 (fa_fill (fun _ => 0) (F 6) 8)) 7 (fa_fill (fun _ => 0) (F 7) 8)) 8 (fa_fill (fun _ => (-1000000)) (F 8) 8)) 11 (fa_fill (fun _ => 0) (F 11) 5)) 12 (fa_fill (fun _ => 0) (F 12) 5))) [0, 1, 2, 3, 4, 5, 6, 7, 8, 10, 9] (by decide) rfl
  clear ht hvm hB hz1 hk1
  generalize H1 = H at hP hS ⊢
  exact rw_vret (S := Unit) (G := G) (Wd := fun _ : Unit => lzDoor G h q (upd (upd (upd (upd S 0 0) 1 0) 2 0) 3 0) (lzF (lzF (lzF (lzF (lzF F 6 (fa_fill (fun _ => 0) (F 6) 8)) 7 (fa_fill (fun _ => 0) (F 7) 8)) 8 (fa_fill (fun _ => -1000000) (F 8) 8)) 11 (fa_fill (fun _ => 0) (F 11) 5)) 12 (fa_fill (fun _ => 0) (F 12) 5))) () hx hb hr hlk dX1_clear_61 hS (hP) (trivial)
set_option maxHeartbeats 4000000 in
set_option maxRecDepth 100000 in
theorem c_X1_takeFrom (l : Launch) (G : lzG) (h : Nat) (q : Nat → Nat) (S : Nat → Int32) (F : Nat → Nat → Int32) (o : Nat) (q2 : Nat → Nat) (T : Nat → Int32) (E : Nat → Nat → Int32)  : Met l yX1_takeFrom wsX1_takeFrom ({ frames := 1, cells := 0, slots := 0, locals := 40 }) (va_Pc [.ref h, .ref o] (rwP G (lzDoor G h q S F ++ lzDoor G o q2 T E))) (va_Qv (S := Unit) (fun _ : Unit => True) (rwB G (fun _ : Unit => (lzDoor G h q (upd (upd (upd (upd S 0 (T 0)) 1 (T 1)) 2 (T 2)) 3 (T 3)) (lzF (lzF (lzF (lzF (lzF (lzF (lzF (lzF (lzF F 4 (va_cpy (E 4) (F 4) 0 0 8)) 5 (va_cpy (E 5) (F 5) 0 0 8)) 6 (va_cpy (E 6) (F 6) 0 0 8)) 7 (va_cpy (E 7) (F 7) 0 0 8)) 8 (va_cpy (E 8) (F 8) 0 0 8)) 9 (va_cpy (E 9) (F 9) 0 0 5)) 10 (va_cpy (E 10) (F 10) 0 0 5)) 11 (va_cpy (E 11) (F 11) 0 0 5)) 12 (va_cpy (E 12) (F 12) 0 0 5)) ++ lzDoor G o q2 T E))) (lzA (lzDoor G h q S F ++ lzDoor G o q2 T E))) 0 0 (lzA (lzDoor G h q S F ++ lzDoor G o q2 T E)) := by
  refine rw_start (S := Unit) (cc := cX1_takeFrom) (maxL := 2) (ret := none) (by decide) rfl (Nat.le_of_ble_eq_true rfl) ?_
  intro pp ee ss mm bl me cd A hx hb hr hlk hml hts hown hP hK hD hAe hS ls hl
  have hA0 : ∀ zz : Nat, lzA (lzDoor G h q S F ++ lzDoor G o q2 T E) zz → A zz := fun zz h9 => by rw [hAe]; exact h9
  rw [← hAe]
  clear hAe
  have hown : ss.vm.findClass RX1 = some mm.cls := hown
  have hw1 := hts (.fieldLink RX1 9 "LampSquares$Door" "edge" "I") (List.mem_of_getElem? (i := 1) rfl)
  have hw2 := hts (.fieldLink RX1 15 "LampSquares$Door" "strict" "I") (List.mem_of_getElem? (i := 2) rfl)
  have hw3 := hts (.fieldLink RX1 18 "LampSquares$Door" "squares" "I") (List.mem_of_getElem? (i := 3) rfl)
  have hw4 := hts (.fieldLink RX1 21 "LampSquares$Door" "visitors" "I") (List.mem_of_getElem? (i := 4) rfl)
  have hw5 := hts (.fieldLink RX1 24 "LampSquares$Door" "kindOf" "[I") (List.mem_of_getElem? (i := 5) rfl)
  have hw6 := hts (.methodLink RX1 62 arraycopyName) (List.mem_of_getElem? (i := 6) rfl)
  have hw7 := hts (.native arraycopyName) (List.mem_of_getElem? (i := 7) rfl)
  have hw8 := hts (.static arraycopyName) (List.mem_of_getElem? (i := 8) rfl)
  have hw9 := hts (.initialized "java/lang/System") (List.mem_of_getElem? (i := 9) rfl)
  have hw10 := hts (.fieldLink RX1 28 "LampSquares$Door" "shareOf" "[I") (List.mem_of_getElem? (i := 10) rfl)
  have hw11 := hts (.fieldLink RX1 31 "LampSquares$Door" "votesFor" "[I") (List.mem_of_getElem? (i := 11) rfl)
  have hw12 := hts (.fieldLink RX1 34 "LampSquares$Door" "votesAgainst" "[I") (List.mem_of_getElem? (i := 12) rfl)
  have hw13 := hts (.fieldLink RX1 37 "LampSquares$Door" "settledAs" "[I") (List.mem_of_getElem? (i := 13) rfl)
  have hw14 := hts (.fieldLink RX1 40 "LampSquares$Door" "careOf" "[I") (List.mem_of_getElem? (i := 14) rfl)
  have hw15 := hts (.fieldLink RX1 43 "LampSquares$Door" "earOf" "[I") (List.mem_of_getElem? (i := 15) rfl)
  have hw16 := hts (.fieldLink RX1 46 "LampSquares$Door" "timesAsked" "[I") (List.mem_of_getElem? (i := 16) rfl)
  have hw17 := hts (.fieldLink RX1 49 "LampSquares$Door" "timesLetIn" "[I") (List.mem_of_getElem? (i := 17) rfl)
  have hu_wsX10 : ∀ w ∈ wsX10, w.before ([.ref h, .ref o] : List Value).toArray ss = true := fun w h9 => hts w (List.mem_cons_of_mem _ (List.mem_append_right _ h9))
  have hl : lv_has ls 2 [(0, .ref h), (1, .ref o)] := hl
  refine lv_aload_n hx hb dX1_takeFrom_0 rfl (lv_at hl 0 rfl) ?_
  refine lv_aload_n hx hb dX1_takeFrom_1 rfl (lv_at hl 1 rfl) ?_
  refine lz_get (G := G) (ci := 1) (v := .int (T 0)) (C := RX1) (T := TX1) (N := 14) hx hb hu_wsX10 (fun _ h9 => h9) hown hK hP 11 rfl rfl 0 (by decide) hw1 rfl rfl dX1_takeFrom_2 ?_
  refine lz_put (G := G) (ci := 1) (C := RX1) (T := TX1) (N := 14) hx hb hu_wsX10 (fun _ h9 => h9) tyX1 tyX1_ok nmX1 hown hK hP hD hS 0 rfl rfl 0 (by decide) hw1 rfl rfl (by decide +kernel) (Nat.le_of_ble_eq_true rfl) dX1_takeFrom_5 (lzDoor G h q (upd S 0 (T 0)) F ++ lzDoor G o q2 T E) rfl (fun H locs hP hD hS => ?_)
  refine lv_aload_n hx hb dX1_takeFrom_8 rfl (lv_at hl 0 rfl) ?_
  refine lv_aload_n hx hb dX1_takeFrom_9 rfl (lv_at hl 1 rfl) ?_
  refine lz_get (G := G) (ci := 1) (v := .int (T 1)) (C := RX1) (T := TX1) (N := 14) hx hb hu_wsX10 (fun _ h9 => h9) hown hK hP 11 rfl rfl 1 (by decide) hw2 rfl rfl dX1_takeFrom_10 ?_
  refine lz_put (G := G) (ci := 1) (C := RX1) (T := TX1) (N := 14) hx hb hu_wsX10 (fun _ h9 => h9) tyX1 tyX1_ok nmX1 hown hK hP hD hS 0 rfl rfl 1 (by decide) hw2 rfl rfl (by decide +kernel) (Nat.le_of_ble_eq_true rfl) dX1_takeFrom_13 (lzDoor G h q (upd (upd S 0 (T 0)) 1 (T 1)) F ++ lzDoor G o q2 T E) rfl (fun H locs hP hD hS => ?_)
  refine lv_aload_n hx hb dX1_takeFrom_16 rfl (lv_at hl 0 rfl) ?_
  refine lv_aload_n hx hb dX1_takeFrom_17 rfl (lv_at hl 1 rfl) ?_
  refine lz_get (G := G) (ci := 1) (v := .int (T 2)) (C := RX1) (T := TX1) (N := 14) hx hb hu_wsX10 (fun _ h9 => h9) hown hK hP 11 rfl rfl 2 (by decide) hw3 rfl rfl dX1_takeFrom_18 ?_
  refine lz_put (G := G) (ci := 1) (C := RX1) (T := TX1) (N := 14) hx hb hu_wsX10 (fun _ h9 => h9) tyX1 tyX1_ok nmX1 hown hK hP hD hS 0 rfl rfl 2 (by decide) hw3 rfl rfl (by decide +kernel) (Nat.le_of_ble_eq_true rfl) dX1_takeFrom_21 (lzDoor G h q (upd (upd (upd S 0 (T 0)) 1 (T 1)) 2 (T 2)) F ++ lzDoor G o q2 T E) rfl (fun H locs hP hD hS => ?_)
  refine lv_aload_n hx hb dX1_takeFrom_24 rfl (lv_at hl 0 rfl) ?_
  refine lv_aload_n hx hb dX1_takeFrom_25 rfl (lv_at hl 1 rfl) ?_
  refine lz_get (G := G) (ci := 1) (v := .int (T 3)) (C := RX1) (T := TX1) (N := 14) hx hb hu_wsX10 (fun _ h9 => h9) hown hK hP 11 rfl rfl 3 (by decide) hw4 rfl rfl dX1_takeFrom_26 ?_
  refine lz_put (G := G) (ci := 1) (C := RX1) (T := TX1) (N := 14) hx hb hu_wsX10 (fun _ h9 => h9) tyX1 tyX1_ok nmX1 hown hK hP hD hS 0 rfl rfl 3 (by decide) hw4 rfl rfl (by decide +kernel) (Nat.le_of_ble_eq_true rfl) dX1_takeFrom_29 (lzDoor G h q (upd (upd (upd (upd S 0 (T 0)) 1 (T 1)) 2 (T 2)) 3 (T 3)) F ++ lzDoor G o q2 T E) rfl (fun H locs hP hD hS => ?_)
  refine lv_aload_n hx hb dX1_takeFrom_32 rfl (lv_at hl 1 rfl) ?_
  refine lz_get (G := G) (ci := 1) (v := .ref (q2 4)) (C := RX1) (T := TX1) (N := 14) hx hb hu_wsX10 (fun _ h9 => h9) hown hK hP 11 rfl rfl 4 (by decide) hw5 rfl rfl dX1_takeFrom_33 ?_
  refine lv_iconst (v := 0) hx hb dX1_takeFrom_36 (by decide) ?_
  refine lv_aload_n hx hb dX1_takeFrom_37 rfl (lv_at hl 0 rfl) ?_
  refine lz_get (G := G) (ci := 1) (v := .ref (q 4)) (C := RX1) (T := TX1) (N := 14) hx hb hu_wsX10 (fun _ h9 => h9) hown hK hP 0 rfl rfl 4 (by decide) hw5 rfl rfl dX1_takeFrom_38 ?_
  refine lv_iconst (v := 0) hx hb dX1_takeFrom_41 (by decide) ?_
  refine lv_bipush (v := 8) hx hb dX1_takeFrom_42 (by decide) ?_
  refine lz_copyi (f := E 4) (g := F 4) hx hb (hml.trans hl.1.symm) hown hw6 hw7 hw8 hw9 hK hP hD hS 12 1 rfl rfl 0 0 8 (by omega) (by omega) (Nat.le_of_ble_eq_true rfl) (Nat.le_of_ble_eq_true rfl) (Nat.le_of_ble_eq_true rfl) (Nat.le_of_ble_eq_true rfl) dX1_takeFrom_44 (lzDoor G h q (upd (upd (upd (upd S 0 (T 0)) 1 (T 1)) 2 (T 2)) 3 (T 3)) (lzF F 4 (va_cpy (E 4) (F 4) 0 0 8)) ++ lzDoor G o q2 T E) rfl (fun H locs hP hD hS => ?_)
  refine lv_aload_n hx hb dX1_takeFrom_47 rfl (lv_at hl 1 rfl) ?_
  refine lz_get (G := G) (ci := 1) (v := .ref (q2 5)) (C := RX1) (T := TX1) (N := 14) hx hb hu_wsX10 (fun _ h9 => h9) hown hK hP 11 rfl rfl 5 (by decide) hw10 rfl rfl dX1_takeFrom_48 ?_
  refine lv_iconst (v := 0) hx hb dX1_takeFrom_51 (by decide) ?_
  refine lv_aload_n hx hb dX1_takeFrom_52 rfl (lv_at hl 0 rfl) ?_
  refine lz_get (G := G) (ci := 1) (v := .ref (q 5)) (C := RX1) (T := TX1) (N := 14) hx hb hu_wsX10 (fun _ h9 => h9) hown hK hP 0 rfl rfl 5 (by decide) hw10 rfl rfl dX1_takeFrom_53 ?_
  refine lv_iconst (v := 0) hx hb dX1_takeFrom_56 (by decide) ?_
  refine lv_bipush (v := 8) hx hb dX1_takeFrom_57 (by decide) ?_
  refine lz_copyi (f := E 5) (g := F 5) hx hb (hml.trans hl.1.symm) hown hw6 hw7 hw8 hw9 hK hP hD hS 13 2 rfl rfl 0 0 8 (by omega) (by omega) (Nat.le_of_ble_eq_true rfl) (Nat.le_of_ble_eq_true rfl) (Nat.le_of_ble_eq_true rfl) (Nat.le_of_ble_eq_true rfl) dX1_takeFrom_59 (lzDoor G h q (upd (upd (upd (upd S 0 (T 0)) 1 (T 1)) 2 (T 2)) 3 (T 3)) (lzF (lzF F 4 (va_cpy (E 4) (F 4) 0 0 8)) 5 (va_cpy (E 5) (F 5) 0 0 8)) ++ lzDoor G o q2 T E) rfl (fun H locs hP hD hS => ?_)
  refine lv_aload_n hx hb dX1_takeFrom_62 rfl (lv_at hl 1 rfl) ?_
  refine lz_get (G := G) (ci := 1) (v := .ref (q2 6)) (C := RX1) (T := TX1) (N := 14) hx hb hu_wsX10 (fun _ h9 => h9) hown hK hP 11 rfl rfl 6 (by decide) hw11 rfl rfl dX1_takeFrom_63 ?_
  refine lv_iconst (v := 0) hx hb dX1_takeFrom_66 (by decide) ?_
  refine lv_aload_n hx hb dX1_takeFrom_67 rfl (lv_at hl 0 rfl) ?_
  refine lz_get (G := G) (ci := 1) (v := .ref (q 6)) (C := RX1) (T := TX1) (N := 14) hx hb hu_wsX10 (fun _ h9 => h9) hown hK hP 0 rfl rfl 6 (by decide) hw11 rfl rfl dX1_takeFrom_68 ?_
  refine lv_iconst (v := 0) hx hb dX1_takeFrom_71 (by decide) ?_
  refine lv_bipush (v := 8) hx hb dX1_takeFrom_72 (by decide) ?_
  refine lz_copyi (f := E 6) (g := F 6) hx hb (hml.trans hl.1.symm) hown hw6 hw7 hw8 hw9 hK hP hD hS 14 3 rfl rfl 0 0 8 (by omega) (by omega) (Nat.le_of_ble_eq_true rfl) (Nat.le_of_ble_eq_true rfl) (Nat.le_of_ble_eq_true rfl) (Nat.le_of_ble_eq_true rfl) dX1_takeFrom_74 (lzDoor G h q (upd (upd (upd (upd S 0 (T 0)) 1 (T 1)) 2 (T 2)) 3 (T 3)) (lzF (lzF (lzF F 4 (va_cpy (E 4) (F 4) 0 0 8)) 5 (va_cpy (E 5) (F 5) 0 0 8)) 6 (va_cpy (E 6) (F 6) 0 0 8)) ++ lzDoor G o q2 T E) rfl (fun H locs hP hD hS => ?_)
  refine lv_aload_n hx hb dX1_takeFrom_77 rfl (lv_at hl 1 rfl) ?_
  refine lz_get (G := G) (ci := 1) (v := .ref (q2 7)) (C := RX1) (T := TX1) (N := 14) hx hb hu_wsX10 (fun _ h9 => h9) hown hK hP 11 rfl rfl 7 (by decide) hw12 rfl rfl dX1_takeFrom_78 ?_
  refine lv_iconst (v := 0) hx hb dX1_takeFrom_81 (by decide) ?_
  refine lv_aload_n hx hb dX1_takeFrom_82 rfl (lv_at hl 0 rfl) ?_
  refine lz_get (G := G) (ci := 1) (v := .ref (q 7)) (C := RX1) (T := TX1) (N := 14) hx hb hu_wsX10 (fun _ h9 => h9) hown hK hP 0 rfl rfl 7 (by decide) hw12 rfl rfl dX1_takeFrom_83 ?_
  refine lv_iconst (v := 0) hx hb dX1_takeFrom_86 (by decide) ?_
  refine lv_bipush (v := 8) hx hb dX1_takeFrom_87 (by decide) ?_
  refine lz_copyi (f := E 7) (g := F 7) hx hb (hml.trans hl.1.symm) hown hw6 hw7 hw8 hw9 hK hP hD hS 15 4 rfl rfl 0 0 8 (by omega) (by omega) (Nat.le_of_ble_eq_true rfl) (Nat.le_of_ble_eq_true rfl) (Nat.le_of_ble_eq_true rfl) (Nat.le_of_ble_eq_true rfl) dX1_takeFrom_89 (lzDoor G h q (upd (upd (upd (upd S 0 (T 0)) 1 (T 1)) 2 (T 2)) 3 (T 3)) (lzF (lzF (lzF (lzF F 4 (va_cpy (E 4) (F 4) 0 0 8)) 5 (va_cpy (E 5) (F 5) 0 0 8)) 6 (va_cpy (E 6) (F 6) 0 0 8)) 7 (va_cpy (E 7) (F 7) 0 0 8)) ++ lzDoor G o q2 T E) rfl (fun H locs hP hD hS => ?_)
  refine lv_aload_n hx hb dX1_takeFrom_92 rfl (lv_at hl 1 rfl) ?_
  refine lz_get (G := G) (ci := 1) (v := .ref (q2 8)) (C := RX1) (T := TX1) (N := 14) hx hb hu_wsX10 (fun _ h9 => h9) hown hK hP 11 rfl rfl 8 (by decide) hw13 rfl rfl dX1_takeFrom_93 ?_
  refine lv_iconst (v := 0) hx hb dX1_takeFrom_96 (by decide) ?_
  refine lv_aload_n hx hb dX1_takeFrom_97 rfl (lv_at hl 0 rfl) ?_
  refine lz_get (G := G) (ci := 1) (v := .ref (q 8)) (C := RX1) (T := TX1) (N := 14) hx hb hu_wsX10 (fun _ h9 => h9) hown hK hP 0 rfl rfl 8 (by decide) hw13 rfl rfl dX1_takeFrom_98 ?_
  refine lv_iconst (v := 0) hx hb dX1_takeFrom_101 (by decide) ?_
  refine lv_bipush (v := 8) hx hb dX1_takeFrom_102 (by decide) ?_
  refine lz_copyi (f := E 8) (g := F 8) hx hb (hml.trans hl.1.symm) hown hw6 hw7 hw8 hw9 hK hP hD hS 16 5 rfl rfl 0 0 8 (by omega) (by omega) (Nat.le_of_ble_eq_true rfl) (Nat.le_of_ble_eq_true rfl) (Nat.le_of_ble_eq_true rfl) (Nat.le_of_ble_eq_true rfl) dX1_takeFrom_104 (lzDoor G h q (upd (upd (upd (upd S 0 (T 0)) 1 (T 1)) 2 (T 2)) 3 (T 3)) (lzF (lzF (lzF (lzF (lzF F 4 (va_cpy (E 4) (F 4) 0 0 8)) 5 (va_cpy (E 5) (F 5) 0 0 8)) 6 (va_cpy (E 6) (F 6) 0 0 8)) 7 (va_cpy (E 7) (F 7) 0 0 8)) 8 (va_cpy (E 8) (F 8) 0 0 8)) ++ lzDoor G o q2 T E) rfl (fun H locs hP hD hS => ?_)
  refine lv_aload_n hx hb dX1_takeFrom_107 rfl (lv_at hl 1 rfl) ?_
  refine lz_get (G := G) (ci := 1) (v := .ref (q2 9)) (C := RX1) (T := TX1) (N := 14) hx hb hu_wsX10 (fun _ h9 => h9) hown hK hP 11 rfl rfl 9 (by decide) hw14 rfl rfl dX1_takeFrom_108 ?_
  refine lv_iconst (v := 0) hx hb dX1_takeFrom_111 (by decide) ?_
  refine lv_aload_n hx hb dX1_takeFrom_112 rfl (lv_at hl 0 rfl) ?_
  refine lz_get (G := G) (ci := 1) (v := .ref (q 9)) (C := RX1) (T := TX1) (N := 14) hx hb hu_wsX10 (fun _ h9 => h9) hown hK hP 0 rfl rfl 9 (by decide) hw14 rfl rfl dX1_takeFrom_113 ?_
  refine lv_iconst (v := 0) hx hb dX1_takeFrom_116 (by decide) ?_
  refine lv_iconst (v := 5) hx hb dX1_takeFrom_117 (by decide) ?_
  refine lz_copyi (f := E 9) (g := F 9) hx hb (hml.trans hl.1.symm) hown hw6 hw7 hw8 hw9 hK hP hD hS 17 6 rfl rfl 0 0 5 (by omega) (by omega) (Nat.le_of_ble_eq_true rfl) (Nat.le_of_ble_eq_true rfl) (Nat.le_of_ble_eq_true rfl) (Nat.le_of_ble_eq_true rfl) dX1_takeFrom_118 (lzDoor G h q (upd (upd (upd (upd S 0 (T 0)) 1 (T 1)) 2 (T 2)) 3 (T 3)) (lzF (lzF (lzF (lzF (lzF (lzF F 4 (va_cpy (E 4) (F 4) 0 0 8)) 5 (va_cpy (E 5) (F 5) 0 0 8)) 6 (va_cpy (E 6) (F 6) 0 0 8)) 7 (va_cpy (E 7) (F 7) 0 0 8)) 8 (va_cpy (E 8) (F 8) 0 0 8)) 9 (va_cpy (E 9) (F 9) 0 0 5)) ++ lzDoor G o q2 T E) rfl (fun H locs hP hD hS => ?_)
  refine lv_aload_n hx hb dX1_takeFrom_121 rfl (lv_at hl 1 rfl) ?_
  refine lz_get (G := G) (ci := 1) (v := .ref (q2 10)) (C := RX1) (T := TX1) (N := 14) hx hb hu_wsX10 (fun _ h9 => h9) hown hK hP 11 rfl rfl 10 (by decide) hw15 rfl rfl dX1_takeFrom_122 ?_
  refine lv_iconst (v := 0) hx hb dX1_takeFrom_125 (by decide) ?_
  refine lv_aload_n hx hb dX1_takeFrom_126 rfl (lv_at hl 0 rfl) ?_
  refine lz_get (G := G) (ci := 1) (v := .ref (q 10)) (C := RX1) (T := TX1) (N := 14) hx hb hu_wsX10 (fun _ h9 => h9) hown hK hP 0 rfl rfl 10 (by decide) hw15 rfl rfl dX1_takeFrom_127 ?_
  refine lv_iconst (v := 0) hx hb dX1_takeFrom_130 (by decide) ?_
  refine lv_iconst (v := 5) hx hb dX1_takeFrom_131 (by decide) ?_
  refine lz_copyi (f := E 10) (g := F 10) hx hb (hml.trans hl.1.symm) hown hw6 hw7 hw8 hw9 hK hP hD hS 18 7 rfl rfl 0 0 5 (by omega) (by omega) (Nat.le_of_ble_eq_true rfl) (Nat.le_of_ble_eq_true rfl) (Nat.le_of_ble_eq_true rfl) (Nat.le_of_ble_eq_true rfl) dX1_takeFrom_132 (lzDoor G h q (upd (upd (upd (upd S 0 (T 0)) 1 (T 1)) 2 (T 2)) 3 (T 3)) (lzF (lzF (lzF (lzF (lzF (lzF (lzF F 4 (va_cpy (E 4) (F 4) 0 0 8)) 5 (va_cpy (E 5) (F 5) 0 0 8)) 6 (va_cpy (E 6) (F 6) 0 0 8)) 7 (va_cpy (E 7) (F 7) 0 0 8)) 8 (va_cpy (E 8) (F 8) 0 0 8)) 9 (va_cpy (E 9) (F 9) 0 0 5)) 10 (va_cpy (E 10) (F 10) 0 0 5)) ++ lzDoor G o q2 T E) rfl (fun H locs hP hD hS => ?_)
  refine lv_aload_n hx hb dX1_takeFrom_135 rfl (lv_at hl 1 rfl) ?_
  refine lz_get (G := G) (ci := 1) (v := .ref (q2 11)) (C := RX1) (T := TX1) (N := 14) hx hb hu_wsX10 (fun _ h9 => h9) hown hK hP 11 rfl rfl 11 (by decide) hw16 rfl rfl dX1_takeFrom_136 ?_
  refine lv_iconst (v := 0) hx hb dX1_takeFrom_139 (by decide) ?_
  refine lv_aload_n hx hb dX1_takeFrom_140 rfl (lv_at hl 0 rfl) ?_
  refine lz_get (G := G) (ci := 1) (v := .ref (q 11)) (C := RX1) (T := TX1) (N := 14) hx hb hu_wsX10 (fun _ h9 => h9) hown hK hP 0 rfl rfl 11 (by decide) hw16 rfl rfl dX1_takeFrom_141 ?_
  refine lv_iconst (v := 0) hx hb dX1_takeFrom_144 (by decide) ?_
  refine lv_iconst (v := 5) hx hb dX1_takeFrom_145 (by decide) ?_
  refine lz_copyi (f := E 11) (g := F 11) hx hb (hml.trans hl.1.symm) hown hw6 hw7 hw8 hw9 hK hP hD hS 19 8 rfl rfl 0 0 5 (by omega) (by omega) (Nat.le_of_ble_eq_true rfl) (Nat.le_of_ble_eq_true rfl) (Nat.le_of_ble_eq_true rfl) (Nat.le_of_ble_eq_true rfl) dX1_takeFrom_146 (lzDoor G h q (upd (upd (upd (upd S 0 (T 0)) 1 (T 1)) 2 (T 2)) 3 (T 3)) (lzF (lzF (lzF (lzF (lzF (lzF (lzF (lzF F 4 (va_cpy (E 4) (F 4) 0 0 8)) 5 (va_cpy (E 5) (F 5) 0 0 8)) 6 (va_cpy (E 6) (F 6) 0 0 8)) 7 (va_cpy (E 7) (F 7) 0 0 8)) 8 (va_cpy (E 8) (F 8) 0 0 8)) 9 (va_cpy (E 9) (F 9) 0 0 5)) 10 (va_cpy (E 10) (F 10) 0 0 5)) 11 (va_cpy (E 11) (F 11) 0 0 5)) ++ lzDoor G o q2 T E) rfl (fun H locs hP hD hS => ?_)
  refine lv_aload_n hx hb dX1_takeFrom_149 rfl (lv_at hl 1 rfl) ?_
  refine lz_get (G := G) (ci := 1) (v := .ref (q2 12)) (C := RX1) (T := TX1) (N := 14) hx hb hu_wsX10 (fun _ h9 => h9) hown hK hP 11 rfl rfl 12 (by decide) hw17 rfl rfl dX1_takeFrom_150 ?_
  refine lv_iconst (v := 0) hx hb dX1_takeFrom_153 (by decide) ?_
  refine lv_aload_n hx hb dX1_takeFrom_154 rfl (lv_at hl 0 rfl) ?_
  refine lz_get (G := G) (ci := 1) (v := .ref (q 12)) (C := RX1) (T := TX1) (N := 14) hx hb hu_wsX10 (fun _ h9 => h9) hown hK hP 0 rfl rfl 12 (by decide) hw17 rfl rfl dX1_takeFrom_155 ?_
  refine lv_iconst (v := 0) hx hb dX1_takeFrom_158 (by decide) ?_
  refine lv_iconst (v := 5) hx hb dX1_takeFrom_159 (by decide) ?_
  refine lz_copyi (f := E 12) (g := F 12) hx hb (hml.trans hl.1.symm) hown hw6 hw7 hw8 hw9 hK hP hD hS 20 9 rfl rfl 0 0 5 (by omega) (by omega) (Nat.le_of_ble_eq_true rfl) (Nat.le_of_ble_eq_true rfl) (Nat.le_of_ble_eq_true rfl) (Nat.le_of_ble_eq_true rfl) dX1_takeFrom_160 (lzDoor G h q (upd (upd (upd (upd S 0 (T 0)) 1 (T 1)) 2 (T 2)) 3 (T 3)) (lzF (lzF (lzF (lzF (lzF (lzF (lzF (lzF (lzF F 4 (va_cpy (E 4) (F 4) 0 0 8)) 5 (va_cpy (E 5) (F 5) 0 0 8)) 6 (va_cpy (E 6) (F 6) 0 0 8)) 7 (va_cpy (E 7) (F 7) 0 0 8)) 8 (va_cpy (E 8) (F 8) 0 0 8)) 9 (va_cpy (E 9) (F 9) 0 0 5)) 10 (va_cpy (E 10) (F 10) 0 0 5)) 11 (va_cpy (E 11) (F 11) 0 0 5)) 12 (va_cpy (E 12) (F 12) 0 0 5)) ++ lzDoor G o q2 T E) rfl (fun H locs hP hD hS => ?_)
  exact rw_vret (S := Unit) (G := G) (Wd := fun _ : Unit => (lzDoor G h q (upd (upd (upd (upd S 0 (T 0)) 1 (T 1)) 2 (T 2)) 3 (T 3)) (lzF (lzF (lzF (lzF (lzF (lzF (lzF (lzF (lzF F 4 (va_cpy (E 4) (F 4) 0 0 8)) 5 (va_cpy (E 5) (F 5) 0 0 8)) 6 (va_cpy (E 6) (F 6) 0 0 8)) 7 (va_cpy (E 7) (F 7) 0 0 8)) 8 (va_cpy (E 8) (F 8) 0 0 8)) 9 (va_cpy (E 9) (F 9) 0 0 5)) 10 (va_cpy (E 10) (F 10) 0 0 5)) 11 (va_cpy (E 11) (F 11) 0 0 5)) 12 (va_cpy (E 12) (F 12) 0 0 5)) ++ lzDoor G o q2 T E)) () hx hb hr hlk dX1_takeFrom_163 hS (hP) (trivial)
set_option maxHeartbeats 4000000 in
set_option maxRecDepth 100000 in
theorem c_X1_addSquare (l : Launch) (G : lzG) (h : Nat) (q : Nat → Nat) (S : Nat → Int32) (F : Nat → Nat → Int32) (kind share : Int32) (N : Nat) (hN : S 2 = nI N) (hN8 : N < 8) : Met l yX1_addSquare wsX1_addSquare ({ frames := 0, cells := 0, slots := 0, locals := 0 }) (va_Pc [.ref h, .int kind, .int share] (rwP G (lzDoor G h q S F))) (va_Qv (S := Unit) (fun _ : Unit => True) (rwB G (fun _ : Unit => lzDoor G h q (upd S 2 (nI (N + 1))) (lzF (lzF F 4 (upd (F 4) N kind)) 5 (upd (F 5) N share)))) (lzA (lzDoor G h q S F))) 0 0 (lzA (lzDoor G h q S F)) := by
  refine rw_start (S := Unit) (cc := cX1_addSquare) (maxL := 3) (ret := none) (by decide) rfl (Nat.le_of_ble_eq_true rfl) ?_
  intro pp ee ss mm bl me cd A hx hb hr hlk hml hts hown hP hK hD hAe hS ls hl
  have hA0 : ∀ zz : Nat, lzA (lzDoor G h q S F) zz → A zz := fun zz h9 => by rw [hAe]; exact h9
  rw [← hAe]
  clear hAe
  have hown : ss.vm.findClass RX1 = some mm.cls := hown
  have hw1 := hts (.fieldLink RX1 18 "LampSquares$Door" "squares" "I") (List.mem_of_getElem? (i := 1) rfl)
  have hw2 := hts (.fieldLink RX1 24 "LampSquares$Door" "kindOf" "[I") (List.mem_of_getElem? (i := 2) rfl)
  have hw3 := hts (.fieldLink RX1 28 "LampSquares$Door" "shareOf" "[I") (List.mem_of_getElem? (i := 3) rfl)
  have hu_wsX10 : ∀ w ∈ wsX10, w.before ([.ref h, .int kind, .int share] : List Value).toArray ss = true := fun w h9 => hts w (List.mem_cons_of_mem _ (List.mem_append_right _ h9))
  have hl : lv_has ls 3 [(0, .ref h), (1, .int kind), (2, .int share)] := hl
  refine lv_aload_n hx hb dX1_addSquare_0 rfl (lv_at hl 0 rfl) ?_
  refine lz_get (G := G) (ci := 1) (v := .int (S 2)) (C := RX1) (T := TX1) (N := 14) hx hb hu_wsX10 (fun _ h9 => h9) hown hK hP 0 rfl rfl 2 (by decide) hw1 rfl rfl dX1_addSquare_1 ?_
  refine lv_bipush (v := 8) hx hb dX1_addSquare_4 (by decide) ?_
  refine lv_icmp_ge (tgt := 39) hx hb dX1_addSquare_6 (by decide) (fun c_6 => ?_) (fun c_6 => ?_)
  · skip
    have c_6' := Int32.not_lt.mpr c_6
    exact absurd (lz_ge (N := 8) rfl (hN ▸ c_6) (by omega) (by omega)) (by omega)
  · skip
    have c_6' := Int32.not_le.mp c_6
    refine lv_aload_n hx hb dX1_addSquare_9 rfl (lv_at hl 0 rfl) ?_
    refine lz_get (G := G) (ci := 1) (v := .ref (q 4)) (C := RX1) (T := TX1) (N := 14) hx hb hu_wsX10 (fun _ h9 => h9) hown hK hP 0 rfl rfl 4 (by decide) hw2 rfl rfl dX1_addSquare_10 ?_
    refine lv_aload_n hx hb dX1_addSquare_13 rfl (lv_at hl 0 rfl) ?_
    refine lz_get (G := G) (ci := 1) (v := .int (S 2)) (C := RX1) (T := TX1) (N := 14) hx hb hu_wsX10 (fun _ h9 => h9) hown hK hP 0 rfl rfl 2 (by decide) hw1 rfl rfl dX1_addSquare_14 ?_
    refine lz_top (y := nI N) (hN) ?_
    refine lv_iload_n hx hb dX1_addSquare_17 rfl (lv_at hl 1 rfl) ?_
    refine lz_iast (f := F 4) hx hb hK hP hD hS 1 rfl N (by omega) (Nat.le_of_ble_eq_true rfl) dX1_addSquare_18 (lzDoor G h q S (lzF F 4 (upd (F 4) N kind))) rfl (fun H locs hP hD hS => ?_)
    refine lv_aload_n hx hb dX1_addSquare_19 rfl (lv_at hl 0 rfl) ?_
    refine lz_get (G := G) (ci := 1) (v := .ref (q 5)) (C := RX1) (T := TX1) (N := 14) hx hb hu_wsX10 (fun _ h9 => h9) hown hK hP 0 rfl rfl 5 (by decide) hw3 rfl rfl dX1_addSquare_20 ?_
    refine lv_aload_n hx hb dX1_addSquare_23 rfl (lv_at hl 0 rfl) ?_
    refine lz_get (G := G) (ci := 1) (v := .int (S 2)) (C := RX1) (T := TX1) (N := 14) hx hb hu_wsX10 (fun _ h9 => h9) hown hK hP 0 rfl rfl 2 (by decide) hw1 rfl rfl dX1_addSquare_24 ?_
    refine lz_top (y := nI N) (hN) ?_
    refine lv_iload_n hx hb dX1_addSquare_27 rfl (lv_at hl 2 rfl) ?_
    refine lz_iast (f := F 5) hx hb hK hP hD hS 2 rfl N (by omega) (Nat.le_of_ble_eq_true rfl) dX1_addSquare_28 (lzDoor G h q S (lzF (lzF F 4 (upd (F 4) N kind)) 5 (upd (F 5) N share))) rfl (fun H locs hP hD hS => ?_)
    refine lv_aload_n hx hb dX1_addSquare_29 rfl (lv_at hl 0 rfl) ?_
    refine lv_dup hx hb dX1_addSquare_30 rfl ?_
    refine lz_get (G := G) (ci := 1) (v := .int (S 2)) (C := RX1) (T := TX1) (N := 14) hx hb hu_wsX10 (fun _ h9 => h9) hown hK hP 0 rfl rfl 2 (by decide) hw1 rfl rfl dX1_addSquare_31 ?_
    refine lv_iconst (v := 1) hx hb dX1_addSquare_34 (by decide) ?_
    refine lv_iadd hx hb dX1_addSquare_35 ?_
    refine lz_top (y := nI (N + 1)) (by rw [hN]; exact nI_1 N) ?_
    refine lz_put (G := G) (ci := 1) (C := RX1) (T := TX1) (N := 14) hx hb hu_wsX10 (fun _ h9 => h9) tyX1 tyX1_ok nmX1 hown hK hP hD hS 0 rfl rfl 2 (by decide) hw1 rfl rfl (by decide +kernel) (Nat.le_of_ble_eq_true rfl) dX1_addSquare_36 (lzDoor G h q (upd S 2 (nI (N + 1))) (lzF (lzF F 4 (upd (F 4) N kind)) 5 (upd (F 5) N share))) rfl (fun H locs hP hD hS => ?_)
    exact rw_vret (S := Unit) (G := G) (Wd := fun _ : Unit => lzDoor G h q (upd S 2 (nI (N + 1))) (lzF (lzF F 4 (upd (F 4) N kind)) 5 (upd (F 5) N share))) () hx hb hr hlk dX1_addSquare_39 hS (hP) (trivial)
set_option maxHeartbeats 4000000 in
set_option maxRecDepth 100000 in
theorem c_X1_addVisitor (l : Launch) (G : lzG) (h : Nat) (q : Nat → Nat) (S : Nat → Int32) (F : Nat → Nat → Int32) (care ear : Int32) (M : Nat) (hM : S 3 = nI M) (hM5 : M < 5) : Met l yX1_addVisitor wsX1_addVisitor ({ frames := 0, cells := 0, slots := 0, locals := 0 }) (va_Pc [.ref h, .int care, .int ear] (rwP G (lzDoor G h q S F))) (va_Qv (S := Unit) (fun _ : Unit => True) (rwB G (fun _ : Unit => lzDoor G h q (upd S 3 (nI (M + 1))) (lzF (lzF F 9 (upd (F 9) M care)) 10 (upd (F 10) M ear)))) (lzA (lzDoor G h q S F))) 0 0 (lzA (lzDoor G h q S F)) := by
  refine rw_start (S := Unit) (cc := cX1_addVisitor) (maxL := 3) (ret := none) (by decide) rfl (Nat.le_of_ble_eq_true rfl) ?_
  intro pp ee ss mm bl me cd A hx hb hr hlk hml hts hown hP hK hD hAe hS ls hl
  have hA0 : ∀ zz : Nat, lzA (lzDoor G h q S F) zz → A zz := fun zz h9 => by rw [hAe]; exact h9
  rw [← hAe]
  clear hAe
  have hown : ss.vm.findClass RX1 = some mm.cls := hown
  have hw1 := hts (.fieldLink RX1 21 "LampSquares$Door" "visitors" "I") (List.mem_of_getElem? (i := 1) rfl)
  have hw2 := hts (.fieldLink RX1 40 "LampSquares$Door" "careOf" "[I") (List.mem_of_getElem? (i := 2) rfl)
  have hw3 := hts (.fieldLink RX1 43 "LampSquares$Door" "earOf" "[I") (List.mem_of_getElem? (i := 3) rfl)
  have hu_wsX10 : ∀ w ∈ wsX10, w.before ([.ref h, .int care, .int ear] : List Value).toArray ss = true := fun w h9 => hts w (List.mem_cons_of_mem _ (List.mem_append_right _ h9))
  have hl : lv_has ls 3 [(0, .ref h), (1, .int care), (2, .int ear)] := hl
  refine lv_aload_n hx hb dX1_addVisitor_0 rfl (lv_at hl 0 rfl) ?_
  refine lz_get (G := G) (ci := 1) (v := .int (S 3)) (C := RX1) (T := TX1) (N := 14) hx hb hu_wsX10 (fun _ h9 => h9) hown hK hP 0 rfl rfl 3 (by decide) hw1 rfl rfl dX1_addVisitor_1 ?_
  refine lv_iconst (v := 5) hx hb dX1_addVisitor_4 (by decide) ?_
  refine lv_icmp_ge (tgt := 38) hx hb dX1_addVisitor_5 (by decide) (fun c_5 => ?_) (fun c_5 => ?_)
  · skip
    have c_5' := Int32.not_lt.mpr c_5
    exact absurd (lz_ge (N := 5) rfl (hM ▸ c_5) (by omega) (by omega)) (by omega)
  · skip
    have c_5' := Int32.not_le.mp c_5
    refine lv_aload_n hx hb dX1_addVisitor_8 rfl (lv_at hl 0 rfl) ?_
    refine lz_get (G := G) (ci := 1) (v := .ref (q 9)) (C := RX1) (T := TX1) (N := 14) hx hb hu_wsX10 (fun _ h9 => h9) hown hK hP 0 rfl rfl 9 (by decide) hw2 rfl rfl dX1_addVisitor_9 ?_
    refine lv_aload_n hx hb dX1_addVisitor_12 rfl (lv_at hl 0 rfl) ?_
    refine lz_get (G := G) (ci := 1) (v := .int (S 3)) (C := RX1) (T := TX1) (N := 14) hx hb hu_wsX10 (fun _ h9 => h9) hown hK hP 0 rfl rfl 3 (by decide) hw1 rfl rfl dX1_addVisitor_13 ?_
    refine lz_top (y := nI M) (hM) ?_
    refine lv_iload_n hx hb dX1_addVisitor_16 rfl (lv_at hl 1 rfl) ?_
    refine lz_iast (f := F 9) hx hb hK hP hD hS 6 rfl M (by omega) (Nat.le_of_ble_eq_true rfl) dX1_addVisitor_17 (lzDoor G h q S (lzF F 9 (upd (F 9) M care))) rfl (fun H locs hP hD hS => ?_)
    refine lv_aload_n hx hb dX1_addVisitor_18 rfl (lv_at hl 0 rfl) ?_
    refine lz_get (G := G) (ci := 1) (v := .ref (q 10)) (C := RX1) (T := TX1) (N := 14) hx hb hu_wsX10 (fun _ h9 => h9) hown hK hP 0 rfl rfl 10 (by decide) hw3 rfl rfl dX1_addVisitor_19 ?_
    refine lv_aload_n hx hb dX1_addVisitor_22 rfl (lv_at hl 0 rfl) ?_
    refine lz_get (G := G) (ci := 1) (v := .int (S 3)) (C := RX1) (T := TX1) (N := 14) hx hb hu_wsX10 (fun _ h9 => h9) hown hK hP 0 rfl rfl 3 (by decide) hw1 rfl rfl dX1_addVisitor_23 ?_
    refine lz_top (y := nI M) (hM) ?_
    refine lv_iload_n hx hb dX1_addVisitor_26 rfl (lv_at hl 2 rfl) ?_
    refine lz_iast (f := F 10) hx hb hK hP hD hS 7 rfl M (by omega) (Nat.le_of_ble_eq_true rfl) dX1_addVisitor_27 (lzDoor G h q S (lzF (lzF F 9 (upd (F 9) M care)) 10 (upd (F 10) M ear))) rfl (fun H locs hP hD hS => ?_)
    refine lv_aload_n hx hb dX1_addVisitor_28 rfl (lv_at hl 0 rfl) ?_
    refine lv_dup hx hb dX1_addVisitor_29 rfl ?_
    refine lz_get (G := G) (ci := 1) (v := .int (S 3)) (C := RX1) (T := TX1) (N := 14) hx hb hu_wsX10 (fun _ h9 => h9) hown hK hP 0 rfl rfl 3 (by decide) hw1 rfl rfl dX1_addVisitor_30 ?_
    refine lv_iconst (v := 1) hx hb dX1_addVisitor_33 (by decide) ?_
    refine lv_iadd hx hb dX1_addVisitor_34 ?_
    refine lz_top (y := nI (M + 1)) (by rw [hM]; exact nI_1 M) ?_
    refine lz_put (G := G) (ci := 1) (C := RX1) (T := TX1) (N := 14) hx hb hu_wsX10 (fun _ h9 => h9) tyX1 tyX1_ok nmX1 hown hK hP hD hS 0 rfl rfl 3 (by decide) hw1 rfl rfl (by decide +kernel) (Nat.le_of_ble_eq_true rfl) dX1_addVisitor_35 (lzDoor G h q (upd S 3 (nI (M + 1))) (lzF (lzF F 9 (upd (F 9) M care)) 10 (upd (F 10) M ear))) rfl (fun H locs hP hD hS => ?_)
    exact rw_vret (S := Unit) (G := G) (Wd := fun _ : Unit => lzDoor G h q (upd S 3 (nI (M + 1))) (lzF (lzF F 9 (upd (F 9) M care)) 10 (upd (F 10) M ear))) () hx hb hr hlk dX1_addVisitor_38 hS (hP) (trivial)
set_option maxHeartbeats 4000000 in
set_option maxRecDepth 100000 in
theorem c_X1_vote (l : Launch) (G : lzG) (h : Nat) (q : Nat → Nat) (S : Nat → Int32) (F : Nat → Nat → Int32) (set clicked : Int32) (N : Nat) (hN : S 2 = nI N) (hN8 : N ≤ 8) : Met l yX1_vote wsX1_vote ({ frames := 1, cells := 0, slots := 0, locals := 21 }) (va_Pc [.ref h, .int set, .int clicked] (rwP G (lzDoor G h q S F))) (va_Qv (S := Unit) (fun _ : Unit => True) (rwB G (fun _ : Unit => lzDoor G h q S (lzF (lzF F 6 (votS (F 6) (fun z => hasI set z && hasI clicked z) N)) 7 (votS (F 7) (fun z => hasI set z && !hasI clicked z) N)))) (lzA (lzDoor G h q S F))) 0 0 (lzA (lzDoor G h q S F)) := by
  refine rw_start (S := Unit) (cc := cX1_vote) (maxL := 5) (ret := none) (by decide) rfl (Nat.le_of_ble_eq_true rfl) ?_
  intro pp ee ss mm bl me cd A hx hb hr hlk hml hts hown hP hK hD hAe hS ls hl
  have hA0 : ∀ zz : Nat, lzA (lzDoor G h q S F) zz → A zz := fun zz h9 => by rw [hAe]; exact h9
  rw [← hAe]
  clear hAe
  have hown : ss.vm.findClass RX1 = some mm.cls := hown
  have hw1 := hts (.fieldLink RX1 18 "LampSquares$Door" "squares" "I") (List.mem_of_getElem? (i := 1) rfl)
  have hw2 := hts (.fieldLink RX1 31 "LampSquares$Door" "votesFor" "[I") (List.mem_of_getElem? (i := 2) rfl)
  have hw3 := hts (.fieldLink RX1 34 "LampSquares$Door" "votesAgainst" "[I") (List.mem_of_getElem? (i := 3) rfl)
  have hw4 := hts (.methodLink RX1 114 Lib.Math.min.name) (List.mem_of_getElem? (i := 4) rfl)
  have hw5 := hts (.static Lib.Math.min.name) (List.mem_of_getElem? (i := 5) rfl)
  have hw6 := hts (.initialized "java/lang/Math") (List.mem_of_getElem? (i := 6) rfl)
  have hw7 := hts (.code Lib.Math.min.name Lib.Math.min.code 2 (some .int)) (List.mem_of_getElem? (i := 7) rfl)
  have hu_wsX10 : ∀ w ∈ wsX10, w.before ([.ref h, .int set, .int clicked] : List Value).toArray ss = true := fun w h9 => hts w (List.mem_cons_of_mem _ (List.mem_append_right _ h9))
  have hl : lv_has ls 5 [(0, .ref h), (1, .int set), (2, .int clicked)] := hl
  refine lv_iconst (v := 0) hx hb dX1_vote_0 (by decide) ?_
  refine lv_istore_n (lv' := [(3, .int 0), (0, .ref h), (1, .int set), (2, .int clicked)]) hx hb dX1_vote_1 rfl hl (by decide) rfl (fun ls hl => ?_)
  have J_2 : ∀ (n9 : Nat), ∀ (k : Nat), (k ≤ N) → N - k < n9 → ∀ (H : Heap) (locs : List Loc), va_P G.1 lzC (lzDoor G h q S (lzF (lzF F 6 (votS (F 6) (fun z => hasI set z && hasI clicked z) k)) 7 (votS (F 7) (fun z => hasI set z && !hasI clicked z) k))) H → va_D A (lzDoor G h q S (lzF (lzF F 6 (votS (F 6) (fun z => hasI set z && hasI clicked z) k)) 7 (votS (F 7) (fun z => hasI set z && !hasI clicked z) k))) → va_S A ss.heap H locs → ∀ ls : Array Slot, lv_has ls 5 [(3, .int (nI k)), (0, .ref h), (1, .int set), (2, .int clicked)] → W pp l ee ({ frames := 1, cells := 0, slots := 0, locals := 21 }) ss mm ([.ref h, .int set, .int clicked] : List Value).toArray bl me cd H locs 0 0 (MQ bl (va_Qv (S := Unit) (fun _ : Unit => True) (rwB G (fun _ : Unit => lzDoor G h q S (lzF (lzF F 6 (votS (F 6) (fun z => hasI set z && hasI clicked z) N)) 7 (votS (F 7) (fun z => hasI set z && !hasI clicked z) N)))) A) ([.ref h, .int set, .int clicked] : List Value).toArray ss 0 0 A) (F0 mm 2 ls []) := by
    intro n9
    induction n9 with
    | zero => intro k hk hn; exact absurd hn (Nat.not_lt_zero _)
    | succ n9 ih_2 =>
      intro k hk hn_2 H locs hP hD hS ls hl
      refine lv_iload_n hx hb dX1_vote_2 rfl (lv_at hl 0 rfl) ?_
      refine lv_aload_n hx hb dX1_vote_3 rfl (lv_at hl 1 rfl) ?_
      refine lz_get (G := G) (ci := 1) (v := .int (S 2)) (C := RX1) (T := TX1) (N := 14) hx hb hu_wsX10 (fun _ h9 => h9) hown hK hP 0 rfl rfl 2 (by decide) hw1 rfl rfl dX1_vote_4 ?_
      refine lv_icmp_ge (tgt := 62) hx hb dX1_vote_7 (by decide) (fun c_7 => ?_) (fun c_7 => ?_)
      · skip
        have c_7' := Int32.not_lt.mpr c_7
        have hk2 : N ≤ k := lz_ge hN c_7 (by omega) (by omega)
        have hk3 : k = N := by omega
        exact rw_vret (S := Unit) (G := G) (Wd := fun _ : Unit => lzDoor G h q S (lzF (lzF F 6 (votS (F 6) (fun z => hasI set z && hasI clicked z) N)) 7 (votS (F 7) (fun z => hasI set z && !hasI clicked z) N))) () hx hb hr hlk dX1_vote_62 hS (by rw [hk3] at hP; exact hP) (trivial)
      · skip
        have c_7' := Int32.not_le.mp c_7
        have hk2 : k < N := lz_lt hN c_7 (by omega) (by omega)
        refine lv_iload_n hx hb dX1_vote_10 rfl (lv_at hl 2 rfl) ?_
        refine lv_iload_n hx hb dX1_vote_11 rfl (lv_at hl 0 rfl) ?_
        refine lv_ishr hx hb dX1_vote_12 ?_
        refine lv_iconst (v := 1) hx hb dX1_vote_13 (by decide) ?_
        refine lv_iand hx hb dX1_vote_14 ?_
        refine lv_iconst (v := 1) hx hb dX1_vote_15 (by decide) ?_
        refine lv_icmp_ne (tgt := 56) hx hb dX1_vote_16 (by decide) (fun c_16 => ?_) (fun c_16 => ?_)
        · skip
          refine lv_iinc (v := nI (k + 1)) (lv' := [(3, .int (nI (k + 1))), (0, .ref h), (1, .int set), (2, .int clicked)]) hx hb dX1_vote_56 hl (k := 0) rfl (nI_1 _) (by decide) rfl (fun ls hl => ?_)
          refine lv_goto (tgt := 2) hx hb dX1_vote_59 (by decide) ?_
          have hE_1 : votS (F 6) (fun z => hasI set z && hasI clicked z) k = votS (F 6) (fun z => hasI set z && hasI clicked z) (k + 1) := by first | exact votS_t (by simp [hasI, c_7, c_7', c_16]) | exact votS_f (by simp [hasI, c_7, c_7', c_16])
          have hE_2 : votS (F 7) (fun z => hasI set z && !hasI clicked z) k = votS (F 7) (fun z => hasI set z && !hasI clicked z) (k + 1) := by first | exact votS_t (by simp [hasI, c_7, c_7', c_16]) | exact votS_f (by simp [hasI, c_7, c_7', c_16])
          replace hP : va_P G.1 lzC (lzDoor G h q S (lzF (lzF F 6 (votS (F 6) (fun z => hasI set z && hasI clicked z) (k + 1))) 7 (votS (F 7) (fun z => hasI set z && !hasI clicked z) (k + 1)))) H := by rw [← hE_1, ← hE_2]; exact hP
          replace hD : va_D A (lzDoor G h q S (lzF (lzF F 6 (votS (F 6) (fun z => hasI set z && hasI clicked z) (k + 1))) 7 (votS (F 7) (fun z => hasI set z && !hasI clicked z) (k + 1)))) := by rw [← hE_1, ← hE_2]; exact hD
          exact ih_2 (k + 1) (by omega) (by omega) _ _ hP hD hS _ (lv_sub hl [0, 1, 2, 3] rfl)
        · skip
          refine lv_iload_n hx hb dX1_vote_19 rfl (lv_at hl 3 rfl) ?_
          refine lv_iload_n hx hb dX1_vote_20 rfl (lv_at hl 0 rfl) ?_
          refine lv_ishr hx hb dX1_vote_21 ?_
          refine lv_iconst (v := 1) hx hb dX1_vote_22 (by decide) ?_
          refine lv_iand hx hb dX1_vote_23 ?_
          refine lv_iconst (v := 1) hx hb dX1_vote_24 (by decide) ?_
          refine lv_icmp_ne (tgt := 35) hx hb dX1_vote_25 (by decide) (fun c_25 => ?_) (fun c_25 => ?_)
          · skip
            refine lv_aload_n hx hb dX1_vote_35 rfl (lv_at hl 1 rfl) ?_
            refine lz_get (G := G) (ci := 1) (v := .ref (q 7)) (C := RX1) (T := TX1) (N := 14) hx hb hu_wsX10 (fun _ h9 => h9) hown hK hP 0 rfl rfl 7 (by decide) hw3 rfl rfl dX1_vote_36 ?_
            refine lv_astore (lv' := [(4, .ref (q 7)), (3, .int (nI k)), (0, .ref h), (1, .int set), (2, .int clicked)]) hx hb dX1_vote_39 hl (by decide) rfl (fun ls hl => ?_)
            refine lv_aload hx hb dX1_vote_41 (lv_at hl 0 rfl) ?_
            refine lv_iload_n hx hb dX1_vote_43 rfl (lv_at hl 1 rfl) ?_
            refine lv_aload hx hb dX1_vote_44 (lv_at hl 0 rfl) ?_
            refine lv_iload_n hx hb dX1_vote_46 rfl (lv_at hl 1 rfl) ?_
            refine lz_iald (f := votS (F 7) (fun z => hasI set z && !hasI clicked z) k) hx hb hK hP 4 rfl k (by omega) (Nat.le_of_ble_eq_true rfl) dX1_vote_47 ?_
            refine lv_iconst (v := 1) hx hb dX1_vote_48 (by decide) ?_
            refine lv_iadd hx hb dX1_vote_49 ?_
            refine lv_bipush (v := 99) hx hb dX1_vote_50 (by decide) ?_
            refine va_mmin hx hb (hml.trans hl.1.symm) hown hw4 hw5 hw6 hw7 (Nat.le_of_ble_eq_true rfl) (Nat.le_of_ble_eq_true rfl) (Nat.zero_le _) (Nat.zero_le _) dX1_vote_52 ?_
            refine lz_iast (f := votS (F 7) (fun z => hasI set z && !hasI clicked z) k) hx hb hK hP hD hS 4 rfl k (by omega) (Nat.le_of_ble_eq_true rfl) dX1_vote_55 (lzDoor G h q S (lzF (lzF F 6 (votS (F 6) (fun z => hasI set z && hasI clicked z) k)) 7 (upd (votS (F 7) (fun z => hasI set z && !hasI clicked z) k) k (if 99 < ((votS (F 7) (fun z => hasI set z && !hasI clicked z) k) k) + 1 then 99 else ((votS (F 7) (fun z => hasI set z && !hasI clicked z) k) k) + 1)))) rfl (fun H locs hP hD hS => ?_)
            refine lv_iinc (v := nI (k + 1)) (lv' := [(3, .int (nI (k + 1))), (4, .ref (q 7)), (0, .ref h), (1, .int set), (2, .int clicked)]) hx hb dX1_vote_56 hl (k := 1) rfl (nI_1 _) (by decide) rfl (fun ls hl => ?_)
            refine lv_goto (tgt := 2) hx hb dX1_vote_59 (by decide) ?_
            have hE_3 : votS (F 6) (fun z => hasI set z && hasI clicked z) k = votS (F 6) (fun z => hasI set z && hasI clicked z) (k + 1) := by first | exact votS_t (by simp [hasI, c_7, c_7', c_16, c_25]) | exact votS_f (by simp [hasI, c_7, c_7', c_16, c_25])
            have hE_4 : upd (votS (F 7) (fun z => hasI set z && !hasI clicked z) k) k (if 99 < ((votS (F 7) (fun z => hasI set z && !hasI clicked z) k) k) + 1 then 99 else ((votS (F 7) (fun z => hasI set z && !hasI clicked z) k) k) + 1) = votS (F 7) (fun z => hasI set z && !hasI clicked z) (k + 1) := by first | exact votS_t (by simp [hasI, c_7, c_7', c_16, c_25]) | exact votS_f (by simp [hasI, c_7, c_7', c_16, c_25])
            replace hP : va_P G.1 lzC (lzDoor G h q S (lzF (lzF F 6 (votS (F 6) (fun z => hasI set z && hasI clicked z) (k + 1))) 7 (votS (F 7) (fun z => hasI set z && !hasI clicked z) (k + 1)))) H := by rw [← hE_3, ← hE_4]; exact hP
            replace hD : va_D A (lzDoor G h q S (lzF (lzF F 6 (votS (F 6) (fun z => hasI set z && hasI clicked z) (k + 1))) 7 (votS (F 7) (fun z => hasI set z && !hasI clicked z) (k + 1)))) := by rw [← hE_3, ← hE_4]; exact hD
            exact ih_2 (k + 1) (by omega) (by omega) _ _ hP hD hS _ (lv_sub hl [0, 2, 3, 4] rfl)
          · skip
            refine lv_aload_n hx hb dX1_vote_28 rfl (lv_at hl 1 rfl) ?_
            refine lz_get (G := G) (ci := 1) (v := .ref (q 6)) (C := RX1) (T := TX1) (N := 14) hx hb hu_wsX10 (fun _ h9 => h9) hown hK hP 0 rfl rfl 6 (by decide) hw2 rfl rfl dX1_vote_29 ?_
            refine lv_goto (tgt := 39) hx hb dX1_vote_32 (by decide) ?_
            refine lv_astore (lv' := [(4, .ref (q 6)), (3, .int (nI k)), (0, .ref h), (1, .int set), (2, .int clicked)]) hx hb dX1_vote_39 hl (by decide) rfl (fun ls hl => ?_)
            refine lv_aload hx hb dX1_vote_41 (lv_at hl 0 rfl) ?_
            refine lv_iload_n hx hb dX1_vote_43 rfl (lv_at hl 1 rfl) ?_
            refine lv_aload hx hb dX1_vote_44 (lv_at hl 0 rfl) ?_
            refine lv_iload_n hx hb dX1_vote_46 rfl (lv_at hl 1 rfl) ?_
            refine lz_iald (f := votS (F 6) (fun z => hasI set z && hasI clicked z) k) hx hb hK hP 3 rfl k (by omega) (Nat.le_of_ble_eq_true rfl) dX1_vote_47 ?_
            refine lv_iconst (v := 1) hx hb dX1_vote_48 (by decide) ?_
            refine lv_iadd hx hb dX1_vote_49 ?_
            refine lv_bipush (v := 99) hx hb dX1_vote_50 (by decide) ?_
            refine va_mmin hx hb (hml.trans hl.1.symm) hown hw4 hw5 hw6 hw7 (Nat.le_of_ble_eq_true rfl) (Nat.le_of_ble_eq_true rfl) (Nat.zero_le _) (Nat.zero_le _) dX1_vote_52 ?_
            refine lz_iast (f := votS (F 6) (fun z => hasI set z && hasI clicked z) k) hx hb hK hP hD hS 3 rfl k (by omega) (Nat.le_of_ble_eq_true rfl) dX1_vote_55 (lzDoor G h q S (lzF (lzF F 7 (votS (F 7) (fun z => hasI set z && !hasI clicked z) k)) 6 (upd (votS (F 6) (fun z => hasI set z && hasI clicked z) k) k (if 99 < ((votS (F 6) (fun z => hasI set z && hasI clicked z) k) k) + 1 then 99 else ((votS (F 6) (fun z => hasI set z && hasI clicked z) k) k) + 1)))) rfl (fun H locs hP hD hS => ?_)
            refine lv_iinc (v := nI (k + 1)) (lv' := [(3, .int (nI (k + 1))), (4, .ref (q 6)), (0, .ref h), (1, .int set), (2, .int clicked)]) hx hb dX1_vote_56 hl (k := 1) rfl (nI_1 _) (by decide) rfl (fun ls hl => ?_)
            refine lv_goto (tgt := 2) hx hb dX1_vote_59 (by decide) ?_
            have hE_5 : upd (votS (F 6) (fun z => hasI set z && hasI clicked z) k) k (if 99 < ((votS (F 6) (fun z => hasI set z && hasI clicked z) k) k) + 1 then 99 else ((votS (F 6) (fun z => hasI set z && hasI clicked z) k) k) + 1) = votS (F 6) (fun z => hasI set z && hasI clicked z) (k + 1) := by first | exact votS_t (by simp [hasI, c_7, c_7', c_16, c_25]) | exact votS_f (by simp [hasI, c_7, c_7', c_16, c_25])
            have hE_6 : votS (F 7) (fun z => hasI set z && !hasI clicked z) k = votS (F 7) (fun z => hasI set z && !hasI clicked z) (k + 1) := by first | exact votS_t (by simp [hasI, c_7, c_7', c_16, c_25]) | exact votS_f (by simp [hasI, c_7, c_7', c_16, c_25])
            replace hP : va_P G.1 lzC (lzDoor G h q S (lzF (lzF F 6 (votS (F 6) (fun z => hasI set z && hasI clicked z) (k + 1))) 7 (votS (F 7) (fun z => hasI set z && !hasI clicked z) (k + 1)))) H := by rw [← hE_5, ← hE_6]; exact hP
            replace hD : va_D A (lzDoor G h q S (lzF (lzF F 6 (votS (F 6) (fun z => hasI set z && hasI clicked z) (k + 1))) 7 (votS (F 7) (fun z => hasI set z && !hasI clicked z) (k + 1)))) := by rw [← hE_5, ← hE_6]; exact hD
            exact ih_2 (k + 1) (by omega) (by omega) _ _ hP hD hS _ (lv_sub hl [0, 2, 3, 4] rfl)
  have hE_7 : F 6 = votS (F 6) (fun z => hasI set z && hasI clicked z) 0 := (votS_0 _ _).symm
  have hE_8 : F 7 = votS (F 7) (fun z => hasI set z && !hasI clicked z) 0 := (votS_0 _ _).symm
  replace hP : va_P G.1 lzC (lzDoor G h q S (lzF (lzF F 6 (votS (F 6) (fun z => hasI set z && hasI clicked z) 0)) 7 (votS (F 7) (fun z => hasI set z && !hasI clicked z) 0))) ss.heap := by rw [← hE_7, ← hE_8]; exact hP
  replace hD : va_D A (lzDoor G h q S (lzF (lzF F 6 (votS (F 6) (fun z => hasI set z && hasI clicked z) 0)) 7 (votS (F 7) (fun z => hasI set z && !hasI clicked z) 0))) := by rw [← hE_7, ← hE_8]; exact hD
  exact J_2 _ 0 (by omega) (Nat.lt_succ_self _) _ _ hP hD hS _ (lv_sub hl [0, 1, 2, 3] rfl)
set_option maxHeartbeats 4000000 in
set_option maxRecDepth 100000 in
theorem c_X1_noteWrong (l : Launch) (G : lzG) (h : Nat) (q : Nat → Nat) (S : Nat → Int32) (F : Nat → Nat → Int32) (N M : Nat) (hN : S 2 = nI N) (hN8 : N ≤ 8) (hM : S 3 = nI M) (hM5 : M ≤ 5) : Met l yX1_noteWrong wsX1_noteWrong ({ frames := 4, cells := 0, slots := 0, locals := 90 }) (va_Pc [.ref h] (rwP G (lzDoor G h q S F))) (va_Qv (S := Unit) (fun _ : Unit => True) (rwB G (fun _ : Unit => lzDoor G h q S (lzF F 13 (fa_fill (fun v => wrbD S F v N) (F 13) M)))) (lzA (lzDoor G h q S F))) 0 0 (lzA (lzDoor G h q S F)) := by
  refine rw_start (S := Unit) (cc := cX1_noteWrong) (maxL := 2) (ret := none) (by decide) rfl (Nat.le_of_ble_eq_true rfl) ?_
  intro pp ee ss mm bl me cd A hx hb hr hlk hml hts hown hP hK hD hAe hS ls hl
  have hA0 : ∀ zz : Nat, lzA (lzDoor G h q S F) zz → A zz := fun zz h9 => by rw [hAe]; exact h9
  rw [← hAe]
  clear hAe
  have hown : ss.vm.findClass RX1 = some mm.cls := hown
  have hw1 := hts (.fieldLink RX1 21 "LampSquares$Door" "visitors" "I") (List.mem_of_getElem? (i := 1) rfl)
  have hw2 := hts (.fieldLink RX1 52 "LampSquares$Door" "noted" "[I") (List.mem_of_getElem? (i := 2) rfl)
  have hu_wsX10 : ∀ w ∈ wsX10, w.before ([.ref h] : List Value).toArray ss = true := fun w h9 => hts w (List.mem_cons_of_mem _ (List.mem_append_right _ h9))
  have hl : lv_has ls 2 [(0, .ref h)] := hl
  refine lv_iconst (v := 0) hx hb dX1_noteWrong_0 (by decide) ?_
  refine lv_istore_n (lv' := [(1, .int 0), (0, .ref h)]) hx hb dX1_noteWrong_1 rfl hl (by decide) rfl (fun ls hl => ?_)
  have J_2 : ∀ (n9 : Nat), ∀ (k : Nat), (k ≤ M) → M - k < n9 → ∀ (H : Heap) (locs : List Loc), va_P G.1 lzC (lzDoor G h q S (lzF F 13 (fa_fill (fun v => wrbD S F v N) (F 13) k))) H → va_D A (lzDoor G h q S (lzF F 13 (fa_fill (fun v => wrbD S F v N) (F 13) k))) → va_S A ss.heap H locs → ∀ ls : Array Slot, lv_has ls 2 [(1, .int (nI k)), (0, .ref h)] → W pp l ee ({ frames := 4, cells := 0, slots := 0, locals := 90 }) ss mm ([.ref h] : List Value).toArray bl me cd H locs 0 0 (MQ bl (va_Qv (S := Unit) (fun _ : Unit => True) (rwB G (fun _ : Unit => lzDoor G h q S (lzF F 13 (fa_fill (fun v => wrbD S F v N) (F 13) M)))) A) ([.ref h] : List Value).toArray ss 0 0 A) (F0 mm 2 ls []) := by
    intro n9
    induction n9 with
    | zero => intro k hk hn; exact absurd hn (Nat.not_lt_zero _)
    | succ n9 ih_2 =>
      intro k hk hn_2 H locs hP hD hS ls hl
      refine lv_iload_n hx hb dX1_noteWrong_2 rfl (lv_at hl 0 rfl) ?_
      refine lv_aload_n hx hb dX1_noteWrong_3 rfl (lv_at hl 1 rfl) ?_
      refine lz_get (G := G) (ci := 1) (v := .int (S 3)) (C := RX1) (T := TX1) (N := 14) hx hb hu_wsX10 (fun _ h9 => h9) hown hK hP 0 rfl rfl 3 (by decide) hw1 rfl rfl dX1_noteWrong_4 ?_
      refine lv_icmp_ge (tgt := 27) hx hb dX1_noteWrong_7 (by decide) (fun c_7 => ?_) (fun c_7 => ?_)
      · skip
        have c_7' := Int32.not_lt.mpr c_7
        have hk2 : M ≤ k := lz_ge hM c_7 (by omega) (by omega)
        have hk3 : k = M := by omega
        exact rw_vret (S := Unit) (G := G) (Wd := fun _ : Unit => lzDoor G h q S (lzF F 13 (fa_fill (fun v => wrbD S F v N) (F 13) M))) () hx hb hr hlk dX1_noteWrong_27 hS (by rw [hk3] at hP; exact hP) (trivial)
      · skip
        have c_7' := Int32.not_le.mp c_7
        have hk2 : k < M := lz_lt hM c_7 (by omega) (by omega)
        refine lv_aload_n hx hb dX1_noteWrong_10 rfl (lv_at hl 1 rfl) ?_
        refine lz_get (G := G) (ci := 1) (v := .ref (q 13)) (C := RX1) (T := TX1) (N := 14) hx hb hu_wsX10 (fun _ h9 => h9) hown hK hP 0 rfl rfl 13 (by decide) hw2 rfl rfl dX1_noteWrong_11 ?_
        refine lv_iload_n hx hb dX1_noteWrong_14 rfl (lv_at hl 0 rfl) ?_
        refine lv_aload_n hx hb dX1_noteWrong_15 rfl (lv_at hl 1 rfl) ?_
        refine lv_iload_n hx hb dX1_noteWrong_16 rfl (lv_at hl 0 rfl) ?_
        refine ro_calli (va_runV (As := [.int (nI k)]) (rest := [.int (nI k), .ref (q 13)]) ⟨hx, hb, hml, hown, hts⟩ (c_X1_wrongBits l G h q S (lzF F 13 (fa_fill (fun v => wrbD S F v N) (F 13) k)) k N (by omega) (hN) (hN8)) (cwV 1 hts gX1_noteWrong_X1_wrongBits rfl rfl rfl (by decide +kernel) ⟨Nat.le_of_ble_eq_true rfl, Nat.le_of_ble_eq_true rfl⟩) (ro_preV hK hP hP (ci := 1) (q0 := 0) rfl rfl) rfl rfl hl.1 rfl (lv_room (Nat.le_of_ble_eq_true rfl)) dX1_noteWrong_17 ⟨Nat.zero_le _, Nat.zero_le _⟩) (fun r_1 hr_1 => ?_)
        refine lz_top (y := wrbD S (lzF F 13 (fa_fill (fun v => wrbD S F v N) (F 13) k)) k N) hr_1 ?_
        refine lz_top (y := wrbD S F k N) (rfl) ?_
        refine lz_iast (f := fa_fill (fun v => wrbD S F v N) (F 13) k) hx hb hK hP hD hS 10 rfl k (by omega) (Nat.le_of_ble_eq_true rfl) dX1_noteWrong_20 (lzDoor G h q S (lzF F 13 (upd (fa_fill (fun v => wrbD S F v N) (F 13) k) k (wrbD S F k N)))) rfl (fun H locs hP hD hS => ?_)
        refine lv_iinc (v := nI (k + 1)) (lv' := [(1, .int (nI (k + 1))), (0, .ref h)]) hx hb dX1_noteWrong_21 hl (k := 0) rfl (nI_1 _) (by decide) rfl (fun ls hl => ?_)
        refine lv_goto (tgt := 2) hx hb dX1_noteWrong_24 (by decide) ?_
        have hE_2 : upd (fa_fill (fun v => wrbD S F v N) (F 13) k) k (wrbD S F k N) = fa_fill (fun v => wrbD S F v N) (F 13) (k + 1) := fa_fill_succ (fun v => wrbD S F v N) (F 13) k
        replace hP : va_P G.1 lzC (lzDoor G h q S (lzF F 13 (fa_fill (fun v => wrbD S F v N) (F 13) (k + 1)))) H := by rw [← hE_2]; exact hP
        replace hD : va_D A (lzDoor G h q S (lzF F 13 (fa_fill (fun v => wrbD S F v N) (F 13) (k + 1)))) := by rw [← hE_2]; exact hD
        exact ih_2 (k + 1) (by omega) (by omega) _ _ hP hD hS _ (lv_sub hl [0, 1] rfl)
  have hE_3 : F 13 = fa_fill (fun v => wrbD S F v N) (F 13) 0 := (fa_fill_0 _ _).symm
  replace hP : va_P G.1 lzC (lzDoor G h q S (lzF F 13 (fa_fill (fun v => wrbD S F v N) (F 13) 0))) ss.heap := by rw [← hE_3]; exact hP
  replace hD : va_D A (lzDoor G h q S (lzF F 13 (fa_fill (fun v => wrbD S F v N) (F 13) 0))) := by rw [← hE_3]; exact hD
  exact J_2 _ 0 (by omega) (Nat.lt_succ_self _) _ _ hP hD hS _ (lv_sub hl [0, 1] rfl)
set_option maxHeartbeats 4000000 in
set_option maxRecDepth 100000 in
theorem c_X1_guestBits (l : Launch) (G : lzG) (h : Nat) (q : Nat → Nat) (S : Nat → Int32) (F : Nat → Nat → Int32) (set : Int32) (N M : Nat) (hN : S 2 = nI N) (hN8 : N ≤ 8) (hM : S 3 = nI M) (hM5 : M ≤ 5) : Met l yX1_guestBits wsX1_guestBits ({ frames := 5, cells := 0, slots := 0, locals := 111 }) (va_Pc [.ref h, .int set] (rwP G (lzDoor G h q S F))) (va_Qi (S := Unit) (fun (r : Int32) (_ : Unit) => r = gstD S F set N M) (rwB G (fun _ : Unit => lzDoor G h q S (lzF F 13 (fa_fill (fun v => wrbD S F v N) (F 13) M)))) (lzA (lzDoor G h q S F))) 0 0 (lzA (lzDoor G h q S F)) := by
  refine rw_start (S := Unit) (cc := cX1_guestBits) (maxL := 2) (ret := (some .int)) (by decide) rfl (Nat.le_of_ble_eq_true rfl) ?_
  intro pp ee ss mm bl me cd A hx hb hr hlk hml hts hown hP hK hD hAe hS ls hl
  have hA0 : ∀ zz : Nat, lzA (lzDoor G h q S F) zz → A zz := fun zz h9 => by rw [hAe]; exact h9
  rw [← hAe]
  clear hAe
  have hown : ss.vm.findClass RX1 = some mm.cls := hown
  have hl : lv_has ls 2 [(0, .ref h), (1, .int set)] := hl
  refine lv_aload_n hx hb dX1_guestBits_0 rfl (lv_at hl 0 rfl) ?_
  have hFc : ∀ zz : Nat, lzA (lzDoor G h q S F) zz → A zz := lz_free hD [0, 1, 2, 3, 4, 5, 6, 7, 8, 9, 10] rfl
  refine va_callv (va_runV (As := []) (rest := []) ⟨hx, hb, hml, hown, hts⟩ (c_X1_noteWrong l G h q S F N M (hN) (hN8) (hM) (hM5)) (cwV 0 hts gX1_guestBits_X1_noteWrong rfl rfl rfl (by decide +kernel) ⟨Nat.le_of_ble_eq_true rfl, Nat.le_of_ble_eq_true rfl⟩) (rw_preV hK hP hD hP (ci := 1) (q0 := 0) rfl rfl) rfl rfl hl.1 rfl (lv_room (Nat.le_of_ble_eq_true rfl)) dX1_guestBits_1 ⟨Nat.zero_le _, Nat.zero_le _⟩) hS (fun q _ h => hFc q h) hFc (fun u_2 t9 H1 locs ht hvm hr_1 hB hz1 hk1 hS => ?_)
  replace hB : va_P G.1 lzC _ t9.heap := hB
  rw [ht] at hB
  obtain ⟨hP, hD⟩ := lz_join (wc := lzDoor G h q S F) (wr := ([] : va_W)) (w1 := lzDoor G h q S (lzF F 13 (fa_fill (fun v => wrbD S F v N) ((F 13)) M))) hP hD [0, 1, 2, 3, 4, 5, 6, 7, 8, 9, 10] [] rfl rfl (by decide) (by decide) rfl hk1 hB
  replace hP := hP.sub (ws' := lzDoor G h q S (lzF F 13 (fa_fill (fun v => wrbD S F v N) ((F 13)) M))) [0, 1, 2, 3, 4, 5, 6, 7, 8, 9, 10] rfl
  replace hD := hD.sub (ws' := lzDoor G h q S (lzF F 13 (fa_fill (fun v => wrbD S F v N) ((F 13)) M))) [0, 1, 2, 3, 4, 5, 6, 7, 8, 9, 10] (by decide) rfl
  clear ht hvm hB hz1 hk1
  generalize H1 = H at hP hS ⊢
  refine lv_aload_n hx hb dX1_guestBits_4 rfl (lv_at hl 0 rfl) ?_
  refine lv_iload_n hx hb dX1_guestBits_5 rfl (lv_at hl 1 rfl) ?_
  refine ro_calli (va_runV (As := [.int set]) (rest := []) ⟨hx, hb, hml, hown, hts⟩ (c_X1_notedGuests l G h q S (lzF F 13 (fa_fill (fun v => wrbD S F v N) ((F 13)) M)) set M (hM) (hM5)) (cwV 1 hts gX1_guestBits_X1_notedGuests rfl rfl rfl (by decide +kernel) ⟨Nat.le_of_ble_eq_true rfl, Nat.le_of_ble_eq_true rfl⟩) (ro_preV hK hP hP (ci := 1) (q0 := 0) rfl rfl) rfl rfl hl.1 rfl (lv_room (Nat.le_of_ble_eq_true rfl)) dX1_guestBits_6 ⟨Nat.zero_le _, Nat.zero_le _⟩) (fun r_3 hr_3 => ?_)
  refine lz_top (y := bitsI (fun v => decide (bcI ((fa_fill (fun v => wrbD S F v N) ((F 13)) M) v &&& set) ≤ (S 1))) M) hr_3 ?_
  refine lz_top (y := gstD S F set N M) (gstD_noted _) ?_
  exact rw_iret (S := Unit) (G := G) (Wd := fun _ : Unit => lzDoor G h q S (lzF F 13 (fa_fill (fun v => wrbD S F v N) (F 13) M))) () hx hb hr hlk dX1_guestBits_9 hS (hP) (rfl)
