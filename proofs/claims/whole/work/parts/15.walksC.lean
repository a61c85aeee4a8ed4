set_option maxHeartbeats 4000000 in
set_option maxRecDepth 100000 in
theorem c_X4_isThere (l : Launch) (G : lzG) (m : Nat) (q : Nat → Nat) (S : Nat → Int32) (f : Nat → Int32)  : Met l yX4_isThere wsX4_isThere ({ frames := 0, cells := 0, slots := 0, locals := 0 }) (va_Pc [.ref m] (roP G (lzM m q S ++ lzI G (q 5) 64 f))) (vp_Si (fun r : Int32 => r = b2 (decide (0 < f 0)))) 0 0 (fun _ => False) := by
  refine ro_start (cc := cX4_isThere) (maxL := 1) (ret := (some .boolean)) (by decide) rfl (Nat.le_of_ble_eq_true rfl) ?_
  intro pp ee ss mm bl me cd hx hb hr hlk hml hts hown hP hK ls hl
  have hown : ss.vm.findClass RX4 = some mm.cls := hown
  have hw1 := hts (.fieldLink RX4 19 "LampSquaresModel" "door" "[I") (List.mem_of_getElem? (i := 1) rfl)
  have hu_wsX40 : ∀ w ∈ wsX40, w.before ([.ref m] : List Value).toArray ss = true := fun w h9 => hts w (List.mem_cons_of_mem _ (List.mem_append_right _ h9))
  have hl : lv_has ls 1 [(0, .ref m)] := hl
  refine lv_aload_n hx hb dX4_isThere_0 rfl (lv_at hl 0 rfl) ?_
  refine lz_get (G := G) (ci := 4) (v := .ref (q 5)) (C := RX4) (T := TX4) (N := 24) hx hb hu_wsX40 (fun _ h9 => h9) hown hK hP 0 rfl rfl 5 (by decide) hw1 rfl rfl dX4_isThere_1 ?_
  refine lv_iconst (v := 0) hx hb dX4_isThere_4 (by decide) ?_
  refine lz_iald (f := f) hx hb hK hP 1 rfl 0 (by omega) (Nat.le_of_ble_eq_true rfl) dX4_isThere_5 ?_
  refine lv_if_le (tgt := 13) hx hb dX4_isThere_6 (by decide) (fun c_6 => ?_) (fun c_6 => ?_)
  · skip
    have c_6' := Int32.not_lt.mpr c_6
    refine lv_iconst (v := 0) hx hb dX4_isThere_13 (by decide) ?_
    exact ro_zret hx hb hr hlk dX4_isThere_14 (by simp [b2, c_6, c_6'])
  · skip
    have c_6' := Int32.not_le.mp c_6
    refine lv_iconst (v := 1) hx hb dX4_isThere_9 (by decide) ?_
    refine lv_goto (tgt := 14) hx hb dX4_isThere_10 (by decide) ?_
    exact ro_zret hx hb hr hlk dX4_isThere_14 (by simp [b2, c_6, c_6'])
set_option maxHeartbeats 4000000 in
set_option maxRecDepth 100000 in
theorem c_X4_isSquare (l : Launch) (G : lzG) (m : Nat) (q : Nat → Nat) (S : Nat → Int32) (f : Nat → Int32) (n : Int32)  : Met l yX4_isSquare wsX4_isSquare ({ frames := 1, cells := 0, slots := 0, locals := 25 }) (va_Pc [.ref m, .int n] (roP G (lzM m q S ++ lzI G (q 5) 64 f))) (vp_Si (fun r : Int32 => r = b2 (inR n 0 (f 2 - 1)))) 0 0 (fun _ => False) := by
  refine ro_start (cc := cX4_isSquare) (maxL := 2) (ret := (some .boolean)) (by decide) rfl (Nat.le_of_ble_eq_true rfl) ?_
  intro pp ee ss mm bl me cd hx hb hr hlk hml hts hown hP hK ls hl
  have hown : ss.vm.findClass RX4 = some mm.cls := hown
  have hw1 := hts (.fieldLink RX4 19 "LampSquaresModel" "door" "[I") (List.mem_of_getElem? (i := 1) rfl)
  have hu_wsX40 : ∀ w ∈ wsX40, w.before ([.ref m, .int n] : List Value).toArray ss = true := fun w h9 => hts w (List.mem_cons_of_mem _ (List.mem_append_right _ h9))
  have hl : lv_has ls 2 [(0, .ref m), (1, .int n)] := hl
  refine lv_iload_n hx hb dX4_isSquare_0 rfl (lv_at hl 1 rfl) ?_
  refine lv_i2l hx hb dX4_isSquare_1 rfl ?_
  refine lv_lconst (v := 0) hx hb dX4_isSquare_2 (by decide) ?_
  refine lv_aload_n hx hb dX4_isSquare_3 rfl (lv_at hl 0 rfl) ?_
  refine lz_get (G := G) (ci := 4) (v := .ref (q 5)) (C := RX4) (T := TX4) (N := 24) hx hb hu_wsX40 (fun _ h9 => h9) hown hK hP 0 rfl rfl 5 (by decide) hw1 rfl rfl dX4_isSquare_4 ?_
  refine lv_iconst (v := 2) hx hb dX4_isSquare_7 (by decide) ?_
  refine lz_iald (f := f) hx hb hK hP 1 rfl 2 (by omega) (Nat.le_of_ble_eq_true rfl) dX4_isSquare_8 ?_
  refine lv_iconst (v := 1) hx hb dX4_isSquare_9 (by decide) ?_
  refine lv_isub hx hb dX4_isSquare_10 ?_
  refine lv_i2l hx hb dX4_isSquare_11 rfl ?_
  refine ro_calli (va_runS (As := [.long n.toInt64, .long 0, .long (((f 2) - 1).toInt64)]) (rest := []) ⟨hx, hb, hml, hown, hts⟩ (c_X4_in l G n.toInt64 0 (((f 2) - 1).toInt64) ) (cwS 3 hts gX4_isSquare_X4_in rfl rfl rfl (by decide +kernel) ⟨Nat.le_of_ble_eq_true rfl, Nat.le_of_ble_eq_true rfl⟩) (ro_pre hK (fun k q h => by simp at h)) rfl rfl hl.1 rfl (lv_room (Nat.le_of_ble_eq_true rfl)) dX4_isSquare_12 ⟨Nat.zero_le _, Nat.zero_le _⟩) (fun r_1 hr_1 => ?_)
  exact ro_zret hx hb hr hlk dX4_isSquare_15 (hr_1.trans (congrArg b2 (inL_of n 0 (f 2 - 1))))
set_option maxHeartbeats 4000000 in
set_option maxRecDepth 100000 in
theorem c_X4_isVisitor (l : Launch) (G : lzG) (m : Nat) (q : Nat → Nat) (S : Nat → Int32) (f : Nat → Int32) (n : Int32)  : Met l yX4_isVisitor wsX4_isVisitor ({ frames := 1, cells := 0, slots := 0, locals := 25 }) (va_Pc [.ref m, .int n] (roP G (lzM m q S ++ lzI G (q 5) 64 f))) (vp_Si (fun r : Int32 => r = b2 (inR n 0 (f 3 - 1)))) 0 0 (fun _ => False) := by
  refine ro_start (cc := cX4_isVisitor) (maxL := 2) (ret := (some .boolean)) (by decide) rfl (Nat.le_of_ble_eq_true rfl) ?_
  intro pp ee ss mm bl me cd hx hb hr hlk hml hts hown hP hK ls hl
  have hown : ss.vm.findClass RX4 = some mm.cls := hown
  have hw1 := hts (.fieldLink RX4 19 "LampSquaresModel" "door" "[I") (List.mem_of_getElem? (i := 1) rfl)
  have hu_wsX40 : ∀ w ∈ wsX40, w.before ([.ref m, .int n] : List Value).toArray ss = true := fun w h9 => hts w (List.mem_cons_of_mem _ (List.mem_append_right _ h9))
  have hl : lv_has ls 2 [(0, .ref m), (1, .int n)] := hl
  refine lv_iload_n hx hb dX4_isVisitor_0 rfl (lv_at hl 1 rfl) ?_
  refine lv_i2l hx hb dX4_isVisitor_1 rfl ?_
  refine lv_lconst (v := 0) hx hb dX4_isVisitor_2 (by decide) ?_
  refine lv_aload_n hx hb dX4_isVisitor_3 rfl (lv_at hl 0 rfl) ?_
  refine lz_get (G := G) (ci := 4) (v := .ref (q 5)) (C := RX4) (T := TX4) (N := 24) hx hb hu_wsX40 (fun _ h9 => h9) hown hK hP 0 rfl rfl 5 (by decide) hw1 rfl rfl dX4_isVisitor_4 ?_
  refine lv_iconst (v := 3) hx hb dX4_isVisitor_7 (by decide) ?_
  refine lz_iald (f := f) hx hb hK hP 1 rfl 3 (by omega) (Nat.le_of_ble_eq_true rfl) dX4_isVisitor_8 ?_
  refine lv_iconst (v := 1) hx hb dX4_isVisitor_9 (by decide) ?_
  refine lv_isub hx hb dX4_isVisitor_10 ?_
  refine lv_i2l hx hb dX4_isVisitor_11 rfl ?_
  refine ro_calli (va_runS (As := [.long n.toInt64, .long 0, .long (((f 3) - 1).toInt64)]) (rest := []) ⟨hx, hb, hml, hown, hts⟩ (c_X4_in l G n.toInt64 0 (((f 3) - 1).toInt64) ) (cwS 3 hts gX4_isVisitor_X4_in rfl rfl rfl (by decide +kernel) ⟨Nat.le_of_ble_eq_true rfl, Nat.le_of_ble_eq_true rfl⟩) (ro_pre hK (fun k q h => by simp at h)) rfl rfl hl.1 rfl (lv_room (Nat.le_of_ble_eq_true rfl)) dX4_isVisitor_12 ⟨Nat.zero_le _, Nat.zero_le _⟩) (fun r_1 hr_1 => ?_)
  exact ro_zret hx hb hr hlk dX4_isVisitor_15 (hr_1.trans (congrArg b2 (inL_of n 0 (f 3 - 1))))
set_option maxHeartbeats 4000000 in
set_option maxRecDepth 100000 in
theorem c_X4_areSquares (l : Launch) (G : lzG) (m : Nat) (q : Nat → Nat) (S : Nat → Int32) (f : Nat → Int32) (n : Int32)  : Met l yX4_areSquares wsX4_areSquares ({ frames := 1, cells := 0, slots := 0, locals := 25 }) (va_Pc [.ref m, .int n] (roP G (lzM m q S ++ lzI G (q 5) 64 f))) (vp_Si (fun r : Int32 => r = b2 (inR n 0 ((1 <<< (f 2 &&& 31)) - 1)))) 0 0 (fun _ => False) := by
  refine ro_start (cc := cX4_areSquares) (maxL := 2) (ret := (some .boolean)) (by decide) rfl (Nat.le_of_ble_eq_true rfl) ?_
  intro pp ee ss mm bl me cd hx hb hr hlk hml hts hown hP hK ls hl
  have hown : ss.vm.findClass RX4 = some mm.cls := hown
  have hw1 := hts (.fieldLink RX4 19 "LampSquaresModel" "door" "[I") (List.mem_of_getElem? (i := 1) rfl)
  have hu_wsX40 : ∀ w ∈ wsX40, w.before ([.ref m, .int n] : List Value).toArray ss = true := fun w h9 => hts w (List.mem_cons_of_mem _ (List.mem_append_right _ h9))
  have hl : lv_has ls 2 [(0, .ref m), (1, .int n)] := hl
  refine lv_iload_n hx hb dX4_areSquares_0 rfl (lv_at hl 1 rfl) ?_
  refine lv_i2l hx hb dX4_areSquares_1 rfl ?_
  refine lv_lconst (v := 0) hx hb dX4_areSquares_2 (by decide) ?_
  refine lv_iconst (v := 1) hx hb dX4_areSquares_3 (by decide) ?_
  refine lv_aload_n hx hb dX4_areSquares_4 rfl (lv_at hl 0 rfl) ?_
  refine lz_get (G := G) (ci := 4) (v := .ref (q 5)) (C := RX4) (T := TX4) (N := 24) hx hb hu_wsX40 (fun _ h9 => h9) hown hK hP 0 rfl rfl 5 (by decide) hw1 rfl rfl dX4_areSquares_5 ?_
  refine lv_iconst (v := 2) hx hb dX4_areSquares_8 (by decide) ?_
  refine lz_iald (f := f) hx hb hK hP 1 rfl 2 (by omega) (Nat.le_of_ble_eq_true rfl) dX4_areSquares_9 ?_
  refine lv_ishl hx hb dX4_areSquares_10 ?_
  refine lv_iconst (v := 1) hx hb dX4_areSquares_11 (by decide) ?_
  refine lv_isub hx hb dX4_areSquares_12 ?_
  refine lv_i2l hx hb dX4_areSquares_13 rfl ?_
  refine ro_calli (va_runS (As := [.long n.toInt64, .long 0, .long (((1 <<< ((f 2) &&& 31)) - 1).toInt64)]) (rest := []) ⟨hx, hb, hml, hown, hts⟩ (c_X4_in l G n.toInt64 0 (((1 <<< ((f 2) &&& 31)) - 1).toInt64) ) (cwS 3 hts gX4_areSquares_X4_in rfl rfl rfl (by decide +kernel) ⟨Nat.le_of_ble_eq_true rfl, Nat.le_of_ble_eq_true rfl⟩) (ro_pre hK (fun k q h => by simp at h)) rfl rfl hl.1 rfl (lv_room (Nat.le_of_ble_eq_true rfl)) dX4_areSquares_14 ⟨Nat.zero_le _, Nat.zero_le _⟩) (fun r_1 hr_1 => ?_)
  exact ro_zret hx hb hr hlk dX4_areSquares_17 (hr_1.trans (congrArg b2 (inL_of n 0 ((1 <<< (f 2 &&& 31)) - 1))))
set_option maxHeartbeats 4000000 in
set_option maxRecDepth 100000 in
theorem c_X4_areVisitors (l : Launch) (G : lzG) (m : Nat) (q : Nat → Nat) (S : Nat → Int32) (f : Nat → Int32) (n : Int32)  : Met l yX4_areVisitors wsX4_areVisitors ({ frames := 1, cells := 0, slots := 0, locals := 25 }) (va_Pc [.ref m, .int n] (roP G (lzM m q S ++ lzI G (q 5) 64 f))) (vp_Si (fun r : Int32 => r = b2 (inR n 0 ((1 <<< (f 3 &&& 31)) - 1)))) 0 0 (fun _ => False) := by
  refine ro_start (cc := cX4_areVisitors) (maxL := 2) (ret := (some .boolean)) (by decide) rfl (Nat.le_of_ble_eq_true rfl) ?_
  intro pp ee ss mm bl me cd hx hb hr hlk hml hts hown hP hK ls hl
  have hown : ss.vm.findClass RX4 = some mm.cls := hown
  have hw1 := hts (.fieldLink RX4 19 "LampSquaresModel" "door" "[I") (List.mem_of_getElem? (i := 1) rfl)
  have hu_wsX40 : ∀ w ∈ wsX40, w.before ([.ref m, .int n] : List Value).toArray ss = true := fun w h9 => hts w (List.mem_cons_of_mem _ (List.mem_append_right _ h9))
  have hl : lv_has ls 2 [(0, .ref m), (1, .int n)] := hl
  refine lv_iload_n hx hb dX4_areVisitors_0 rfl (lv_at hl 1 rfl) ?_
  refine lv_i2l hx hb dX4_areVisitors_1 rfl ?_
  refine lv_lconst (v := 0) hx hb dX4_areVisitors_2 (by decide) ?_
  refine lv_iconst (v := 1) hx hb dX4_areVisitors_3 (by decide) ?_
  refine lv_aload_n hx hb dX4_areVisitors_4 rfl (lv_at hl 0 rfl) ?_
  refine lz_get (G := G) (ci := 4) (v := .ref (q 5)) (C := RX4) (T := TX4) (N := 24) hx hb hu_wsX40 (fun _ h9 => h9) hown hK hP 0 rfl rfl 5 (by decide) hw1 rfl rfl dX4_areVisitors_5 ?_
  refine lv_iconst (v := 3) hx hb dX4_areVisitors_8 (by decide) ?_
  refine lz_iald (f := f) hx hb hK hP 1 rfl 3 (by omega) (Nat.le_of_ble_eq_true rfl) dX4_areVisitors_9 ?_
  refine lv_ishl hx hb dX4_areVisitors_10 ?_
  refine lv_iconst (v := 1) hx hb dX4_areVisitors_11 (by decide) ?_
  refine lv_isub hx hb dX4_areVisitors_12 ?_
  refine lv_i2l hx hb dX4_areVisitors_13 rfl ?_
  refine ro_calli (va_runS (As := [.long n.toInt64, .long 0, .long (((1 <<< ((f 3) &&& 31)) - 1).toInt64)]) (rest := []) ⟨hx, hb, hml, hown, hts⟩ (c_X4_in l G n.toInt64 0 (((1 <<< ((f 3) &&& 31)) - 1).toInt64) ) (cwS 3 hts gX4_areVisitors_X4_in rfl rfl rfl (by decide +kernel) ⟨Nat.le_of_ble_eq_true rfl, Nat.le_of_ble_eq_true rfl⟩) (ro_pre hK (fun k q h => by simp at h)) rfl rfl hl.1 rfl (lv_room (Nat.le_of_ble_eq_true rfl)) dX4_areVisitors_14 ⟨Nat.zero_le _, Nat.zero_le _⟩) (fun r_1 hr_1 => ?_)
  exact ro_zret hx hb hr hlk dX4_areVisitors_17 (hr_1.trans (congrArg b2 (inL_of n 0 ((1 <<< (f 3 &&& 31)) - 1))))
set_option maxHeartbeats 4000000 in
set_option maxRecDepth 100000 in
theorem c_X4_clicksOf (l : Launch) (G : lzG) (m : Nat) (q : Nat → Nat) (S : Nat → Int32) (f : Nat → Int32) (v N : Nat) (hv : v < 5) (hN : f 2 = nI N) (hN8 : N ≤ 8) : Met l yX4_clicksOf wsX4_clicksOf ({ frames := 3, cells := 0, slots := 0, locals := 68 }) (va_Pc [.ref m, .int (nI v)] (roP G (lzM m q S ++ lzI G (q 5) 64 f))) (vp_Si (fun r => r = bitsI (clkR f v) N)) 0 0 (fun _ => False) := by
  refine ro_start (cc := cX4_clicksOf) (maxL := 4) (ret := (some .int)) (by decide) rfl (Nat.le_of_ble_eq_true rfl) ?_
  intro pp ee ss mm bl me cd hx hb hr hlk hml hts hown hP hK ls hl
  have hown : ss.vm.findClass RX4 = some mm.cls := hown
  have hw1 := hts (.fieldLink RX4 19 "LampSquaresModel" "door" "[I") (List.mem_of_getElem? (i := 1) rfl)
  have hu_wsX40 : ∀ w ∈ wsX40, w.before ([.ref m, .int (nI v)] : List Value).toArray ss = true := fun w h9 => hts w (List.mem_cons_of_mem _ (List.mem_append_right _ h9))
  have hl : lv_has ls 4 [(0, .ref m), (1, .int (nI v))] := hl
  refine lv_iconst (v := 0) hx hb dX4_clicksOf_0 (by decide) ?_
  refine lv_istore_n (lv' := [(2, .int 0), (0, .ref m), (1, .int (nI v))]) hx hb dX4_clicksOf_1 rfl hl (by decide) rfl (fun ls hl => ?_)
  refine lv_iconst (v := 0) hx hb dX4_clicksOf_2 (by decide) ?_
  refine lv_istore_n (lv' := [(3, .int 0), (2, .int 0), (0, .ref m), (1, .int (nI v))]) hx hb dX4_clicksOf_3 rfl hl (by decide) rfl (fun ls hl => ?_)
  have J_4 : ∀ (n9 : Nat), ∀ (k : Nat), (k ≤ N) → N - k < n9 → ∀ ls : Array Slot, lv_has ls 4 [(2, .int (bitsI (clkR f v) k)), (3, .int (nI k)), (0, .ref m), (1, .int (nI v))] → W pp l ee ({ frames := 3, cells := 0, slots := 0, locals := 68 }) ss mm ([.ref m, .int (nI v)] : List Value).toArray bl me cd ss.heap [] 0 0 (MQ bl (vp_Si (fun r => r = bitsI (clkR f v) N)) ([.ref m, .int (nI v)] : List Value).toArray ss 0 0 (fun _ => False)) (F0 mm 4 ls []) := by
    intro n9
    induction n9 with
    | zero => intro k hk hn; exact absurd hn (Nat.not_lt_zero _)
    | succ n9 ih_4 =>
      intro k hk hn_4 ls hl
      refine lv_iload_n hx hb dX4_clicksOf_4 rfl (lv_at hl 1 rfl) ?_
      refine lv_aload_n hx hb dX4_clicksOf_5 rfl (lv_at hl 2 rfl) ?_
      refine lz_get (G := G) (ci := 4) (v := .ref (q 5)) (C := RX4) (T := TX4) (N := 24) hx hb hu_wsX40 (fun _ h9 => h9) hown hK hP 0 rfl rfl 5 (by decide) hw1 rfl rfl dX4_clicksOf_6 ?_
      refine lv_iconst (v := 2) hx hb dX4_clicksOf_9 (by decide) ?_
      refine lz_iald (f := f) hx hb hK hP 1 rfl 2 (by omega) (Nat.le_of_ble_eq_true rfl) dX4_clicksOf_10 ?_
      refine lv_icmp_ge (tgt := 42) hx hb dX4_clicksOf_11 (by decide) (fun c_11 => ?_) (fun c_11 => ?_)
      · skip
        have c_11' := Int32.not_lt.mpr c_11
        have hk2 : N ≤ k := lz_ge hN c_11 (by omega) (by omega)
        obtain rfl : k = N := by omega
        refine lv_iload_n hx hb dX4_clicksOf_42 rfl (lv_at hl 0 rfl) ?_
        exact ro_iret hx hb hr hlk dX4_clicksOf_43 (rfl)
      · skip
        have c_11' := Int32.not_le.mp c_11
        have hk2 : k < N := lz_lt hN c_11 (by omega) (by omega)
        refine lv_iload_n hx hb dX4_clicksOf_14 rfl (lv_at hl 0 rfl) ?_
        refine lv_aload_n hx hb dX4_clicksOf_15 rfl (lv_at hl 2 rfl) ?_
        refine lz_get (G := G) (ci := 4) (v := .ref (q 5)) (C := RX4) (T := TX4) (N := 24) hx hb hu_wsX40 (fun _ h9 => h9) hown hK hP 0 rfl rfl 5 (by decide) hw1 rfl rfl dX4_clicksOf_16 ?_
        refine lv_iload_n hx hb dX4_clicksOf_19 rfl (lv_at hl 3 rfl) ?_
        refine lv_iload_n hx hb dX4_clicksOf_20 rfl (lv_at hl 1 rfl) ?_
        have hPc := hP.sub (ws' := lzI G (q 5) 64 f) [1] rfl
        refine ro_calli (va_runS (As := [.ref (q 5), .int (nI v), .int (nI k)]) (rest := [.int (bitsI (clkR f v) k)]) ⟨hx, hb, hml, hown, hts⟩ (c_X4_clicksIt l G (q 5) f v k (by omega) (by omega)) (cwS 3 hts gX4_clicksOf_X4_clicksIt rfl rfl rfl (by decide +kernel) ⟨Nat.le_of_ble_eq_true rfl, Nat.le_of_ble_eq_true rfl⟩) (ro_pre hK hPc) rfl rfl hl.1 rfl (lv_room (Nat.le_of_ble_eq_true rfl)) dX4_clicksOf_21 ⟨Nat.zero_le _, Nat.zero_le _⟩) (fun r_1 hr_1 => ?_)
        refine lv_if_eq (tgt := 33) hx hb dX4_clicksOf_24 (by decide) (fun c_24 => ?_) (fun c_24 => ?_)
        · skip
          have c_24 := b2_z hr_1 c_24
          refine lv_iconst (v := 0) hx hb dX4_clicksOf_33 (by decide) ?_
          refine lv_ior hx hb dX4_clicksOf_34 ?_
          refine lv_topi (fun x_2 ex_2 => ?_)
          refine lv_istore_n (lv' := [(2, .int x_2), (3, .int (nI k)), (0, .ref m), (1, .int (nI v))]) hx hb dX4_clicksOf_35 rfl hl (by decide) rfl (fun ls hl => ?_)
          refine lv_iinc (v := nI (k + 1)) (lv' := [(3, .int (nI (k + 1))), (2, .int x_2), (0, .ref m), (1, .int (nI v))]) hx hb dX4_clicksOf_36 hl (k := 1) rfl (nI_1 _) (by decide) rfl (fun ls hl => ?_)
          refine lv_goto (tgt := 4) hx hb dX4_clicksOf_39 (by decide) ?_
          obtain rfl : x_2 = bitsI (clkR f v) (k + 1) := by rw [ex_2]; simp [bitsI, c_11, c_11', c_24]
          exact ih_4 (k + 1) (by omega) (by omega) _ (lv_sub hl [1, 0, 2, 3] rfl)
        · skip
          have c_24 := b2_n hr_1 c_24
          refine lv_iconst (v := 1) hx hb dX4_clicksOf_27 (by decide) ?_
          refine lv_iload_n hx hb dX4_clicksOf_28 rfl (lv_at hl 1 rfl) ?_
          refine lv_ishl hx hb dX4_clicksOf_29 ?_
          refine lv_goto (tgt := 34) hx hb dX4_clicksOf_30 (by decide) ?_
          refine lv_ior hx hb dX4_clicksOf_34 ?_
          refine lv_topi (fun x_3 ex_3 => ?_)
          refine lv_istore_n (lv' := [(2, .int x_3), (3, .int (nI k)), (0, .ref m), (1, .int (nI v))]) hx hb dX4_clicksOf_35 rfl hl (by decide) rfl (fun ls hl => ?_)
          refine lv_iinc (v := nI (k + 1)) (lv' := [(3, .int (nI (k + 1))), (2, .int x_3), (0, .ref m), (1, .int (nI v))]) hx hb dX4_clicksOf_36 hl (k := 1) rfl (nI_1 _) (by decide) rfl (fun ls hl => ?_)
          refine lv_goto (tgt := 4) hx hb dX4_clicksOf_39 (by decide) ?_
          obtain rfl : x_3 = bitsI (clkR f v) (k + 1) := by rw [ex_3]; simp [bitsI, c_11, c_11', c_24]
          exact ih_4 (k + 1) (by omega) (by omega) _ (lv_sub hl [1, 0, 2, 3] rfl)
  exact J_4 _ 0 (by omega) (Nat.lt_succ_self _) _ (lv_sub hl [1, 0, 2, 3] rfl)
set_option maxHeartbeats 4000000 in
set_option maxRecDepth 100000 in
theorem c_X4_guestsOf (l : Launch) (G : lzG) (m : Nat) (q : Nat → Nat) (S : Nat → Int32) (f : Nat → Int32) (set : Int32) (N M : Nat) (hN : f 2 = nI N) (hN8 : N ≤ 8) (hM : f 3 = nI M) (hM5 : M ≤ 5) : Met l yX4_guestsOf wsX4_guestsOf ({ frames := 5, cells := 0, slots := 0, locals := 114 }) (va_Pc [.ref m, .int set] (roP G (lzM m q S ++ lzI G (q 5) 64 f))) (vp_Si (fun r => r = gstM f set N M)) 0 0 (fun _ => False) := by
  refine ro_start (cc := cX4_guestsOf) (maxL := 4) (ret := (some .int)) (by decide) rfl (Nat.le_of_ble_eq_true rfl) ?_
  intro pp ee ss mm bl me cd hx hb hr hlk hml hts hown hP hK ls hl
  have hown : ss.vm.findClass RX4 = some mm.cls := hown
  have hw1 := hts (.fieldLink RX4 19 "LampSquaresModel" "door" "[I") (List.mem_of_getElem? (i := 1) rfl)
  have hu_wsX40 : ∀ w ∈ wsX40, w.before ([.ref m, .int set] : List Value).toArray ss = true := fun w h9 => hts w (List.mem_cons_of_mem _ (List.mem_append_right _ h9))
  have hl : lv_has ls 4 [(0, .ref m), (1, .int set)] := hl
  refine lv_iconst (v := 0) hx hb dX4_guestsOf_0 (by decide) ?_
  refine lv_istore_n (lv' := [(2, .int 0), (0, .ref m), (1, .int set)]) hx hb dX4_guestsOf_1 rfl hl (by decide) rfl (fun ls hl => ?_)
  refine lv_iconst (v := 0) hx hb dX4_guestsOf_2 (by decide) ?_
  refine lv_istore_n (lv' := [(3, .int 0), (2, .int 0), (0, .ref m), (1, .int set)]) hx hb dX4_guestsOf_3 rfl hl (by decide) rfl (fun ls hl => ?_)
  have J_4 : ∀ (n9 : Nat), ∀ (k : Nat), (k ≤ M) → M - k < n9 → ∀ ls : Array Slot, lv_has ls 4 [(2, .int (bitsI (fun v => decide (wrgN f v set N ≤ f 1)) k)), (3, .int (nI k)), (0, .ref m), (1, .int set)] → W pp l ee ({ frames := 5, cells := 0, slots := 0, locals := 114 }) ss mm ([.ref m, .int set] : List Value).toArray bl me cd ss.heap [] 0 0 (MQ bl (vp_Si (fun r => r = gstM f set N M)) ([.ref m, .int set] : List Value).toArray ss 0 0 (fun _ => False)) (F0 mm 4 ls []) := by
    intro n9
    induction n9 with
    | zero => intro k hk hn; exact absurd hn (Nat.not_lt_zero _)
    | succ n9 ih_4 =>
      intro k hk hn_4 ls hl
      refine lv_iload_n hx hb dX4_guestsOf_4 rfl (lv_at hl 1 rfl) ?_
      refine lv_aload_n hx hb dX4_guestsOf_5 rfl (lv_at hl 2 rfl) ?_
      refine lz_get (G := G) (ci := 4) (v := .ref (q 5)) (C := RX4) (T := TX4) (N := 24) hx hb hu_wsX40 (fun _ h9 => h9) hown hK hP 0 rfl rfl 5 (by decide) hw1 rfl rfl dX4_guestsOf_6 ?_
      refine lv_iconst (v := 3) hx hb dX4_guestsOf_9 (by decide) ?_
      refine lz_iald (f := f) hx hb hK hP 1 rfl 3 (by omega) (Nat.le_of_ble_eq_true rfl) dX4_guestsOf_10 ?_
      refine lv_icmp_ge (tgt := 48) hx hb dX4_guestsOf_11 (by decide) (fun c_11 => ?_) (fun c_11 => ?_)
      · skip
        have c_11' := Int32.not_lt.mpr c_11
        have hk2 : M ≤ k := lz_ge hM c_11 (by omega) (by omega)
        obtain rfl : k = M := by omega
        refine lv_iload_n hx hb dX4_guestsOf_48 rfl (lv_at hl 0 rfl) ?_
        exact ro_iret hx hb hr hlk dX4_guestsOf_49 (rfl)
      · skip
        have c_11' := Int32.not_le.mp c_11
        have hk2 : k < M := lz_lt hM c_11 (by omega) (by omega)
        refine lv_iload_n hx hb dX4_guestsOf_14 rfl (lv_at hl 0 rfl) ?_
        refine lv_aload_n hx hb dX4_guestsOf_15 rfl (lv_at hl 2 rfl) ?_
        refine lz_get (G := G) (ci := 4) (v := .ref (q 5)) (C := RX4) (T := TX4) (N := 24) hx hb hu_wsX40 (fun _ h9 => h9) hown hK hP 0 rfl rfl 5 (by decide) hw1 rfl rfl dX4_guestsOf_16 ?_
        refine lv_iload_n hx hb dX4_guestsOf_19 rfl (lv_at hl 1 rfl) ?_
        refine lv_iload_n hx hb dX4_guestsOf_20 rfl (lv_at hl 3 rfl) ?_
        have hPc := hP.sub (ws' := lzI G (q 5) 64 f) [1] rfl
        refine ro_calli (va_runS (As := [.ref (q 5), .int (nI k), .int set]) (rest := [.int (bitsI (fun v => decide (wrgN f v set N ≤ f 1)) k)]) ⟨hx, hb, hml, hown, hts⟩ (c_X4_wrongOf l G (q 5) f k set N (by omega) (hN) (hN8)) (cwS 3 hts gX4_guestsOf_X4_wrongOf rfl rfl rfl (by decide +kernel) ⟨Nat.le_of_ble_eq_true rfl, Nat.le_of_ble_eq_true rfl⟩) (ro_pre hK hPc) rfl rfl hl.1 rfl (lv_room (Nat.le_of_ble_eq_true rfl)) dX4_guestsOf_21 ⟨Nat.zero_le _, Nat.zero_le _⟩) (fun r_1 hr_1 => ?_)
        refine lz_top (y := wrgN f k set N) hr_1 ?_
        refine lv_aload_n hx hb dX4_guestsOf_24 rfl (lv_at hl 2 rfl) ?_
        refine lz_get (G := G) (ci := 4) (v := .ref (q 5)) (C := RX4) (T := TX4) (N := 24) hx hb hu_wsX40 (fun _ h9 => h9) hown hK hP 0 rfl rfl 5 (by decide) hw1 rfl rfl dX4_guestsOf_25 ?_
        refine lv_iconst (v := 1) hx hb dX4_guestsOf_28 (by decide) ?_
        refine lz_iald (f := f) hx hb hK hP 1 rfl 1 (by omega) (Nat.le_of_ble_eq_true rfl) dX4_guestsOf_29 ?_
        refine lv_icmp_gt (tgt := 39) hx hb dX4_guestsOf_30 (by decide) (fun c_30 => ?_) (fun c_30 => ?_)
        · skip
          have c_30' := Int32.not_le.mpr c_30
          refine lv_iconst (v := 0) hx hb dX4_guestsOf_39 (by decide) ?_
          refine lv_ior hx hb dX4_guestsOf_40 ?_
          refine lv_topi (fun x_2 ex_2 => ?_)
          refine lv_istore_n (lv' := [(2, .int x_2), (3, .int (nI k)), (0, .ref m), (1, .int set)]) hx hb dX4_guestsOf_41 rfl hl (by decide) rfl (fun ls hl => ?_)
          refine lv_iinc (v := nI (k + 1)) (lv' := [(3, .int (nI (k + 1))), (2, .int x_2), (0, .ref m), (1, .int set)]) hx hb dX4_guestsOf_42 hl (k := 1) rfl (nI_1 _) (by decide) rfl (fun ls hl => ?_)
          refine lv_goto (tgt := 4) hx hb dX4_guestsOf_45 (by decide) ?_
          obtain rfl : x_2 = bitsI (fun v => decide (wrgN f v set N ≤ f 1)) (k + 1) := by rw [ex_2]; simp [bitsI, c_11, c_11', c_30, c_30']
          exact ih_4 (k + 1) (by omega) (by omega) _ (lv_sub hl [1, 0, 2, 3] rfl)
        · skip
          have c_30' := Int32.not_lt.mp c_30
          refine lv_iconst (v := 1) hx hb dX4_guestsOf_33 (by decide) ?_
          refine lv_iload_n hx hb dX4_guestsOf_34 rfl (lv_at hl 1 rfl) ?_
          refine lv_ishl hx hb dX4_guestsOf_35 ?_
          refine lv_goto (tgt := 40) hx hb dX4_guestsOf_36 (by decide) ?_
          refine lv_ior hx hb dX4_guestsOf_40 ?_
          refine lv_topi (fun x_3 ex_3 => ?_)
          refine lv_istore_n (lv' := [(2, .int x_3), (3, .int (nI k)), (0, .ref m), (1, .int set)]) hx hb dX4_guestsOf_41 rfl hl (by decide) rfl (fun ls hl => ?_)
          refine lv_iinc (v := nI (k + 1)) (lv' := [(3, .int (nI (k + 1))), (2, .int x_3), (0, .ref m), (1, .int set)]) hx hb dX4_guestsOf_42 hl (k := 1) rfl (nI_1 _) (by decide) rfl (fun ls hl => ?_)
          refine lv_goto (tgt := 4) hx hb dX4_guestsOf_45 (by decide) ?_
          obtain rfl : x_3 = bitsI (fun v => decide (wrgN f v set N ≤ f 1)) (k + 1) := by rw [ex_3]; simp [bitsI, c_11, c_11', c_30, c_30']
          exact ih_4 (k + 1) (by omega) (by omega) _ (lv_sub hl [1, 0, 2, 3] rfl)
  exact J_4 _ 0 (by omega) (Nat.lt_succ_self _) _ (lv_sub hl [1, 0, 2, 3] rfl)
set_option maxHeartbeats 4000000 in
set_option maxRecDepth 100000 in
theorem c_X4_bits (l : Launch) (G : lzG) (set : Int32)  : Met l yX4_bits wsX4_bits ({ frames := 0, cells := 0, slots := 0, locals := 0 }) (va_Pc [.int set] (roP G ([] : va_W))) (vp_Si (fun r => r = bitM set)) 0 0 (fun _ => False) := by
  refine ro_start (cc := cX4_bits) (maxL := 3) (ret := (some .int)) (by decide) rfl (Nat.le_of_ble_eq_true rfl) ?_
  intro pp ee ss mm bl me cd hx hb hr hlk hml hts hown hP hK ls hl
  have hown : ss.vm.findClass RX4 = some mm.cls := hown
  have hl : lv_has ls 3 [(0, .int set)] := hl
  refine lv_iconst (v := 0) hx hb dX4_bits_0 (by decide) ?_
  refine lv_istore_n (lv' := [(1, .int 0), (0, .int set)]) hx hb dX4_bits_1 rfl hl (by decide) rfl (fun ls hl => ?_)
  refine lv_iconst (v := 0) hx hb dX4_bits_2 (by decide) ?_
  refine lv_istore_n (lv' := [(2, .int 0), (1, .int 0), (0, .int set)]) hx hb dX4_bits_3 rfl hl (by decide) rfl (fun ls hl => ?_)
  have J_4 : ∀ (n9 : Nat), ∀ (k : Nat), (k ≤ 8) → 8 - k < n9 → ∀ ls : Array Slot, lv_has ls 3 [(1, .int (sumI (fun z => set >>> (nI z &&& 31) &&& 1) k)), (2, .int (nI k)), (0, .int set)] → W pp l ee ({ frames := 0, cells := 0, slots := 0, locals := 0 }) ss mm ([.int set] : List Value).toArray bl me cd ss.heap [] 0 0 (MQ bl (vp_Si (fun r => r = bitM set)) ([.int set] : List Value).toArray ss 0 0 (fun _ => False)) (F0 mm 4 ls []) := by
    intro n9
    induction n9 with
    | zero => intro k hk hn; exact absurd hn (Nat.not_lt_zero _)
    | succ n9 ih_4 =>
      intro k hk hn_4 ls hl
      refine lv_iload_n hx hb dX4_bits_4 rfl (lv_at hl 1 rfl) ?_
      refine lv_bipush (v := 8) hx hb dX4_bits_5 (by decide) ?_
      refine lv_icmp_ge (tgt := 24) hx hb dX4_bits_7 (by decide) (fun c_7 => ?_) (fun c_7 => ?_)
      · skip
        have c_7' := Int32.not_lt.mpr c_7
        have hk2 : 8 ≤ k := lz_ge (N := 8) rfl c_7 (by omega) (by omega)
        have hk3 : k = 8 := by omega
        refine lv_iload_n hx hb dX4_bits_24 rfl (lv_at hl 0 rfl) ?_
        exact ro_iret hx hb hr hlk dX4_bits_25 (by rw [hk3]; rfl)
      · skip
        have c_7' := Int32.not_le.mp c_7
        have hk2 : k < 8 := lz_lt (N := 8) rfl c_7 (by omega) (by omega)
        refine lv_iload_n hx hb dX4_bits_10 rfl (lv_at hl 0 rfl) ?_
        refine lv_iload_n hx hb dX4_bits_11 rfl (lv_at hl 2 rfl) ?_
        refine lv_iload_n hx hb dX4_bits_12 rfl (lv_at hl 1 rfl) ?_
        refine lv_ishr hx hb dX4_bits_13 ?_
        refine lv_iconst (v := 1) hx hb dX4_bits_14 (by decide) ?_
        refine lv_iand hx hb dX4_bits_15 ?_
        refine lv_iadd hx hb dX4_bits_16 ?_
        refine lv_topi (fun x_1 ex_1 => ?_)
        refine lv_istore_n (lv' := [(1, .int x_1), (2, .int (nI k)), (0, .int set)]) hx hb dX4_bits_17 rfl hl (by decide) rfl (fun ls hl => ?_)
        refine lv_iinc (v := nI (k + 1)) (lv' := [(2, .int (nI (k + 1))), (1, .int x_1), (0, .int set)]) hx hb dX4_bits_18 hl (k := 1) rfl (nI_1 _) (by decide) rfl (fun ls hl => ?_)
        refine lv_goto (tgt := 4) hx hb dX4_bits_21 (by decide) ?_
        obtain rfl : x_1 = sumI (fun z => set >>> (nI z &&& 31) &&& 1) (k + 1) := by rw [ex_1]; rfl
        exact ih_4 (k + 1) (by omega) (by omega) _ (lv_sub hl [1, 0, 2] rfl)
  exact J_4 _ 0 (by omega) (Nat.lt_succ_self _) _ (lv_sub hl [1, 0, 2] rfl)
set_option maxHeartbeats 4000000 in
set_option maxRecDepth 100000 in
theorem c_X4_fewestOf (l : Launch) (G : lzG) (m : Nat) (q : Nat → Nat) (S : Nat → Int32) (f : Nat → Int32) (O : Nat) (want : Int32) (N M : Nat) (hN : f 2 = nI N) (hN8 : N ≤ 8) (hM : f 3 = nI M) (hM5 : M ≤ 5) (hO : O < 256) : Met l yX4_fewestOf wsX4_fewestOf ({ frames := 6, cells := 0, slots := 0, locals := 137 }) (va_Pc [.ref m, .int (nI O), .int want] (roP G (lzM m q S ++ lzI G (q 5) 64 f))) (vp_Si (fun r => r = fewM f (nI O) want N M (O + 1))) 0 0 (fun _ => False) := by
  refine ro_start (cc := cX4_fewestOf) (maxL := 6) (ret := (some .int)) (by decide) rfl (Nat.le_of_ble_eq_true rfl) ?_
  intro pp ee ss mm bl me cd hx hb hr hlk hml hts hown hP hK ls hl
  have hown : ss.vm.findClass RX4 = some mm.cls := hown
  have hw1 := hts (.constant RX4 91 (-1000000)) (List.mem_of_getElem? (i := 1) rfl)
  have hl : lv_has ls 6 [(0, .ref m), (1, .int (nI O)), (2, .int want)] := hl
  refine lv_ldc hx hb hown hw1 dX4_fewestOf_0 ?_
  refine lv_istore_n (lv' := [(3, .int (-1000000)), (0, .ref m), (1, .int (nI O)), (2, .int want)]) hx hb dX4_fewestOf_2 rfl hl (by decide) rfl (fun ls hl => ?_)
  refine lv_iconst (v := 0) hx hb dX4_fewestOf_3 (by decide) ?_
  refine lv_istore (lv' := [(4, .int 0), (3, .int (-1000000)), (0, .ref m), (1, .int (nI O)), (2, .int want)]) hx hb dX4_fewestOf_4 hl (by decide) rfl (fun ls hl => ?_)
  have J_6 : ∀ (n9 : Nat), ∀ (k : Nat), (k ≤ O + 1) → O + 1 - k < n9 → ∀ ls : Array Slot, lv_has ls 6 [(3, .int (fewM f (nI O) want N M k)), (4, .int (nI k)), (0, .ref m), (1, .int (nI O)), (2, .int want)] → W pp l ee ({ frames := 6, cells := 0, slots := 0, locals := 137 }) ss mm ([.ref m, .int (nI O), .int want] : List Value).toArray bl me cd ss.heap [] 0 0 (MQ bl (vp_Si (fun r => r = fewM f (nI O) want N M (O + 1))) ([.ref m, .int (nI O), .int want] : List Value).toArray ss 0 0 (fun _ => False)) (F0 mm 6 ls []) := by
    intro n9
    induction n9 with
    | zero => intro k hk hn; exact absurd hn (Nat.not_lt_zero _)
    | succ n9 ih_6 =>
      intro k hk hn_6 ls hl
      refine lv_iload hx hb dX4_fewestOf_6 (lv_at hl 1 rfl) ?_
      refine lv_iload_n hx hb dX4_fewestOf_8 rfl (lv_at hl 3 rfl) ?_
      refine lv_icmp_gt (tgt := 74) hx hb dX4_fewestOf_9 (by decide) (fun c_9 => ?_) (fun c_9 => ?_)
      · skip
        have c_9' := Int32.not_le.mpr c_9
        have hk2 : O < k := (nI_ltI (by omega) (by omega)).mp c_9
        have hk3 : k = O + 1 := by omega
        refine lv_iload_n hx hb dX4_fewestOf_74 rfl (lv_at hl 0 rfl) ?_
        exact ro_iret hx hb hr hlk dX4_fewestOf_75 (by rw [hk3])
      · skip
        have c_9' := Int32.not_lt.mp c_9
        have hk2 : k ≤ O := (nI_leI (by omega) (by omega)).mp c_9'
        refine lv_iload hx hb dX4_fewestOf_12 (lv_at hl 1 rfl) ?_
        refine lv_iload_n hx hb dX4_fewestOf_14 rfl (lv_at hl 3 rfl) ?_
        refine lv_iconst (v := (-1)) hx hb dX4_fewestOf_15 (by decide) ?_
        refine lv_ixor hx hb dX4_fewestOf_16 ?_
        refine lv_iand hx hb dX4_fewestOf_17 ?_
        refine lv_if_ne (tgt := 43) hx hb dX4_fewestOf_18 (by decide) (fun c_18 => ?_) (fun c_18 => ?_)
        · skip
          have c_18 : subB (nI k) (nI O) = false := decide_eq_false c_18
          refine lv_iconst (v := 0) hx hb dX4_fewestOf_43 (by decide) ?_
          refine lv_istore (lv' := [(5, .int 0), (3, .int (fewM f (nI O) want N M k)), (4, .int (nI k)), (0, .ref m), (1, .int (nI O)), (2, .int want)]) hx hb dX4_fewestOf_44 hl (by decide) rfl (fun ls hl => ?_)
          refine lv_iload hx hb dX4_fewestOf_46 (lv_at hl 0 rfl) ?_
          refine lv_if_eq (tgt := 66) hx hb dX4_fewestOf_48 (by decide) (fun c_48 => ?_) (fun c_48 => ?_)
          · skip
            refine lv_iload_n hx hb dX4_fewestOf_66 rfl (lv_at hl 1 rfl) ?_
            refine lv_topi (fun x_1 ex_1 => ?_)
            refine lv_istore_n (lv' := [(3, .int x_1), (5, .int 0), (4, .int (nI k)), (0, .ref m), (1, .int (nI O)), (2, .int want)]) hx hb dX4_fewestOf_67 rfl hl (by decide) rfl (fun ls hl => ?_)
            refine lv_iinc (v := nI (k + 1)) (lv' := [(4, .int (nI (k + 1))), (3, .int x_1), (5, .int 0), (0, .ref m), (1, .int (nI O)), (2, .int want)]) hx hb dX4_fewestOf_68 hl (k := 2) rfl (nI_1 _) (by decide) rfl (fun ls hl => ?_)
            refine lv_goto (tgt := 6) hx hb dX4_fewestOf_71 (by decide) ?_
            obtain rfl : x_1 = fewM f (nI O) want N M (k + 1) := by rw [ex_1]; simp [fewM, c_9, c_9', c_18]
            exact ih_6 (k + 1) (by omega) (by omega) _ (lv_sub hl [1, 0, 3, 4, 5] rfl)
          · skip
            exact False.elim (by revert c_48; decide)
        · skip
          have c_18 : subB (nI k) (nI O) = true := decide_eq_true c_18
          refine lv_iload_n hx hb dX4_fewestOf_21 rfl (lv_at hl 0 rfl) ?_
          refine lv_ldc hx hb hown hw1 dX4_fewestOf_22 ?_
          refine lv_icmp_eq (tgt := 39) hx hb dX4_fewestOf_24 (by decide) (fun c_24 => ?_) (fun c_24 => ?_)
          · skip
            refine lv_iconst (v := 1) hx hb dX4_fewestOf_39 (by decide) ?_
            refine lv_goto (tgt := 44) hx hb dX4_fewestOf_40 (by decide) ?_
            refine lv_istore (lv' := [(5, .int 1), (3, .int (fewM f (nI O) want N M k)), (4, .int (nI k)), (0, .ref m), (1, .int (nI O)), (2, .int want)]) hx hb dX4_fewestOf_44 hl (by decide) rfl (fun ls hl => ?_)
            refine lv_iload hx hb dX4_fewestOf_46 (lv_at hl 0 rfl) ?_
            refine lv_if_eq (tgt := 66) hx hb dX4_fewestOf_48 (by decide) (fun c_48 => ?_) (fun c_48 => ?_)
            · skip
              exact False.elim (by revert c_48; decide)
            · skip
              refine lv_aload_n hx hb dX4_fewestOf_51 rfl (lv_at hl 3 rfl) ?_
              refine lv_iload hx hb dX4_fewestOf_52 (lv_at hl 2 rfl) ?_
              refine ro_calli (va_runV (As := [.int (nI k)]) (rest := []) ⟨hx, hb, hml, hown, hts⟩ (c_X4_guestsOf l G m q S f (nI k) N M (hN) (hN8) (hM) (hM5)) (cwV 1 hts gX4_fewestOf_X4_guestsOf rfl rfl rfl (by decide +kernel) ⟨Nat.le_of_ble_eq_true rfl, Nat.le_of_ble_eq_true rfl⟩) (ro_preV hK hP hP (ci := 4) (q0 := 0) rfl rfl) rfl rfl hl.1 rfl (lv_room (Nat.le_of_ble_eq_true rfl)) dX4_fewestOf_54 ⟨Nat.zero_le _, Nat.zero_le _⟩) (fun r_2 hr_2 => ?_)
              refine lz_top (y := gstM f (nI k) N M) hr_2 ?_
              refine lv_iload_n hx hb dX4_fewestOf_57 rfl (lv_at hl 5 rfl) ?_
              refine lv_icmp_ne (tgt := 66) hx hb dX4_fewestOf_58 (by decide) (fun c_58 => ?_) (fun c_58 => ?_)
              · skip
                refine lv_iload_n hx hb dX4_fewestOf_66 rfl (lv_at hl 1 rfl) ?_
                refine lv_topi (fun x_3 ex_3 => ?_)
                refine lv_istore_n (lv' := [(3, .int x_3), (5, .int 1), (4, .int (nI k)), (0, .ref m), (1, .int (nI O)), (2, .int want)]) hx hb dX4_fewestOf_67 rfl hl (by decide) rfl (fun ls hl => ?_)
                refine lv_iinc (v := nI (k + 1)) (lv' := [(4, .int (nI (k + 1))), (3, .int x_3), (5, .int 1), (0, .ref m), (1, .int (nI O)), (2, .int want)]) hx hb dX4_fewestOf_68 hl (k := 2) rfl (nI_1 _) (by decide) rfl (fun ls hl => ?_)
                refine lv_goto (tgt := 6) hx hb dX4_fewestOf_71 (by decide) ?_
                obtain rfl : x_3 = fewM f (nI O) want N M (k + 1) := by rw [ex_3]; simp [fewM, c_9, c_9', c_18, c_24, c_58]
                exact ih_6 (k + 1) (by omega) (by omega) _ (lv_sub hl [1, 0, 3, 4, 5] rfl)
              · skip
                refine lv_iload hx hb dX4_fewestOf_61 (lv_at hl 2 rfl) ?_
                refine lv_goto (tgt := 67) hx hb dX4_fewestOf_63 (by decide) ?_
                refine lv_istore_n (lv' := [(3, .int (nI k)), (5, .int 1), (4, .int (nI k)), (0, .ref m), (1, .int (nI O)), (2, .int want)]) hx hb dX4_fewestOf_67 rfl hl (by decide) rfl (fun ls hl => ?_)
                refine lv_iinc (v := nI (k + 1)) (lv' := [(4, .int (nI (k + 1))), (3, .int (nI k)), (5, .int 1), (0, .ref m), (1, .int (nI O)), (2, .int want)]) hx hb dX4_fewestOf_68 hl (k := 2) rfl (nI_1 _) (by decide) rfl (fun ls hl => ?_)
                refine lv_goto (tgt := 6) hx hb dX4_fewestOf_71 (by decide) ?_
                rw [show (nI k : Int32) = fewM f (nI O) want N M (k + 1) from by simp [fewM, c_9, c_9', c_18, c_24, c_58]] at hl
                exact ih_6 (k + 1) (by omega) (by omega) _ (lv_sub hl [1, 0, 3, 4, 5] rfl)
          · skip
            refine lv_iload hx hb dX4_fewestOf_27 (lv_at hl 1 rfl) ?_
            refine ro_calli (va_runS (As := [.int (nI k)]) (rest := []) ⟨hx, hb, hml, hown, hts⟩ (c_X4_bits l G (nI k) ) (cwS 1 hts gX4_fewestOf_X4_bits rfl rfl rfl (by decide +kernel) ⟨Nat.le_of_ble_eq_true rfl, Nat.le_of_ble_eq_true rfl⟩) (ro_pre hK (fun k q h => by simp at h)) rfl rfl hl.1 rfl (lv_room (Nat.le_of_ble_eq_true rfl)) dX4_fewestOf_29 ⟨Nat.zero_le _, Nat.zero_le _⟩) (fun r_4 hr_4 => ?_)
            refine lz_top (y := bitM (nI k)) hr_4 ?_
            refine lv_iload_n hx hb dX4_fewestOf_32 rfl (lv_at hl 0 rfl) ?_
            refine ro_calli (va_runS (As := [.int (fewM f (nI O) want N M k)]) (rest := [.int (bitM (nI k))]) ⟨hx, hb, hml, hown, hts⟩ (c_X4_bits l G (fewM f (nI O) want N M k) ) (cwS 1 hts gX4_fewestOf_X4_bits rfl rfl rfl (by decide +kernel) ⟨Nat.le_of_ble_eq_true rfl, Nat.le_of_ble_eq_true rfl⟩) (ro_pre hK (fun k q h => by simp at h)) rfl rfl hl.1 rfl (lv_room (Nat.le_of_ble_eq_true rfl)) dX4_fewestOf_33 ⟨Nat.zero_le _, Nat.zero_le _⟩) (fun r_5 hr_5 => ?_)
            refine lz_top (y := bitM (fewM f (nI O) want N M k)) hr_5 ?_
            refine lv_icmp_ge (tgt := 43) hx hb dX4_fewestOf_36 (by decide) (fun c_36 => ?_) (fun c_36 => ?_)
            · skip
              have c_36' := Int32.not_lt.mpr c_36
              refine lv_iconst (v := 0) hx hb dX4_fewestOf_43 (by decide) ?_
              refine lv_istore (lv' := [(5, .int 0), (3, .int (fewM f (nI O) want N M k)), (4, .int (nI k)), (0, .ref m), (1, .int (nI O)), (2, .int want)]) hx hb dX4_fewestOf_44 hl (by decide) rfl (fun ls hl => ?_)
              refine lv_iload hx hb dX4_fewestOf_46 (lv_at hl 0 rfl) ?_
              refine lv_if_eq (tgt := 66) hx hb dX4_fewestOf_48 (by decide) (fun c_48 => ?_) (fun c_48 => ?_)
              · skip
                refine lv_iload_n hx hb dX4_fewestOf_66 rfl (lv_at hl 1 rfl) ?_
                refine lv_topi (fun x_6 ex_6 => ?_)
                refine lv_istore_n (lv' := [(3, .int x_6), (5, .int 0), (4, .int (nI k)), (0, .ref m), (1, .int (nI O)), (2, .int want)]) hx hb dX4_fewestOf_67 rfl hl (by decide) rfl (fun ls hl => ?_)
                refine lv_iinc (v := nI (k + 1)) (lv' := [(4, .int (nI (k + 1))), (3, .int x_6), (5, .int 0), (0, .ref m), (1, .int (nI O)), (2, .int want)]) hx hb dX4_fewestOf_68 hl (k := 2) rfl (nI_1 _) (by decide) rfl (fun ls hl => ?_)
                refine lv_goto (tgt := 6) hx hb dX4_fewestOf_71 (by decide) ?_
                obtain rfl : x_6 = fewM f (nI O) want N M (k + 1) := by rw [ex_6]; simp [fewM, c_9, c_9', c_18, c_24, c_36, c_36']
                exact ih_6 (k + 1) (by omega) (by omega) _ (lv_sub hl [1, 0, 3, 4, 5] rfl)
              · skip
                exact False.elim (by revert c_48; decide)
            · skip
              have c_36' := Int32.not_le.mp c_36
              refine lv_iconst (v := 1) hx hb dX4_fewestOf_39 (by decide) ?_
              refine lv_goto (tgt := 44) hx hb dX4_fewestOf_40 (by decide) ?_
              refine lv_istore (lv' := [(5, .int 1), (3, .int (fewM f (nI O) want N M k)), (4, .int (nI k)), (0, .ref m), (1, .int (nI O)), (2, .int want)]) hx hb dX4_fewestOf_44 hl (by decide) rfl (fun ls hl => ?_)
              refine lv_iload hx hb dX4_fewestOf_46 (lv_at hl 0 rfl) ?_
              refine lv_if_eq (tgt := 66) hx hb dX4_fewestOf_48 (by decide) (fun c_48 => ?_) (fun c_48 => ?_)
              · skip
                exact False.elim (by revert c_48; decide)
              · skip
                refine lv_aload_n hx hb dX4_fewestOf_51 rfl (lv_at hl 3 rfl) ?_
                refine lv_iload hx hb dX4_fewestOf_52 (lv_at hl 2 rfl) ?_
                refine ro_calli (va_runV (As := [.int (nI k)]) (rest := []) ⟨hx, hb, hml, hown, hts⟩ (c_X4_guestsOf l G m q S f (nI k) N M (hN) (hN8) (hM) (hM5)) (cwV 1 hts gX4_fewestOf_X4_guestsOf rfl rfl rfl (by decide +kernel) ⟨Nat.le_of_ble_eq_true rfl, Nat.le_of_ble_eq_true rfl⟩) (ro_preV hK hP hP (ci := 4) (q0 := 0) rfl rfl) rfl rfl hl.1 rfl (lv_room (Nat.le_of_ble_eq_true rfl)) dX4_fewestOf_54 ⟨Nat.zero_le _, Nat.zero_le _⟩) (fun r_7 hr_7 => ?_)
                refine lz_top (y := gstM f (nI k) N M) hr_7 ?_
                refine lv_iload_n hx hb dX4_fewestOf_57 rfl (lv_at hl 5 rfl) ?_
                refine lv_icmp_ne (tgt := 66) hx hb dX4_fewestOf_58 (by decide) (fun c_58 => ?_) (fun c_58 => ?_)
                · skip
                  refine lv_iload_n hx hb dX4_fewestOf_66 rfl (lv_at hl 1 rfl) ?_
                  refine lv_topi (fun x_8 ex_8 => ?_)
                  refine lv_istore_n (lv' := [(3, .int x_8), (5, .int 1), (4, .int (nI k)), (0, .ref m), (1, .int (nI O)), (2, .int want)]) hx hb dX4_fewestOf_67 rfl hl (by decide) rfl (fun ls hl => ?_)
                  refine lv_iinc (v := nI (k + 1)) (lv' := [(4, .int (nI (k + 1))), (3, .int x_8), (5, .int 1), (0, .ref m), (1, .int (nI O)), (2, .int want)]) hx hb dX4_fewestOf_68 hl (k := 2) rfl (nI_1 _) (by decide) rfl (fun ls hl => ?_)
                  refine lv_goto (tgt := 6) hx hb dX4_fewestOf_71 (by decide) ?_
                  obtain rfl : x_8 = fewM f (nI O) want N M (k + 1) := by rw [ex_8]; simp [fewM, c_9, c_9', c_18, c_24, c_36, c_36', c_58]
                  exact ih_6 (k + 1) (by omega) (by omega) _ (lv_sub hl [1, 0, 3, 4, 5] rfl)
                · skip
                  refine lv_iload hx hb dX4_fewestOf_61 (lv_at hl 2 rfl) ?_
                  refine lv_goto (tgt := 67) hx hb dX4_fewestOf_63 (by decide) ?_
                  refine lv_istore_n (lv' := [(3, .int (nI k)), (5, .int 1), (4, .int (nI k)), (0, .ref m), (1, .int (nI O)), (2, .int want)]) hx hb dX4_fewestOf_67 rfl hl (by decide) rfl (fun ls hl => ?_)
                  refine lv_iinc (v := nI (k + 1)) (lv' := [(4, .int (nI (k + 1))), (3, .int (nI k)), (5, .int 1), (0, .ref m), (1, .int (nI O)), (2, .int want)]) hx hb dX4_fewestOf_68 hl (k := 2) rfl (nI_1 _) (by decide) rfl (fun ls hl => ?_)
                  refine lv_goto (tgt := 6) hx hb dX4_fewestOf_71 (by decide) ?_
                  rw [show (nI k : Int32) = fewM f (nI O) want N M (k + 1) from by simp [fewM, c_9, c_9', c_18, c_24, c_36, c_36', c_58]] at hl
                  exact ih_6 (k + 1) (by omega) (by omega) _ (lv_sub hl [1, 0, 3, 4, 5] rfl)
  exact J_6 _ 0 (by omega) (Nat.lt_succ_self _) _ (lv_sub hl [1, 0, 2, 3, 4] rfl)
set_option maxHeartbeats 4000000 in
set_option maxRecDepth 100000 in
theorem c_X4_allClickSo (l : Launch) (G : lzG) (m : Nat) (q : Nat → Nat) (S : Nat → Int32) (g f : Nat → Int32) (kind share : Int32) (i M : Nat) (hM : f 3 = nI M) (hM5 : M ≤ 5) (hi : i + M ≤ 320) : Met l yX4_allClickSo wsX4_allClickSo ({ frames := 2, cells := 0, slots := 0, locals := 46 }) (va_Pc [.ref m, .int kind, .int share, .int (nI i)] (roP G (lzM m q S ++ (lzI G (q 4) 320 g ++ (lzI G (q 5) 64 f))))) (vp_Si (fun r : Int32 => r = b2 (allI (fun v => decide (b2 (clkM kind share (f (44 + 4 * v)) (f (44 + 4 * v + 1))) = g (i + v))) M))) 0 0 (fun _ => False) := by
  refine ro_start (cc := cX4_allClickSo) (maxL := 6) (ret := (some .boolean)) (by decide) rfl (Nat.le_of_ble_eq_true rfl) ?_
  intro pp ee ss mm bl me cd hx hb hr hlk hml hts hown hP hK ls hl
  have hown : ss.vm.findClass RX4 = some mm.cls := hown
  have hw1 := hts (.fieldLink RX4 19 "LampSquaresModel" "door" "[I") (List.mem_of_getElem? (i := 1) rfl)
  have hw2 := hts (.fieldLink RX4 16 "LampSquaresModel" "item" "[I") (List.mem_of_getElem? (i := 2) rfl)
  have hu_wsX40 : ∀ w ∈ wsX40, w.before ([.ref m, .int kind, .int share, .int (nI i)] : List Value).toArray ss = true := fun w h9 => hts w (List.mem_cons_of_mem _ (List.mem_append_right _ h9))
  have hl : lv_has ls 6 [(0, .ref m), (1, .int kind), (2, .int share), (3, .int (nI i))] := hl
  refine lv_iconst (v := 1) hx hb dX4_allClickSo_0 (by decide) ?_
  refine lv_istore (lv' := [(4, .int 1), (0, .ref m), (1, .int kind), (2, .int share), (3, .int (nI i))]) hx hb dX4_allClickSo_1 hl (by decide) rfl (fun ls hl => ?_)
  refine lv_iconst (v := 0) hx hb dX4_allClickSo_3 (by decide) ?_
  refine lv_istore (lv' := [(5, .int 0), (4, .int 1), (0, .ref m), (1, .int kind), (2, .int share), (3, .int (nI i))]) hx hb dX4_allClickSo_4 hl (by decide) rfl (fun ls hl => ?_)
  have J_6 : ∀ (n9 : Nat), ∀ (k : Nat), (k ≤ M) → M - k < n9 → ∀ ls : Array Slot, lv_has ls 6 [(4, .int (b2 (allI (fun v => decide (b2 (clkM kind share (f (44 + 4 * v)) (f (44 + 4 * v + 1))) = g (i + v))) k))), (5, .int (nI k)), (0, .ref m), (1, .int kind), (2, .int share), (3, .int (nI i))] → W pp l ee ({ frames := 2, cells := 0, slots := 0, locals := 46 }) ss mm ([.ref m, .int kind, .int share, .int (nI i)] : List Value).toArray bl me cd ss.heap [] 0 0 (MQ bl (vp_Si (fun r : Int32 => r = b2 (allI (fun v => decide (b2 (clkM kind share (f (44 + 4 * v)) (f (44 + 4 * v + 1))) = g (i + v))) M))) ([.ref m, .int kind, .int share, .int (nI i)] : List Value).toArray ss 0 0 (fun _ => False)) (F0 mm 6 ls []) := by
    intro n9
    induction n9 with
    | zero => intro k hk hn; exact absurd hn (Nat.not_lt_zero _)
    | succ n9 ih_6 =>
      intro k hk hn_6 ls hl
      refine lv_iload hx hb dX4_allClickSo_6 (lv_at hl 1 rfl) ?_
      refine lv_aload_n hx hb dX4_allClickSo_8 rfl (lv_at hl 2 rfl) ?_
      refine lz_get (G := G) (ci := 4) (v := .ref (q 5)) (C := RX4) (T := TX4) (N := 24) hx hb hu_wsX40 (fun _ h9 => h9) hown hK hP 0 rfl rfl 5 (by decide) hw1 rfl rfl dX4_allClickSo_9 ?_
      refine lv_iconst (v := 3) hx hb dX4_allClickSo_12 (by decide) ?_
      refine lz_iald (f := f) hx hb hK hP 2 rfl 3 (by omega) (Nat.le_of_ble_eq_true rfl) dX4_allClickSo_13 ?_
      refine lv_icmp_ge (tgt := 80) hx hb dX4_allClickSo_14 (by decide) (fun c_14 => ?_) (fun c_14 => ?_)
      · skip
        have c_14' := Int32.not_lt.mpr c_14
        have hk2 : M ≤ k := lz_ge hM c_14 (by omega) (by omega)
        obtain rfl : k = M := by omega
        refine lv_iload hx hb dX4_allClickSo_80 (lv_at hl 0 rfl) ?_
        exact ro_zret hx hb hr hlk dX4_allClickSo_82 (rfl)
      · skip
        have c_14' := Int32.not_le.mp c_14
        have hk2 : k < M := lz_lt hM c_14 (by omega) (by omega)
        refine lv_iload hx hb dX4_allClickSo_17 (lv_at hl 0 rfl) ?_
        refine lv_if_eq (tgt := 71) hx hb dX4_allClickSo_19 (by decide) (fun c_19 => ?_) (fun c_19 => ?_)
        · skip
          have c_19 := b2_z rfl c_19
          refine lv_iconst (v := 0) hx hb dX4_allClickSo_71 (by decide) ?_
          refine lv_istore (lv' := [(4, .int 0), (5, .int (nI k)), (0, .ref m), (1, .int kind), (2, .int share), (3, .int (nI i))]) hx hb dX4_allClickSo_72 hl (by decide) rfl (fun ls hl => ?_)
          refine lv_iinc (v := nI (k + 1)) (lv' := [(5, .int (nI (k + 1))), (4, .int 0), (0, .ref m), (1, .int kind), (2, .int share), (3, .int (nI i))]) hx hb dX4_allClickSo_74 hl (k := 1) rfl (nI_1 _) (by decide) rfl (fun ls hl => ?_)
          refine lv_goto (tgt := 6) hx hb dX4_allClickSo_77 (by decide) ?_
          rw [show (0 : Int32) = b2 (allI (fun v => decide (b2 (clkM kind share (f (44 + 4 * v)) (f (44 + 4 * v + 1))) = g (i + v))) (k + 1)) from by show _ = b2 (allI _ k && _); rw [c_19]; simp [b2, c_14, c_14', c_19]] at hl
          exact ih_6 (k + 1) (by omega) (by omega) _ (lv_sub hl [1, 0, 2, 3, 4, 5] rfl)
        · skip
          have c_19 := b2_n rfl c_19
          refine lv_iload_n hx hb dX4_allClickSo_22 rfl (lv_at hl 3 rfl) ?_
          refine lv_iload_n hx hb dX4_allClickSo_23 rfl (lv_at hl 4 rfl) ?_
          refine lv_aload_n hx hb dX4_allClickSo_24 rfl (lv_at hl 2 rfl) ?_
          refine lz_get (G := G) (ci := 4) (v := .ref (q 5)) (C := RX4) (T := TX4) (N := 24) hx hb hu_wsX40 (fun _ h9 => h9) hown hK hP 0 rfl rfl 5 (by decide) hw1 rfl rfl dX4_allClickSo_25 ?_
          refine lv_iload hx hb dX4_allClickSo_28 (lv_at hl 1 rfl) ?_
          refine lv_iconst (v := 0) hx hb dX4_allClickSo_30 (by decide) ?_
          have hPc := hP.sub (ws' := lzI G (q 5) 64 f) [2] rfl
          refine ro_calli (va_runS (As := [.ref (q 5), .int (nI k), .int 0]) (rest := [.int share, .int kind]) ⟨hx, hb, hml, hown, hts⟩ (c_X4_guest l G (q 5) f k 0 (by omega) (by decide)) (cwS 3 hts gX4_allClickSo_X4_guest rfl rfl rfl (by decide +kernel) ⟨Nat.le_of_ble_eq_true rfl, Nat.le_of_ble_eq_true rfl⟩) (ro_pre hK hPc) rfl rfl hl.1 rfl (lv_room (Nat.le_of_ble_eq_true rfl)) dX4_allClickSo_31 ⟨Nat.zero_le _, Nat.zero_le _⟩) (fun r_1 hr_1 => ?_)
          refine lz_top (y := f (44 + 4 * k)) hr_1 ?_
          refine lv_aload_n hx hb dX4_allClickSo_34 rfl (lv_at hl 2 rfl) ?_
          refine lz_get (G := G) (ci := 4) (v := .ref (q 5)) (C := RX4) (T := TX4) (N := 24) hx hb hu_wsX40 (fun _ h9 => h9) hown hK hP 0 rfl rfl 5 (by decide) hw1 rfl rfl dX4_allClickSo_35 ?_
          refine lv_iload hx hb dX4_allClickSo_38 (lv_at hl 1 rfl) ?_
          refine lv_iconst (v := 1) hx hb dX4_allClickSo_40 (by decide) ?_
          have hPc := hP.sub (ws' := lzI G (q 5) 64 f) [2] rfl
          refine ro_calli (va_runS (As := [.ref (q 5), .int (nI k), .int 1]) (rest := [.int (f (44 + 4 * k)), .int share, .int kind]) ⟨hx, hb, hml, hown, hts⟩ (c_X4_guest l G (q 5) f k 1 (by omega) (by decide)) (cwS 3 hts gX4_allClickSo_X4_guest rfl rfl rfl (by decide +kernel) ⟨Nat.le_of_ble_eq_true rfl, Nat.le_of_ble_eq_true rfl⟩) (ro_pre hK hPc) rfl rfl hl.1 rfl (lv_room (Nat.le_of_ble_eq_true rfl)) dX4_allClickSo_41 ⟨Nat.zero_le _, Nat.zero_le _⟩) (fun r_2 hr_2 => ?_)
          refine lz_top (y := f (44 + 4 * k + 1)) hr_2 ?_
          refine ro_calli (va_runS (As := [.int kind, .int share, .int (f (44 + 4 * k)), .int (f (44 + 4 * k + 1))]) (rest := []) ⟨hx, hb, hml, hown, hts⟩ (c_X4_clicksBy l G kind share (f (44 + 4 * k)) (f (44 + 4 * k + 1)) ) (cwS 4 hts gX4_allClickSo_X4_clicksBy rfl rfl rfl (by decide +kernel) ⟨Nat.le_of_ble_eq_true rfl, Nat.le_of_ble_eq_true rfl⟩) (ro_pre hK (fun k q h => by simp at h)) rfl rfl hl.1 rfl (lv_room (Nat.le_of_ble_eq_true rfl)) dX4_allClickSo_44 ⟨Nat.zero_le _, Nat.zero_le _⟩) (fun r_3 hr_3 => ?_)
          refine lv_if_eq (tgt := 54) hx hb dX4_allClickSo_47 (by decide) (fun c_47 => ?_) (fun c_47 => ?_)
          · skip
            have c_47 := b2_z hr_3 c_47
            refine lv_iconst (v := 0) hx hb dX4_allClickSo_54 (by decide) ?_
            refine lv_aload_n hx hb dX4_allClickSo_55 rfl (lv_at hl 2 rfl) ?_
            refine lz_get (G := G) (ci := 4) (v := .ref (q 4)) (C := RX4) (T := TX4) (N := 24) hx hb hu_wsX40 (fun _ h9 => h9) hown hK hP 0 rfl rfl 4 (by decide) hw2 rfl rfl dX4_allClickSo_56 ?_
            refine lv_iload_n hx hb dX4_allClickSo_59 rfl (lv_at hl 5 rfl) ?_
            refine lv_iload hx hb dX4_allClickSo_60 (lv_at hl 1 rfl) ?_
            refine lv_iadd hx hb dX4_allClickSo_62 ?_
            refine lz_top (y := nI (i + k)) (nI_add _ _) ?_
            refine lz_iald (f := g) hx hb hK hP 1 rfl (i + k) (by omega) (Nat.le_of_ble_eq_true rfl) dX4_allClickSo_63 ?_
            refine lv_icmp_ne (tgt := 71) hx hb dX4_allClickSo_64 (by decide) (fun c_64 => ?_) (fun c_64 => ?_)
            · skip
              refine lv_iconst (v := 0) hx hb dX4_allClickSo_71 (by decide) ?_
              refine lv_istore (lv' := [(4, .int 0), (5, .int (nI k)), (0, .ref m), (1, .int kind), (2, .int share), (3, .int (nI i))]) hx hb dX4_allClickSo_72 hl (by decide) rfl (fun ls hl => ?_)
              refine lv_iinc (v := nI (k + 1)) (lv' := [(5, .int (nI (k + 1))), (4, .int 0), (0, .ref m), (1, .int kind), (2, .int share), (3, .int (nI i))]) hx hb dX4_allClickSo_74 hl (k := 1) rfl (nI_1 _) (by decide) rfl (fun ls hl => ?_)
              refine lv_goto (tgt := 6) hx hb dX4_allClickSo_77 (by decide) ?_
              rw [show (0 : Int32) = b2 (allI (fun v => decide (b2 (clkM kind share (f (44 + 4 * v)) (f (44 + 4 * v + 1))) = g (i + v))) (k + 1)) from by show _ = b2 (allI _ k && _); rw [c_19]; simp [b2, c_14, c_14', c_19, c_47, c_64]] at hl
              exact ih_6 (k + 1) (by omega) (by omega) _ (lv_sub hl [1, 0, 2, 3, 4, 5] rfl)
            · skip
              refine lv_iconst (v := 1) hx hb dX4_allClickSo_67 (by decide) ?_
              refine lv_goto (tgt := 72) hx hb dX4_allClickSo_68 (by decide) ?_
              refine lv_istore (lv' := [(4, .int 1), (5, .int (nI k)), (0, .ref m), (1, .int kind), (2, .int share), (3, .int (nI i))]) hx hb dX4_allClickSo_72 hl (by decide) rfl (fun ls hl => ?_)
              refine lv_iinc (v := nI (k + 1)) (lv' := [(5, .int (nI (k + 1))), (4, .int 1), (0, .ref m), (1, .int kind), (2, .int share), (3, .int (nI i))]) hx hb dX4_allClickSo_74 hl (k := 1) rfl (nI_1 _) (by decide) rfl (fun ls hl => ?_)
              refine lv_goto (tgt := 6) hx hb dX4_allClickSo_77 (by decide) ?_
              rw [show (1 : Int32) = b2 (allI (fun v => decide (b2 (clkM kind share (f (44 + 4 * v)) (f (44 + 4 * v + 1))) = g (i + v))) (k + 1)) from by show _ = b2 (allI _ k && _); rw [c_19]; simp [b2, c_14, c_14', c_19, c_47, c_64.symm]] at hl
              exact ih_6 (k + 1) (by omega) (by omega) _ (lv_sub hl [1, 0, 2, 3, 4, 5] rfl)
          · skip
            have c_47 := b2_n hr_3 c_47
            refine lv_iconst (v := 1) hx hb dX4_allClickSo_50 (by decide) ?_
            refine lv_goto (tgt := 55) hx hb dX4_allClickSo_51 (by decide) ?_
            refine lv_aload_n hx hb dX4_allClickSo_55 rfl (lv_at hl 2 rfl) ?_
            refine lz_get (G := G) (ci := 4) (v := .ref (q 4)) (C := RX4) (T := TX4) (N := 24) hx hb hu_wsX40 (fun _ h9 => h9) hown hK hP 0 rfl rfl 4 (by decide) hw2 rfl rfl dX4_allClickSo_56 ?_
            refine lv_iload_n hx hb dX4_allClickSo_59 rfl (lv_at hl 5 rfl) ?_
            refine lv_iload hx hb dX4_allClickSo_60 (lv_at hl 1 rfl) ?_
            refine lv_iadd hx hb dX4_allClickSo_62 ?_
            refine lz_top (y := nI (i + k)) (nI_add _ _) ?_
            refine lz_iald (f := g) hx hb hK hP 1 rfl (i + k) (by omega) (Nat.le_of_ble_eq_true rfl) dX4_allClickSo_63 ?_
            refine lv_icmp_ne (tgt := 71) hx hb dX4_allClickSo_64 (by decide) (fun c_64 => ?_) (fun c_64 => ?_)
            · skip
              refine lv_iconst (v := 0) hx hb dX4_allClickSo_71 (by decide) ?_
              refine lv_istore (lv' := [(4, .int 0), (5, .int (nI k)), (0, .ref m), (1, .int kind), (2, .int share), (3, .int (nI i))]) hx hb dX4_allClickSo_72 hl (by decide) rfl (fun ls hl => ?_)
              refine lv_iinc (v := nI (k + 1)) (lv' := [(5, .int (nI (k + 1))), (4, .int 0), (0, .ref m), (1, .int kind), (2, .int share), (3, .int (nI i))]) hx hb dX4_allClickSo_74 hl (k := 1) rfl (nI_1 _) (by decide) rfl (fun ls hl => ?_)
              refine lv_goto (tgt := 6) hx hb dX4_allClickSo_77 (by decide) ?_
              rw [show (0 : Int32) = b2 (allI (fun v => decide (b2 (clkM kind share (f (44 + 4 * v)) (f (44 + 4 * v + 1))) = g (i + v))) (k + 1)) from by show _ = b2 (allI _ k && _); rw [c_19]; simp [b2, c_14, c_14', c_19, c_47, c_64]] at hl
              exact ih_6 (k + 1) (by omega) (by omega) _ (lv_sub hl [1, 0, 2, 3, 4, 5] rfl)
            · skip
              refine lv_iconst (v := 1) hx hb dX4_allClickSo_67 (by decide) ?_
              refine lv_goto (tgt := 72) hx hb dX4_allClickSo_68 (by decide) ?_
              refine lv_istore (lv' := [(4, .int 1), (5, .int (nI k)), (0, .ref m), (1, .int kind), (2, .int share), (3, .int (nI i))]) hx hb dX4_allClickSo_72 hl (by decide) rfl (fun ls hl => ?_)
              refine lv_iinc (v := nI (k + 1)) (lv' := [(5, .int (nI (k + 1))), (4, .int 1), (0, .ref m), (1, .int kind), (2, .int share), (3, .int (nI i))]) hx hb dX4_allClickSo_74 hl (k := 1) rfl (nI_1 _) (by decide) rfl (fun ls hl => ?_)
              refine lv_goto (tgt := 6) hx hb dX4_allClickSo_77 (by decide) ?_
              rw [show (1 : Int32) = b2 (allI (fun v => decide (b2 (clkM kind share (f (44 + 4 * v)) (f (44 + 4 * v + 1))) = g (i + v))) (k + 1)) from by show _ = b2 (allI _ k && _); rw [c_19]; simp [b2, c_14, c_14', c_19, c_47, c_64.symm]] at hl
              exact ih_6 (k + 1) (by omega) (by omega) _ (lv_sub hl [1, 0, 2, 3, 4, 5] rfl)
  exact J_6 _ 0 (by omega) (Nat.lt_succ_self _) _ (lv_sub hl [1, 0, 2, 3, 4, 5] rfl)
set_option maxHeartbeats 4000000 in
set_option maxRecDepth 100000 in
theorem c_X4_clicksSo (l : Launch) (G : lzG) (m : Nat) (q : Nat → Nat) (S : Nat → Int32) (g f : Nat → Int32) (care ear : Int32) (i N : Nat) (hN : f 2 = nI N) (hN8 : N ≤ 8) (hi : i + N ≤ 320) : Met l yX4_clicksSo wsX4_clicksSo ({ frames := 2, cells := 0, slots := 0, locals := 46 }) (va_Pc [.ref m, .int care, .int ear, .int (nI i)] (roP G (lzM m q S ++ (lzI G (q 4) 320 g ++ (lzI G (q 5) 64 f))))) (vp_Si (fun r : Int32 => r = b2 (allI (fun z => decide (b2 (clkM (f (4 + 5 * z)) (f (4 + 5 * z + 1)) care ear) = g (i + z))) N))) 0 0 (fun _ => False) := by
  refine ro_start (cc := cX4_clicksSo) (maxL := 6) (ret := (some .boolean)) (by decide) rfl (Nat.le_of_ble_eq_true rfl) ?_
  intro pp ee ss mm bl me cd hx hb hr hlk hml hts hown hP hK ls hl
  have hown : ss.vm.findClass RX4 = some mm.cls := hown
  have hw1 := hts (.fieldLink RX4 19 "LampSquaresModel" "door" "[I") (List.mem_of_getElem? (i := 1) rfl)
  have hw2 := hts (.fieldLink RX4 16 "LampSquaresModel" "item" "[I") (List.mem_of_getElem? (i := 2) rfl)
  have hu_wsX40 : ∀ w ∈ wsX40, w.before ([.ref m, .int care, .int ear, .int (nI i)] : List Value).toArray ss = true := fun w h9 => hts w (List.mem_cons_of_mem _ (List.mem_append_right _ h9))
  have hl : lv_has ls 6 [(0, .ref m), (1, .int care), (2, .int ear), (3, .int (nI i))] := hl
  refine lv_iconst (v := 1) hx hb dX4_clicksSo_0 (by decide) ?_
  refine lv_istore (lv' := [(4, .int 1), (0, .ref m), (1, .int care), (2, .int ear), (3, .int (nI i))]) hx hb dX4_clicksSo_1 hl (by decide) rfl (fun ls hl => ?_)
  refine lv_iconst (v := 0) hx hb dX4_clicksSo_3 (by decide) ?_
  refine lv_istore (lv' := [(5, .int 0), (4, .int 1), (0, .ref m), (1, .int care), (2, .int ear), (3, .int (nI i))]) hx hb dX4_clicksSo_4 hl (by decide) rfl (fun ls hl => ?_)
  have J_6 : ∀ (n9 : Nat), ∀ (k : Nat), (k ≤ N) → N - k < n9 → ∀ ls : Array Slot, lv_has ls 6 [(4, .int (b2 (allI (fun z => decide (b2 (clkM (f (4 + 5 * z)) (f (4 + 5 * z + 1)) care ear) = g (i + z))) k))), (5, .int (nI k)), (0, .ref m), (1, .int care), (2, .int ear), (3, .int (nI i))] → W pp l ee ({ frames := 2, cells := 0, slots := 0, locals := 46 }) ss mm ([.ref m, .int care, .int ear, .int (nI i)] : List Value).toArray bl me cd ss.heap [] 0 0 (MQ bl (vp_Si (fun r : Int32 => r = b2 (allI (fun z => decide (b2 (clkM (f (4 + 5 * z)) (f (4 + 5 * z + 1)) care ear) = g (i + z))) N))) ([.ref m, .int care, .int ear, .int (nI i)] : List Value).toArray ss 0 0 (fun _ => False)) (F0 mm 6 ls []) := by
    intro n9
    induction n9 with
    | zero => intro k hk hn; exact absurd hn (Nat.not_lt_zero _)
    | succ n9 ih_6 =>
      intro k hk hn_6 ls hl
      refine lv_iload hx hb dX4_clicksSo_6 (lv_at hl 1 rfl) ?_
      refine lv_aload_n hx hb dX4_clicksSo_8 rfl (lv_at hl 2 rfl) ?_
      refine lz_get (G := G) (ci := 4) (v := .ref (q 5)) (C := RX4) (T := TX4) (N := 24) hx hb hu_wsX40 (fun _ h9 => h9) hown hK hP 0 rfl rfl 5 (by decide) hw1 rfl rfl dX4_clicksSo_9 ?_
      refine lv_iconst (v := 2) hx hb dX4_clicksSo_12 (by decide) ?_
      refine lz_iald (f := f) hx hb hK hP 2 rfl 2 (by omega) (Nat.le_of_ble_eq_true rfl) dX4_clicksSo_13 ?_
      refine lv_icmp_ge (tgt := 80) hx hb dX4_clicksSo_14 (by decide) (fun c_14 => ?_) (fun c_14 => ?_)
      · skip
        have c_14' := Int32.not_lt.mpr c_14
        have hk2 : N ≤ k := lz_ge hN c_14 (by omega) (by omega)
        obtain rfl : k = N := by omega
        refine lv_iload hx hb dX4_clicksSo_80 (lv_at hl 0 rfl) ?_
        exact ro_zret hx hb hr hlk dX4_clicksSo_82 (rfl)
      · skip
        have c_14' := Int32.not_le.mp c_14
        have hk2 : k < N := lz_lt hN c_14 (by omega) (by omega)
        refine lv_iload hx hb dX4_clicksSo_17 (lv_at hl 0 rfl) ?_
        refine lv_if_eq (tgt := 71) hx hb dX4_clicksSo_19 (by decide) (fun c_19 => ?_) (fun c_19 => ?_)
        · skip
          have c_19 := b2_z rfl c_19
          refine lv_iconst (v := 0) hx hb dX4_clicksSo_71 (by decide) ?_
          refine lv_istore (lv' := [(4, .int 0), (5, .int (nI k)), (0, .ref m), (1, .int care), (2, .int ear), (3, .int (nI i))]) hx hb dX4_clicksSo_72 hl (by decide) rfl (fun ls hl => ?_)
          refine lv_iinc (v := nI (k + 1)) (lv' := [(5, .int (nI (k + 1))), (4, .int 0), (0, .ref m), (1, .int care), (2, .int ear), (3, .int (nI i))]) hx hb dX4_clicksSo_74 hl (k := 1) rfl (nI_1 _) (by decide) rfl (fun ls hl => ?_)
          refine lv_goto (tgt := 6) hx hb dX4_clicksSo_77 (by decide) ?_
          rw [show (0 : Int32) = b2 (allI (fun z => decide (b2 (clkM (f (4 + 5 * z)) (f (4 + 5 * z + 1)) care ear) = g (i + z))) (k + 1)) from by show _ = b2 (allI _ k && _); rw [c_19]; simp [b2, c_14, c_14', c_19]] at hl
          exact ih_6 (k + 1) (by omega) (by omega) _ (lv_sub hl [1, 0, 2, 3, 4, 5] rfl)
        · skip
          have c_19 := b2_n rfl c_19
          refine lv_aload_n hx hb dX4_clicksSo_22 rfl (lv_at hl 2 rfl) ?_
          refine lz_get (G := G) (ci := 4) (v := .ref (q 5)) (C := RX4) (T := TX4) (N := 24) hx hb hu_wsX40 (fun _ h9 => h9) hown hK hP 0 rfl rfl 5 (by decide) hw1 rfl rfl dX4_clicksSo_23 ?_
          refine lv_iload hx hb dX4_clicksSo_26 (lv_at hl 1 rfl) ?_
          refine lv_iconst (v := 0) hx hb dX4_clicksSo_28 (by decide) ?_
          have hPc := hP.sub (ws' := lzI G (q 5) 64 f) [2] rfl
          refine ro_calli (va_runS (As := [.ref (q 5), .int (nI k), .int 0]) (rest := []) ⟨hx, hb, hml, hown, hts⟩ (c_X4_of l G (q 5) f k 0 (by omega) (by decide)) (cwS 3 hts gX4_clicksSo_X4_of rfl rfl rfl (by decide +kernel) ⟨Nat.le_of_ble_eq_true rfl, Nat.le_of_ble_eq_true rfl⟩) (ro_pre hK hPc) rfl rfl hl.1 rfl (lv_room (Nat.le_of_ble_eq_true rfl)) dX4_clicksSo_29 ⟨Nat.zero_le _, Nat.zero_le _⟩) (fun r_1 hr_1 => ?_)
          refine lz_top (y := f (4 + 5 * k)) hr_1 ?_
          refine lv_aload_n hx hb dX4_clicksSo_32 rfl (lv_at hl 2 rfl) ?_
          refine lz_get (G := G) (ci := 4) (v := .ref (q 5)) (C := RX4) (T := TX4) (N := 24) hx hb hu_wsX40 (fun _ h9 => h9) hown hK hP 0 rfl rfl 5 (by decide) hw1 rfl rfl dX4_clicksSo_33 ?_
          refine lv_iload hx hb dX4_clicksSo_36 (lv_at hl 1 rfl) ?_
          refine lv_iconst (v := 1) hx hb dX4_clicksSo_38 (by decide) ?_
          have hPc := hP.sub (ws' := lzI G (q 5) 64 f) [2] rfl
          refine ro_calli (va_runS (As := [.ref (q 5), .int (nI k), .int 1]) (rest := [.int (f (4 + 5 * k))]) ⟨hx, hb, hml, hown, hts⟩ (c_X4_of l G (q 5) f k 1 (by omega) (by decide)) (cwS 3 hts gX4_clicksSo_X4_of rfl rfl rfl (by decide +kernel) ⟨Nat.le_of_ble_eq_true rfl, Nat.le_of_ble_eq_true rfl⟩) (ro_pre hK hPc) rfl rfl hl.1 rfl (lv_room (Nat.le_of_ble_eq_true rfl)) dX4_clicksSo_39 ⟨Nat.zero_le _, Nat.zero_le _⟩) (fun r_2 hr_2 => ?_)
          refine lz_top (y := f (4 + 5 * k + 1)) hr_2 ?_
          refine lv_iload_n hx hb dX4_clicksSo_42 rfl (lv_at hl 3 rfl) ?_
          refine lv_iload_n hx hb dX4_clicksSo_43 rfl (lv_at hl 4 rfl) ?_
          refine ro_calli (va_runS (As := [.int (f (4 + 5 * k)), .int (f (4 + 5 * k + 1)), .int care, .int ear]) (rest := []) ⟨hx, hb, hml, hown, hts⟩ (c_X4_clicksBy l G (f (4 + 5 * k)) (f (4 + 5 * k + 1)) care ear ) (cwS 4 hts gX4_clicksSo_X4_clicksBy rfl rfl rfl (by decide +kernel) ⟨Nat.le_of_ble_eq_true rfl, Nat.le_of_ble_eq_true rfl⟩) (ro_pre hK (fun k q h => by simp at h)) rfl rfl hl.1 rfl (lv_room (Nat.le_of_ble_eq_true rfl)) dX4_clicksSo_44 ⟨Nat.zero_le _, Nat.zero_le _⟩) (fun r_3 hr_3 => ?_)
          refine lv_if_eq (tgt := 54) hx hb dX4_clicksSo_47 (by decide) (fun c_47 => ?_) (fun c_47 => ?_)
          · skip
            have c_47 := b2_z hr_3 c_47
            refine lv_iconst (v := 0) hx hb dX4_clicksSo_54 (by decide) ?_
            refine lv_aload_n hx hb dX4_clicksSo_55 rfl (lv_at hl 2 rfl) ?_
            refine lz_get (G := G) (ci := 4) (v := .ref (q 4)) (C := RX4) (T := TX4) (N := 24) hx hb hu_wsX40 (fun _ h9 => h9) hown hK hP 0 rfl rfl 4 (by decide) hw2 rfl rfl dX4_clicksSo_56 ?_
            refine lv_iload_n hx hb dX4_clicksSo_59 rfl (lv_at hl 5 rfl) ?_
            refine lv_iload hx hb dX4_clicksSo_60 (lv_at hl 1 rfl) ?_
            refine lv_iadd hx hb dX4_clicksSo_62 ?_
            refine lz_top (y := nI (i + k)) (nI_add _ _) ?_
            refine lz_iald (f := g) hx hb hK hP 1 rfl (i + k) (by omega) (Nat.le_of_ble_eq_true rfl) dX4_clicksSo_63 ?_
            refine lv_icmp_ne (tgt := 71) hx hb dX4_clicksSo_64 (by decide) (fun c_64 => ?_) (fun c_64 => ?_)
            · skip
              refine lv_iconst (v := 0) hx hb dX4_clicksSo_71 (by decide) ?_
              refine lv_istore (lv' := [(4, .int 0), (5, .int (nI k)), (0, .ref m), (1, .int care), (2, .int ear), (3, .int (nI i))]) hx hb dX4_clicksSo_72 hl (by decide) rfl (fun ls hl => ?_)
              refine lv_iinc (v := nI (k + 1)) (lv' := [(5, .int (nI (k + 1))), (4, .int 0), (0, .ref m), (1, .int care), (2, .int ear), (3, .int (nI i))]) hx hb dX4_clicksSo_74 hl (k := 1) rfl (nI_1 _) (by decide) rfl (fun ls hl => ?_)
              refine lv_goto (tgt := 6) hx hb dX4_clicksSo_77 (by decide) ?_
              rw [show (0 : Int32) = b2 (allI (fun z => decide (b2 (clkM (f (4 + 5 * z)) (f (4 + 5 * z + 1)) care ear) = g (i + z))) (k + 1)) from by show _ = b2 (allI _ k && _); rw [c_19]; simp [b2, c_14, c_14', c_19, c_47, c_64]] at hl
              exact ih_6 (k + 1) (by omega) (by omega) _ (lv_sub hl [1, 0, 2, 3, 4, 5] rfl)
            · skip
              refine lv_iconst (v := 1) hx hb dX4_clicksSo_67 (by decide) ?_
              refine lv_goto (tgt := 72) hx hb dX4_clicksSo_68 (by decide) ?_
              refine lv_istore (lv' := [(4, .int 1), (5, .int (nI k)), (0, .ref m), (1, .int care), (2, .int ear), (3, .int (nI i))]) hx hb dX4_clicksSo_72 hl (by decide) rfl (fun ls hl => ?_)
              refine lv_iinc (v := nI (k + 1)) (lv' := [(5, .int (nI (k + 1))), (4, .int 1), (0, .ref m), (1, .int care), (2, .int ear), (3, .int (nI i))]) hx hb dX4_clicksSo_74 hl (k := 1) rfl (nI_1 _) (by decide) rfl (fun ls hl => ?_)
              refine lv_goto (tgt := 6) hx hb dX4_clicksSo_77 (by decide) ?_
              rw [show (1 : Int32) = b2 (allI (fun z => decide (b2 (clkM (f (4 + 5 * z)) (f (4 + 5 * z + 1)) care ear) = g (i + z))) (k + 1)) from by show _ = b2 (allI _ k && _); rw [c_19]; simp [b2, c_14, c_14', c_19, c_47, c_64.symm]] at hl
              exact ih_6 (k + 1) (by omega) (by omega) _ (lv_sub hl [1, 0, 2, 3, 4, 5] rfl)
          · skip
            have c_47 := b2_n hr_3 c_47
            refine lv_iconst (v := 1) hx hb dX4_clicksSo_50 (by decide) ?_
            refine lv_goto (tgt := 55) hx hb dX4_clicksSo_51 (by decide) ?_
            refine lv_aload_n hx hb dX4_clicksSo_55 rfl (lv_at hl 2 rfl) ?_
            refine lz_get (G := G) (ci := 4) (v := .ref (q 4)) (C := RX4) (T := TX4) (N := 24) hx hb hu_wsX40 (fun _ h9 => h9) hown hK hP 0 rfl rfl 4 (by decide) hw2 rfl rfl dX4_clicksSo_56 ?_
            refine lv_iload_n hx hb dX4_clicksSo_59 rfl (lv_at hl 5 rfl) ?_
            refine lv_iload hx hb dX4_clicksSo_60 (lv_at hl 1 rfl) ?_
            refine lv_iadd hx hb dX4_clicksSo_62 ?_
            refine lz_top (y := nI (i + k)) (nI_add _ _) ?_
            refine lz_iald (f := g) hx hb hK hP 1 rfl (i + k) (by omega) (Nat.le_of_ble_eq_true rfl) dX4_clicksSo_63 ?_
            refine lv_icmp_ne (tgt := 71) hx hb dX4_clicksSo_64 (by decide) (fun c_64 => ?_) (fun c_64 => ?_)
            · skip
              refine lv_iconst (v := 0) hx hb dX4_clicksSo_71 (by decide) ?_
              refine lv_istore (lv' := [(4, .int 0), (5, .int (nI k)), (0, .ref m), (1, .int care), (2, .int ear), (3, .int (nI i))]) hx hb dX4_clicksSo_72 hl (by decide) rfl (fun ls hl => ?_)
              refine lv_iinc (v := nI (k + 1)) (lv' := [(5, .int (nI (k + 1))), (4, .int 0), (0, .ref m), (1, .int care), (2, .int ear), (3, .int (nI i))]) hx hb dX4_clicksSo_74 hl (k := 1) rfl (nI_1 _) (by decide) rfl (fun ls hl => ?_)
              refine lv_goto (tgt := 6) hx hb dX4_clicksSo_77 (by decide) ?_
              rw [show (0 : Int32) = b2 (allI (fun z => decide (b2 (clkM (f (4 + 5 * z)) (f (4 + 5 * z + 1)) care ear) = g (i + z))) (k + 1)) from by show _ = b2 (allI _ k && _); rw [c_19]; simp [b2, c_14, c_14', c_19, c_47, c_64]] at hl
              exact ih_6 (k + 1) (by omega) (by omega) _ (lv_sub hl [1, 0, 2, 3, 4, 5] rfl)
            · skip
              refine lv_iconst (v := 1) hx hb dX4_clicksSo_67 (by decide) ?_
              refine lv_goto (tgt := 72) hx hb dX4_clicksSo_68 (by decide) ?_
              refine lv_istore (lv' := [(4, .int 1), (5, .int (nI k)), (0, .ref m), (1, .int care), (2, .int ear), (3, .int (nI i))]) hx hb dX4_clicksSo_72 hl (by decide) rfl (fun ls hl => ?_)
              refine lv_iinc (v := nI (k + 1)) (lv' := [(5, .int (nI (k + 1))), (4, .int 1), (0, .ref m), (1, .int care), (2, .int ear), (3, .int (nI i))]) hx hb dX4_clicksSo_74 hl (k := 1) rfl (nI_1 _) (by decide) rfl (fun ls hl => ?_)
              refine lv_goto (tgt := 6) hx hb dX4_clicksSo_77 (by decide) ?_
              rw [show (1 : Int32) = b2 (allI (fun z => decide (b2 (clkM (f (4 + 5 * z)) (f (4 + 5 * z + 1)) care ear) = g (i + z))) (k + 1)) from by show _ = b2 (allI _ k && _); rw [c_19]; simp [b2, c_14, c_14', c_19, c_47, c_64.symm]] at hl
              exact ih_6 (k + 1) (by omega) (by omega) _ (lv_sub hl [1, 0, 2, 3, 4, 5] rfl)
  exact J_6 _ 0 (by omega) (Nat.lt_succ_self _) _ (lv_sub hl [1, 0, 2, 3, 4, 5] rfl)
set_option maxHeartbeats 4000000 in
set_option maxRecDepth 100000 in
theorem c_X4_kindBy (l : Launch) (G : lzG) (x : Int32)  : Met l yX4_kindBy wsX4_kindBy ({ frames := 0, cells := 0, slots := 0, locals := 0 }) (va_Pc [.int x] (roP G ([] : va_W))) (vp_Si (fun r => r = kindB x)) 0 0 (fun _ => False) := by
  refine ro_start (cc := cX4_kindBy) (maxL := 1) (ret := (some .int)) (by decide) rfl (Nat.le_of_ble_eq_true rfl) ?_
  intro pp ee ss mm bl me cd hx hb hr hlk hml hts hown hP hK ls hl
  have hown : ss.vm.findClass RX4 = some mm.cls := hown
  have hw1 := hts (.constant RX4 91 (-1000000)) (List.mem_of_getElem? (i := 1) rfl)
  have hl : lv_has ls 1 [(0, .int x)] := hl
  refine lv_iload_n hx hb dX4_kindBy_0 rfl (lv_at hl 0 rfl) ?_
  refine lv_bipush (v := 107) hx hb dX4_kindBy_1 (by decide) ?_
  refine lv_icmp_ne (tgt := 10) hx hb dX4_kindBy_3 (by decide) (fun c_3 => ?_) (fun c_3 => ?_)
  · skip
    refine lv_iload_n hx hb dX4_kindBy_10 rfl (lv_at hl 0 rfl) ?_
    refine lv_bipush (v := 101) hx hb dX4_kindBy_11 (by decide) ?_
    refine lv_icmp_ne (tgt := 20) hx hb dX4_kindBy_13 (by decide) (fun c_13 => ?_) (fun c_13 => ?_)
    · skip
      refine lv_iload_n hx hb dX4_kindBy_20 rfl (lv_at hl 0 rfl) ?_
      refine lv_bipush (v := 99) hx hb dX4_kindBy_21 (by decide) ?_
      refine lv_icmp_ne (tgt := 30) hx hb dX4_kindBy_23 (by decide) (fun c_23 => ?_) (fun c_23 => ?_)
      · skip
        refine lv_iload_n hx hb dX4_kindBy_30 rfl (lv_at hl 0 rfl) ?_
        refine lv_bipush (v := 117) hx hb dX4_kindBy_31 (by decide) ?_
        refine lv_icmp_ne (tgt := 40) hx hb dX4_kindBy_33 (by decide) (fun c_33 => ?_) (fun c_33 => ?_)
        · skip
          refine lv_iload_n hx hb dX4_kindBy_40 rfl (lv_at hl 0 rfl) ?_
          refine lv_bipush (v := 104) hx hb dX4_kindBy_41 (by decide) ?_
          refine lv_icmp_ne (tgt := 50) hx hb dX4_kindBy_43 (by decide) (fun c_43 => ?_) (fun c_43 => ?_)
          · skip
            refine lv_ldc hx hb hown hw1 dX4_kindBy_50 ?_
            exact ro_iret hx hb hr hlk dX4_kindBy_52 (by simp [kindB, c_3, c_13, c_23, c_33, c_43])
          · skip
            refine lv_iconst (v := 5) hx hb dX4_kindBy_46 (by decide) ?_
            refine lv_goto (tgt := 52) hx hb dX4_kindBy_47 (by decide) ?_
            exact ro_iret hx hb hr hlk dX4_kindBy_52 (by simp [kindB, c_3, c_13, c_23, c_33, c_43])
        · skip
          refine lv_iconst (v := 4) hx hb dX4_kindBy_36 (by decide) ?_
          refine lv_goto (tgt := 52) hx hb dX4_kindBy_37 (by decide) ?_
          exact ro_iret hx hb hr hlk dX4_kindBy_52 (by simp [kindB, c_3, c_13, c_23, c_33])
      · skip
        refine lv_iconst (v := 3) hx hb dX4_kindBy_26 (by decide) ?_
        refine lv_goto (tgt := 52) hx hb dX4_kindBy_27 (by decide) ?_
        exact ro_iret hx hb hr hlk dX4_kindBy_52 (by simp [kindB, c_3, c_13, c_23])
    · skip
      refine lv_iconst (v := 2) hx hb dX4_kindBy_16 (by decide) ?_
      refine lv_goto (tgt := 52) hx hb dX4_kindBy_17 (by decide) ?_
      exact ro_iret hx hb hr hlk dX4_kindBy_52 (by simp [kindB, c_3, c_13])
  · skip
    refine lv_iconst (v := 1) hx hb dX4_kindBy_6 (by decide) ?_
    refine lv_goto (tgt := 52) hx hb dX4_kindBy_7 (by decide) ?_
    exact ro_iret hx hb hr hlk dX4_kindBy_52 (by simp [kindB, c_3])
set_option maxHeartbeats 4000000 in
set_option maxRecDepth 100000 in
theorem c_X4_isOf (l : Launch) (G : lzG) (kind of : Int32)  : Met l yX4_isOf wsX4_isOf ({ frames := 0, cells := 0, slots := 0, locals := 0 }) (va_Pc [.int kind, .int of] (roP G ([] : va_W))) (vp_Si (fun r : Int32 => r = b2 (isOfM kind of))) 0 0 (fun _ => False) := by
  refine ro_start (cc := cX4_isOf) (maxL := 2) (ret := (some .boolean)) (by decide) rfl (Nat.le_of_ble_eq_true rfl) ?_
  intro pp ee ss mm bl me cd hx hb hr hlk hml hts hown hP hK ls hl
  have hown : ss.vm.findClass RX4 = some mm.cls := hown
  have hl : lv_has ls 2 [(0, .int kind), (1, .int of)] := hl
  refine lv_iload_n hx hb dX4_isOf_0 rfl (lv_at hl 1 rfl) ?_
  refine lv_if_eq (tgt := 29) hx hb dX4_isOf_1 (by decide) (fun c_1 => ?_) (fun c_1 => ?_)
  · skip
    refine lv_iconst (v := 1) hx hb dX4_isOf_29 (by decide) ?_
    refine lv_goto (tgt := 34) hx hb dX4_isOf_30 (by decide) ?_
    exact ro_zret hx hb hr hlk dX4_isOf_34 (by unfold isOfM b2; grind)
  · skip
    refine lv_iload_n hx hb dX4_isOf_4 rfl (lv_at hl 0 rfl) ?_
    refine lv_iload_n hx hb dX4_isOf_5 rfl (lv_at hl 1 rfl) ?_
    refine lv_icmp_eq (tgt := 29) hx hb dX4_isOf_6 (by decide) (fun c_6 => ?_) (fun c_6 => ?_)
    · skip
      refine lv_iconst (v := 1) hx hb dX4_isOf_29 (by decide) ?_
      refine lv_goto (tgt := 34) hx hb dX4_isOf_30 (by decide) ?_
      exact ro_zret hx hb hr hlk dX4_isOf_34 (by unfold isOfM b2; grind)
    · skip
      refine lv_iload_n hx hb dX4_isOf_9 rfl (lv_at hl 1 rfl) ?_
      refine lv_iconst (v := 1) hx hb dX4_isOf_10 (by decide) ?_
      refine lv_icmp_ne (tgt := 19) hx hb dX4_isOf_11 (by decide) (fun c_11 => ?_) (fun c_11 => ?_)
      · skip
        refine lv_iload_n hx hb dX4_isOf_19 rfl (lv_at hl 1 rfl) ?_
        refine lv_iconst (v := 4) hx hb dX4_isOf_20 (by decide) ?_
        refine lv_icmp_ne (tgt := 33) hx hb dX4_isOf_21 (by decide) (fun c_21 => ?_) (fun c_21 => ?_)
        · skip
          refine lv_iconst (v := 0) hx hb dX4_isOf_33 (by decide) ?_
          exact ro_zret hx hb hr hlk dX4_isOf_34 (by unfold isOfM b2; grind)
        · skip
          refine lv_iload_n hx hb dX4_isOf_24 rfl (lv_at hl 0 rfl) ?_
          refine lv_iconst (v := 5) hx hb dX4_isOf_25 (by decide) ?_
          refine lv_icmp_ne (tgt := 33) hx hb dX4_isOf_26 (by decide) (fun c_26 => ?_) (fun c_26 => ?_)
          · skip
            refine lv_iconst (v := 0) hx hb dX4_isOf_33 (by decide) ?_
            exact ro_zret hx hb hr hlk dX4_isOf_34 (by unfold isOfM b2; grind)
          · skip
            refine lv_iconst (v := 1) hx hb dX4_isOf_29 (by decide) ?_
            refine lv_goto (tgt := 34) hx hb dX4_isOf_30 (by decide) ?_
            exact ro_zret hx hb hr hlk dX4_isOf_34 (by unfold isOfM b2; grind)
      · skip
        refine lv_iload_n hx hb dX4_isOf_14 rfl (lv_at hl 0 rfl) ?_
        refine lv_iconst (v := 4) hx hb dX4_isOf_15 (by decide) ?_
        refine lv_icmp_lt (tgt := 29) hx hb dX4_isOf_16 (by decide) (fun c_16 => ?_) (fun c_16 => ?_)
        · skip
          have c_16' := Int32.not_le.mpr c_16
          refine lv_iconst (v := 1) hx hb dX4_isOf_29 (by decide) ?_
          refine lv_goto (tgt := 34) hx hb dX4_isOf_30 (by decide) ?_
          exact ro_zret hx hb hr hlk dX4_isOf_34 (by unfold isOfM b2; grind)
        · skip
          have c_16' := Int32.not_lt.mp c_16
          refine lv_iload_n hx hb dX4_isOf_19 rfl (lv_at hl 1 rfl) ?_
          refine lv_iconst (v := 4) hx hb dX4_isOf_20 (by decide) ?_
          refine lv_icmp_ne (tgt := 33) hx hb dX4_isOf_21 (by decide) (fun c_21 => ?_) (fun c_21 => ?_)
          · skip
            refine lv_iconst (v := 0) hx hb dX4_isOf_33 (by decide) ?_
            exact ro_zret hx hb hr hlk dX4_isOf_34 (by unfold isOfM b2; grind)
          · skip
            refine lv_iload_n hx hb dX4_isOf_24 rfl (lv_at hl 0 rfl) ?_
            refine lv_iconst (v := 5) hx hb dX4_isOf_25 (by decide) ?_
            refine lv_icmp_ne (tgt := 33) hx hb dX4_isOf_26 (by decide) (fun c_26 => ?_) (fun c_26 => ?_)
            · skip
              refine lv_iconst (v := 0) hx hb dX4_isOf_33 (by decide) ?_
              exact ro_zret hx hb hr hlk dX4_isOf_34 (by unfold isOfM b2; grind)
            · skip
              refine lv_iconst (v := 1) hx hb dX4_isOf_29 (by decide) ?_
              refine lv_goto (tgt := 34) hx hb dX4_isOf_30 (by decide) ?_
              exact ro_zret hx hb hr hlk dX4_isOf_34 (by unfold isOfM b2; grind)
set_option maxHeartbeats 4000000 in
set_option maxRecDepth 100000 in
theorem c_X3_lowestBits (l : Launch) (G : lzG) (v lane : Int32)  : Met l yX3_lowestBits wsX3_lowestBits ({ frames := 0, cells := 0, slots := 0, locals := 0 }) (va_Pc [.int v, .int lane] (roP G ([] : va_W))) (vp_Si (fun r => r = lowB v lane)) 0 0 (fun _ => False) := by
  refine ro_start (cc := cX3_lowestBits) (maxL := 2) (ret := (some .int)) (by decide) rfl (Nat.le_of_ble_eq_true rfl) ?_
  intro pp ee ss mm bl me cd hx hb hr hlk hml hts hown hP hK ls hl
  have hown : ss.vm.findClass RX3 = some mm.cls := hown
  have hl : lv_has ls 2 [(0, .int v), (1, .int lane)] := hl
  refine lv_iload_n hx hb dX3_lowestBits_0 rfl (lv_at hl 1 rfl) ?_
  by_cases v_1_0 : lane = 0
  · refine lv_lookup (off := 27) (tgt := 28) hx hb dX3_lowestBits_1 (by decide) (by rw [v_1_0]; rfl) (by decide) ?_
    refine lv_iload_n hx hb dX3_lowestBits_28 rfl (lv_at hl 0 rfl) ?_
    refine lv_i2b hx hb dX3_lowestBits_29 rfl ?_
    exact ro_iret hx hb hr hlk dX3_lowestBits_30 (by simp [lowB, v_1_0])
  by_cases v_1_1 : lane = 1
  · refine lv_lookup (off := 30) (tgt := 31) hx hb dX3_lowestBits_1 (by decide) (by rw [v_1_1]; rfl) (by decide) ?_
    refine lv_iload_n hx hb dX3_lowestBits_31 rfl (lv_at hl 0 rfl) ?_
    refine lv_i2s hx hb dX3_lowestBits_32 rfl ?_
    exact ro_iret hx hb hr hlk dX3_lowestBits_33 (by simp [lowB, v_1_1])
  refine lv_lookup (off := 33) (tgt := 34) hx hb dX3_lowestBits_1 (by decide) ((lv_osw v_1_0 rfl).trans ((lv_osw v_1_1 rfl).trans (rfl))) (by decide) ?_
  refine lv_iload_n hx hb dX3_lowestBits_34 rfl (lv_at hl 0 rfl) ?_
  exact ro_iret hx hb hr hlk dX3_lowestBits_35 (by simp [lowB, v_1_0, v_1_1])
set_option maxHeartbeats 4000000 in
set_option maxRecDepth 100000 in
theorem c_X3_powerOfTen (l : Launch) (G : lzG) (E : Nat) (hE : E ≤ 8) : Met l yX3_powerOfTen wsX3_powerOfTen ({ frames := 0, cells := 0, slots := 0, locals := 0 }) (va_Pc [.int (nI E)] (roP G ([] : va_W))) (vp_Sl (fun r => r = powL E)) 0 0 (fun _ => False) := by
  refine ro_start (cc := cX3_powerOfTen) (maxL := 4) (ret := (some .long)) (by decide) rfl (Nat.le_of_ble_eq_true rfl) ?_
  intro pp ee ss mm bl me cd hx hb hr hlk hml hts hown hP hK ls hl
  have hown : ss.vm.findClass RX3 = some mm.cls := hown
  have hw1 := hts (.constantLong RX3 311 (10)) (List.mem_of_getElem? (i := 1) rfl)
  have hl : lv_has ls 4 [(0, .int (nI E))] := hl
  refine lv_lconst (v := 1) hx hb dX3_powerOfTen_0 (by decide) ?_
  refine lv_lstore_n (lv' := [(1, .long 1), (0, .int (nI E))]) hx hb dX3_powerOfTen_1 rfl hl (by decide) rfl (fun ls hl => ?_)
  refine lv_iconst (v := 0) hx hb dX3_powerOfTen_2 (by decide) ?_
  refine lv_istore_n (lv' := [(3, .int 0), (1, .long 1), (0, .int (nI E))]) hx hb dX3_powerOfTen_3 rfl hl (by decide) rfl (fun ls hl => ?_)
  have J_4 : ∀ (n9 : Nat), ∀ (k : Nat), (k ≤ E) → E - k < n9 → ∀ ls : Array Slot, lv_has ls 4 [(1, .long (powL k)), (3, .int (nI k)), (0, .int (nI E))] → W pp l ee ({ frames := 0, cells := 0, slots := 0, locals := 0 }) ss mm ([.int (nI E)] : List Value).toArray bl me cd ss.heap [] 0 0 (MQ bl (vp_Sl (fun r => r = powL E)) ([.int (nI E)] : List Value).toArray ss 0 0 (fun _ => False)) (F0 mm 4 ls []) := by
    intro n9
    induction n9 with
    | zero => intro k hk hn; exact absurd hn (Nat.not_lt_zero _)
    | succ n9 ih_4 =>
      intro k hk hn_4 ls hl
      refine lv_iload_n hx hb dX3_powerOfTen_4 rfl (lv_at hl 1 rfl) ?_
      refine lv_iload_n hx hb dX3_powerOfTen_5 rfl (lv_at hl 2 rfl) ?_
      refine lv_icmp_ge (tgt := 21) hx hb dX3_powerOfTen_6 (by decide) (fun c_6 => ?_) (fun c_6 => ?_)
      · skip
        have c_6' := Int32.not_lt.mpr c_6
        have hk2 : E ≤ k := (nI_leI (by omega) (by omega)).mp c_6
        have hk3 : k = E := by omega
        refine lv_lload_n hx hb dX3_powerOfTen_21 rfl (lv_at hl 0 rfl) ?_
        exact ro_lret hx hb hr hlk dX3_powerOfTen_22 (by rw [hk3])
      · skip
        have c_6' := Int32.not_le.mp c_6
        have hk2 : k < E := (nI_ltI (by omega) (by omega)).mp c_6'
        refine lv_lload_n hx hb dX3_powerOfTen_9 rfl (lv_at hl 0 rfl) ?_
        refine lv_ldc2 hx hb hown hw1 dX3_powerOfTen_10 ?_
        refine lv_lmul hx hb dX3_powerOfTen_13 ?_
        refine lv_topl (fun x_1 ex_1 => ?_)
        refine lv_lstore_n (lv' := [(1, .long x_1), (3, .int (nI k)), (0, .int (nI E))]) hx hb dX3_powerOfTen_14 rfl hl (by decide) rfl (fun ls hl => ?_)
        refine lv_iinc (v := nI (k + 1)) (lv' := [(3, .int (nI (k + 1))), (1, .long x_1), (0, .int (nI E))]) hx hb dX3_powerOfTen_15 hl (k := 1) rfl (nI_1 _) (by decide) rfl (fun ls hl => ?_)
        refine lv_goto (tgt := 4) hx hb dX3_powerOfTen_18 (by decide) ?_
        obtain rfl : x_1 = powL (k + 1) := by rw [ex_1]; rfl
        exact ih_4 (k + 1) (by omega) (by omega) _ (lv_sub hl [1, 0, 2] rfl)
  exact J_4 _ 0 (by omega) (Nat.lt_succ_self _) _ (lv_sub hl [1, 0, 2] rfl)
set_option maxHeartbeats 4000000 in
set_option maxRecDepth 100000 in
theorem c_X3_partInLowestTerms (l : Launch) (G : lzG) (top bot : Int64) (what : Int32)  : Met l yX3_partInLowestTerms wsX3_partInLowestTerms ({ frames := 0, cells := 0, slots := 0, locals := 0 }) (va_Pc [.long top, .long bot, .int what] (roP G ([] : va_W))) (vp_Sl (fun r => r = if what = 0 then (lowL top bot 8).1 else (lowL top bot 8).2)) 0 0 (fun _ => False) := by
  refine ro_start (cc := cX3_partInLowestTerms) (maxL := 10) (ret := (some .long)) (by decide) rfl (Nat.le_of_ble_eq_true rfl) ?_
  intro pp ee ss mm bl me cd hx hb hr hlk hml hts hown hP hK ls hl
  have hown : ss.vm.findClass RX3 = some mm.cls := hown
  have hw1 := hts (.constantLong RX3 313 (2)) (List.mem_of_getElem? (i := 1) rfl)
  have hw2 := hts (.constantLong RX3 315 (5)) (List.mem_of_getElem? (i := 2) rfl)
  have hl : lv_has ls 10 [(0, .long top), (2, .long bot), (4, .int what)] := hl
  refine lv_lload_n hx hb dX3_partInLowestTerms_0 rfl (lv_at hl 0 rfl) ?_
  refine lv_lstore (lv' := [(5, .long top), (0, .long top), (2, .long bot), (4, .int what)]) hx hb dX3_partInLowestTerms_1 hl (by decide) rfl (fun ls hl => ?_)
  refine lv_lload_n hx hb dX3_partInLowestTerms_3 rfl (lv_at hl 2 rfl) ?_
  refine lv_lstore (lv' := [(7, .long bot), (5, .long top), (0, .long top), (2, .long bot), (4, .int what)]) hx hb dX3_partInLowestTerms_4 hl (by decide) rfl (fun ls hl => ?_)
  refine lv_iconst (v := 0) hx hb dX3_partInLowestTerms_6 (by decide) ?_
  refine lv_istore (lv' := [(9, .int 0), (7, .long bot), (5, .long top), (0, .long top), (2, .long bot), (4, .int what)]) hx hb dX3_partInLowestTerms_7 hl (by decide) rfl (fun ls hl => ?_)
  have J_9 : ∀ (n9 : Nat), ∀ (k : Nat), (k ≤ 8) → 8 - k < n9 → ∀ ls : Array Slot, lv_has ls 10 [(5, .long ((lowL top bot k).1)), (7, .long ((lowL top bot k).2)), (9, .int (nI k)), (0, .long top), (2, .long bot), (4, .int what)] → W pp l ee ({ frames := 0, cells := 0, slots := 0, locals := 0 }) ss mm ([.long top, .long bot, .int what] : List Value).toArray bl me cd ss.heap [] 0 0 (MQ bl (vp_Sl (fun r => r = if what = 0 then (lowL top bot 8).1 else (lowL top bot 8).2)) ([.long top, .long bot, .int what] : List Value).toArray ss 0 0 (fun _ => False)) (F0 mm 9 ls []) := by
    intro n9
    induction n9 with
    | zero => intro k hk hn; exact absurd hn (Nat.not_lt_zero _)
    | succ n9 ih_9 =>
      intro k hk hn_9 ls hl
      refine lv_iload hx hb dX3_partInLowestTerms_9 (lv_at hl 2 rfl) ?_
      refine lv_bipush (v := 8) hx hb dX3_partInLowestTerms_11 (by decide) ?_
      refine lv_icmp_ge (tgt := 98) hx hb dX3_partInLowestTerms_13 (by decide) (fun c_13 => ?_) (fun c_13 => ?_)
      · skip
        have c_13' := Int32.not_lt.mpr c_13
        have hk2 : 8 ≤ k := lz_ge (N := 8) rfl c_13 (by omega) (by omega)
        have hk3 : k = 8 := by omega
        refine lv_iload hx hb dX3_partInLowestTerms_98 (lv_at hl 5 rfl) ?_
        refine lv_if_ne (tgt := 108) hx hb dX3_partInLowestTerms_100 (by decide) (fun c_100 => ?_) (fun c_100 => ?_)
        · skip
          refine lv_lload hx hb dX3_partInLowestTerms_108 (lv_at hl 1 rfl) ?_
          exact ro_lret hx hb hr hlk dX3_partInLowestTerms_110 (by rw [hk3]; simp [c_13, c_13', c_100])
        · skip
          refine lv_lload hx hb dX3_partInLowestTerms_103 (lv_at hl 0 rfl) ?_
          refine lv_goto (tgt := 110) hx hb dX3_partInLowestTerms_105 (by decide) ?_
          exact ro_lret hx hb hr hlk dX3_partInLowestTerms_110 (by rw [hk3]; simp [c_13, c_13', c_100])
      · skip
        have c_13' := Int32.not_le.mp c_13
        have hk2 : k < 8 := lz_lt (N := 8) rfl c_13 (by omega) (by omega)
        refine lv_lload hx hb dX3_partInLowestTerms_16 (lv_at hl 0 rfl) ?_
        refine lv_ldc2 hx hb hown hw1 dX3_partInLowestTerms_18 ?_
        refine lv_lrem hx hb dX3_partInLowestTerms_21 (by decide) ?_
        refine lv_lconst (v := 0) hx hb dX3_partInLowestTerms_22 (by decide) ?_
        refine W.lcmp hx hb dX3_partInLowestTerms_23 ?_
        refine lv_if_ne (tgt := 54) hx hb dX3_partInLowestTerms_24 (by decide) (fun c_24 => ?_) (fun c_24 => ?_)
        · skip
          have c_24 := mt (lg_e _ _).mpr c_24
          refine lv_lload hx hb dX3_partInLowestTerms_54 (lv_at hl 0 rfl) ?_
          refine lv_ldc2 hx hb hown hw2 dX3_partInLowestTerms_56 ?_
          refine lv_lrem hx hb dX3_partInLowestTerms_59 (by decide) ?_
          refine lv_lconst (v := 0) hx hb dX3_partInLowestTerms_60 (by decide) ?_
          refine W.lcmp hx hb dX3_partInLowestTerms_61 ?_
          refine lv_if_ne (tgt := 92) hx hb dX3_partInLowestTerms_62 (by decide) (fun c_62 => ?_) (fun c_62 => ?_)
          · skip
            have c_62 := mt (lg_e _ _).mpr c_62
            refine lv_iinc (v := nI (k + 1)) (lv' := [(9, .int (nI (k + 1))), (5, .long ((lowL top bot k).1)), (7, .long ((lowL top bot k).2)), (0, .long top), (2, .long bot), (4, .int what)]) hx hb dX3_partInLowestTerms_92 hl (k := 2) rfl (nI_1 _) (by decide) rfl (fun ls hl => ?_)
            refine lv_goto (tgt := 9) hx hb dX3_partInLowestTerms_95 (by decide) ?_
            rw [show ((lowL top bot k).1 : Int64) = (lowL top bot (k + 1)).1 from by simp only [lowL, low2, low5, c_13, c_13', c_24, c_62, if_true, if_false, reduceIte]] at hl
            rw [show ((lowL top bot k).2 : Int64) = (lowL top bot (k + 1)).2 from by simp only [lowL, low2, low5, c_13, c_13', c_24, c_62, if_true, if_false, reduceIte]] at hl
            exact ih_9 (k + 1) (by omega) (by omega) _ (lv_sub hl [1, 2, 0, 3, 4, 5] rfl)
          · skip
            have c_62 := (lg_e _ _).mp c_62
            refine lv_lload hx hb dX3_partInLowestTerms_65 (lv_at hl 1 rfl) ?_
            refine lv_ldc2 hx hb hown hw2 dX3_partInLowestTerms_67 ?_
            refine lv_lrem hx hb dX3_partInLowestTerms_70 (by decide) ?_
            refine lv_lconst (v := 0) hx hb dX3_partInLowestTerms_71 (by decide) ?_
            refine W.lcmp hx hb dX3_partInLowestTerms_72 ?_
            refine lv_if_ne (tgt := 92) hx hb dX3_partInLowestTerms_73 (by decide) (fun c_73 => ?_) (fun c_73 => ?_)
            · skip
              have c_73 := mt (lg_e _ _).mpr c_73
              refine lv_iinc (v := nI (k + 1)) (lv' := [(9, .int (nI (k + 1))), (5, .long ((lowL top bot k).1)), (7, .long ((lowL top bot k).2)), (0, .long top), (2, .long bot), (4, .int what)]) hx hb dX3_partInLowestTerms_92 hl (k := 2) rfl (nI_1 _) (by decide) rfl (fun ls hl => ?_)
              refine lv_goto (tgt := 9) hx hb dX3_partInLowestTerms_95 (by decide) ?_
              rw [show ((lowL top bot k).1 : Int64) = (lowL top bot (k + 1)).1 from by simp only [lowL, low2, low5, c_13, c_13', c_24, c_62, c_73, if_true, if_false, reduceIte]] at hl
              rw [show ((lowL top bot k).2 : Int64) = (lowL top bot (k + 1)).2 from by simp only [lowL, low2, low5, c_13, c_13', c_24, c_62, c_73, if_true, if_false, reduceIte]] at hl
              exact ih_9 (k + 1) (by omega) (by omega) _ (lv_sub hl [1, 2, 0, 3, 4, 5] rfl)
            · skip
              have c_73 := (lg_e _ _).mp c_73
              refine lv_lload hx hb dX3_partInLowestTerms_76 (lv_at hl 0 rfl) ?_
              refine lv_ldc2 hx hb hown hw2 dX3_partInLowestTerms_78 ?_
              refine lv_ldiv hx hb dX3_partInLowestTerms_81 (by decide) ?_
              refine lv_lstore (lv' := [(5, .long (((lowL top bot k).1) / 5)), (7, .long ((lowL top bot k).2)), (9, .int (nI k)), (0, .long top), (2, .long bot), (4, .int what)]) hx hb dX3_partInLowestTerms_82 hl (by decide) rfl (fun ls hl => ?_)
              refine lv_lload hx hb dX3_partInLowestTerms_84 (lv_at hl 1 rfl) ?_
              refine lv_ldc2 hx hb hown hw2 dX3_partInLowestTerms_86 ?_
              refine lv_ldiv hx hb dX3_partInLowestTerms_89 (by decide) ?_
              refine lv_lstore (lv' := [(7, .long (((lowL top bot k).2) / 5)), (5, .long (((lowL top bot k).1) / 5)), (9, .int (nI k)), (0, .long top), (2, .long bot), (4, .int what)]) hx hb dX3_partInLowestTerms_90 hl (by decide) rfl (fun ls hl => ?_)
              refine lv_iinc (v := nI (k + 1)) (lv' := [(9, .int (nI (k + 1))), (7, .long (((lowL top bot k).2) / 5)), (5, .long (((lowL top bot k).1) / 5)), (0, .long top), (2, .long bot), (4, .int what)]) hx hb dX3_partInLowestTerms_92 hl (k := 2) rfl (nI_1 _) (by decide) rfl (fun ls hl => ?_)
              refine lv_goto (tgt := 9) hx hb dX3_partInLowestTerms_95 (by decide) ?_
              rw [show (((lowL top bot k).1) / 5 : Int64) = (lowL top bot (k + 1)).1 from by simp only [lowL, low2, low5, c_13, c_13', c_24, c_62, c_73, if_true, if_false, reduceIte]] at hl
              rw [show (((lowL top bot k).2) / 5 : Int64) = (lowL top bot (k + 1)).2 from by simp only [lowL, low2, low5, c_13, c_13', c_24, c_62, c_73, if_true, if_false, reduceIte]] at hl
              exact ih_9 (k + 1) (by omega) (by omega) _ (lv_sub hl [2, 1, 0, 3, 4, 5] rfl)
        · skip
          have c_24 := (lg_e _ _).mp c_24
          refine lv_lload hx hb dX3_partInLowestTerms_27 (lv_at hl 1 rfl) ?_
          refine lv_ldc2 hx hb hown hw1 dX3_partInLowestTerms_29 ?_
          refine lv_lrem hx hb dX3_partInLowestTerms_32 (by decide) ?_
          refine lv_lconst (v := 0) hx hb dX3_partInLowestTerms_33 (by decide) ?_
          refine W.lcmp hx hb dX3_partInLowestTerms_34 ?_
          refine lv_if_ne (tgt := 54) hx hb dX3_partInLowestTerms_35 (by decide) (fun c_35 => ?_) (fun c_35 => ?_)
          · skip
            have c_35 := mt (lg_e _ _).mpr c_35
            refine lv_lload hx hb dX3_partInLowestTerms_54 (lv_at hl 0 rfl) ?_
            refine lv_ldc2 hx hb hown hw2 dX3_partInLowestTerms_56 ?_
            refine lv_lrem hx hb dX3_partInLowestTerms_59 (by decide) ?_
            refine lv_lconst (v := 0) hx hb dX3_partInLowestTerms_60 (by decide) ?_
            refine W.lcmp hx hb dX3_partInLowestTerms_61 ?_
            refine lv_if_ne (tgt := 92) hx hb dX3_partInLowestTerms_62 (by decide) (fun c_62 => ?_) (fun c_62 => ?_)
            · skip
              have c_62 := mt (lg_e _ _).mpr c_62
              refine lv_iinc (v := nI (k + 1)) (lv' := [(9, .int (nI (k + 1))), (5, .long ((lowL top bot k).1)), (7, .long ((lowL top bot k).2)), (0, .long top), (2, .long bot), (4, .int what)]) hx hb dX3_partInLowestTerms_92 hl (k := 2) rfl (nI_1 _) (by decide) rfl (fun ls hl => ?_)
              refine lv_goto (tgt := 9) hx hb dX3_partInLowestTerms_95 (by decide) ?_
              rw [show ((lowL top bot k).1 : Int64) = (lowL top bot (k + 1)).1 from by simp only [lowL, low2, low5, c_13, c_13', c_24, c_35, c_62, if_true, if_false, reduceIte]] at hl
              rw [show ((lowL top bot k).2 : Int64) = (lowL top bot (k + 1)).2 from by simp only [lowL, low2, low5, c_13, c_13', c_24, c_35, c_62, if_true, if_false, reduceIte]] at hl
              exact ih_9 (k + 1) (by omega) (by omega) _ (lv_sub hl [1, 2, 0, 3, 4, 5] rfl)
            · skip
              have c_62 := (lg_e _ _).mp c_62
              refine lv_lload hx hb dX3_partInLowestTerms_65 (lv_at hl 1 rfl) ?_
              refine lv_ldc2 hx hb hown hw2 dX3_partInLowestTerms_67 ?_
              refine lv_lrem hx hb dX3_partInLowestTerms_70 (by decide) ?_
              refine lv_lconst (v := 0) hx hb dX3_partInLowestTerms_71 (by decide) ?_
              refine W.lcmp hx hb dX3_partInLowestTerms_72 ?_
              refine lv_if_ne (tgt := 92) hx hb dX3_partInLowestTerms_73 (by decide) (fun c_73 => ?_) (fun c_73 => ?_)
              · skip
                have c_73 := mt (lg_e _ _).mpr c_73
                refine lv_iinc (v := nI (k + 1)) (lv' := [(9, .int (nI (k + 1))), (5, .long ((lowL top bot k).1)), (7, .long ((lowL top bot k).2)), (0, .long top), (2, .long bot), (4, .int what)]) hx hb dX3_partInLowestTerms_92 hl (k := 2) rfl (nI_1 _) (by decide) rfl (fun ls hl => ?_)
                refine lv_goto (tgt := 9) hx hb dX3_partInLowestTerms_95 (by decide) ?_
                rw [show ((lowL top bot k).1 : Int64) = (lowL top bot (k + 1)).1 from by simp only [lowL, low2, low5, c_13, c_13', c_24, c_35, c_62, c_73, if_true, if_false, reduceIte]] at hl
                rw [show ((lowL top bot k).2 : Int64) = (lowL top bot (k + 1)).2 from by simp only [lowL, low2, low5, c_13, c_13', c_24, c_35, c_62, c_73, if_true, if_false, reduceIte]] at hl
                exact ih_9 (k + 1) (by omega) (by omega) _ (lv_sub hl [1, 2, 0, 3, 4, 5] rfl)
              · skip
                have c_73 := (lg_e _ _).mp c_73
                refine lv_lload hx hb dX3_partInLowestTerms_76 (lv_at hl 0 rfl) ?_
                refine lv_ldc2 hx hb hown hw2 dX3_partInLowestTerms_78 ?_
                refine lv_ldiv hx hb dX3_partInLowestTerms_81 (by decide) ?_
                refine lv_lstore (lv' := [(5, .long (((lowL top bot k).1) / 5)), (7, .long ((lowL top bot k).2)), (9, .int (nI k)), (0, .long top), (2, .long bot), (4, .int what)]) hx hb dX3_partInLowestTerms_82 hl (by decide) rfl (fun ls hl => ?_)
                refine lv_lload hx hb dX3_partInLowestTerms_84 (lv_at hl 1 rfl) ?_
                refine lv_ldc2 hx hb hown hw2 dX3_partInLowestTerms_86 ?_
                refine lv_ldiv hx hb dX3_partInLowestTerms_89 (by decide) ?_
                refine lv_lstore (lv' := [(7, .long (((lowL top bot k).2) / 5)), (5, .long (((lowL top bot k).1) / 5)), (9, .int (nI k)), (0, .long top), (2, .long bot), (4, .int what)]) hx hb dX3_partInLowestTerms_90 hl (by decide) rfl (fun ls hl => ?_)
                refine lv_iinc (v := nI (k + 1)) (lv' := [(9, .int (nI (k + 1))), (7, .long (((lowL top bot k).2) / 5)), (5, .long (((lowL top bot k).1) / 5)), (0, .long top), (2, .long bot), (4, .int what)]) hx hb dX3_partInLowestTerms_92 hl (k := 2) rfl (nI_1 _) (by decide) rfl (fun ls hl => ?_)
                refine lv_goto (tgt := 9) hx hb dX3_partInLowestTerms_95 (by decide) ?_
                rw [show (((lowL top bot k).1) / 5 : Int64) = (lowL top bot (k + 1)).1 from by simp only [lowL, low2, low5, c_13, c_13', c_24, c_35, c_62, c_73, if_true, if_false, reduceIte]] at hl
                rw [show (((lowL top bot k).2) / 5 : Int64) = (lowL top bot (k + 1)).2 from by simp only [lowL, low2, low5, c_13, c_13', c_24, c_35, c_62, c_73, if_true, if_false, reduceIte]] at hl
                exact ih_9 (k + 1) (by omega) (by omega) _ (lv_sub hl [2, 1, 0, 3, 4, 5] rfl)
          · skip
            have c_35 := (lg_e _ _).mp c_35
            refine lv_lload hx hb dX3_partInLowestTerms_38 (lv_at hl 0 rfl) ?_
            refine lv_ldc2 hx hb hown hw1 dX3_partInLowestTerms_40 ?_
            refine lv_ldiv hx hb dX3_partInLowestTerms_43 (by decide) ?_
            refine lv_lstore (lv' := [(5, .long (((lowL top bot k).1) / 2)), (7, .long ((lowL top bot k).2)), (9, .int (nI k)), (0, .long top), (2, .long bot), (4, .int what)]) hx hb dX3_partInLowestTerms_44 hl (by decide) rfl (fun ls hl => ?_)
            refine lv_lload hx hb dX3_partInLowestTerms_46 (lv_at hl 1 rfl) ?_
            refine lv_ldc2 hx hb hown hw1 dX3_partInLowestTerms_48 ?_
            refine lv_ldiv hx hb dX3_partInLowestTerms_51 (by decide) ?_
            refine lv_lstore (lv' := [(7, .long (((lowL top bot k).2) / 2)), (5, .long (((lowL top bot k).1) / 2)), (9, .int (nI k)), (0, .long top), (2, .long bot), (4, .int what)]) hx hb dX3_partInLowestTerms_52 hl (by decide) rfl (fun ls hl => ?_)
            refine lv_lload hx hb dX3_partInLowestTerms_54 (lv_at hl 1 rfl) ?_
            refine lv_ldc2 hx hb hown hw2 dX3_partInLowestTerms_56 ?_
            refine lv_lrem hx hb dX3_partInLowestTerms_59 (by decide) ?_
            refine lv_lconst (v := 0) hx hb dX3_partInLowestTerms_60 (by decide) ?_
            refine W.lcmp hx hb dX3_partInLowestTerms_61 ?_
            refine lv_if_ne (tgt := 92) hx hb dX3_partInLowestTerms_62 (by decide) (fun c_62 => ?_) (fun c_62 => ?_)
            · skip
              have c_62 := mt (lg_e _ _).mpr c_62
              refine lv_iinc (v := nI (k + 1)) (lv' := [(9, .int (nI (k + 1))), (7, .long (((lowL top bot k).2) / 2)), (5, .long (((lowL top bot k).1) / 2)), (0, .long top), (2, .long bot), (4, .int what)]) hx hb dX3_partInLowestTerms_92 hl (k := 2) rfl (nI_1 _) (by decide) rfl (fun ls hl => ?_)
              refine lv_goto (tgt := 9) hx hb dX3_partInLowestTerms_95 (by decide) ?_
              rw [show (((lowL top bot k).1) / 2 : Int64) = (lowL top bot (k + 1)).1 from by simp only [lowL, low2, low5, c_13, c_13', c_24, c_35, c_62, if_true, if_false, reduceIte]] at hl
              rw [show (((lowL top bot k).2) / 2 : Int64) = (lowL top bot (k + 1)).2 from by simp only [lowL, low2, low5, c_13, c_13', c_24, c_35, c_62, if_true, if_false, reduceIte]] at hl
              exact ih_9 (k + 1) (by omega) (by omega) _ (lv_sub hl [2, 1, 0, 3, 4, 5] rfl)
            · skip
              have c_62 := (lg_e _ _).mp c_62
              refine lv_lload hx hb dX3_partInLowestTerms_65 (lv_at hl 0 rfl) ?_
              refine lv_ldc2 hx hb hown hw2 dX3_partInLowestTerms_67 ?_
              refine lv_lrem hx hb dX3_partInLowestTerms_70 (by decide) ?_
              refine lv_lconst (v := 0) hx hb dX3_partInLowestTerms_71 (by decide) ?_
              refine W.lcmp hx hb dX3_partInLowestTerms_72 ?_
              refine lv_if_ne (tgt := 92) hx hb dX3_partInLowestTerms_73 (by decide) (fun c_73 => ?_) (fun c_73 => ?_)
              · skip
                have c_73 := mt (lg_e _ _).mpr c_73
                refine lv_iinc (v := nI (k + 1)) (lv' := [(9, .int (nI (k + 1))), (7, .long (((lowL top bot k).2) / 2)), (5, .long (((lowL top bot k).1) / 2)), (0, .long top), (2, .long bot), (4, .int what)]) hx hb dX3_partInLowestTerms_92 hl (k := 2) rfl (nI_1 _) (by decide) rfl (fun ls hl => ?_)
                refine lv_goto (tgt := 9) hx hb dX3_partInLowestTerms_95 (by decide) ?_
                rw [show (((lowL top bot k).1) / 2 : Int64) = (lowL top bot (k + 1)).1 from by simp only [lowL, low2, low5, c_13, c_13', c_24, c_35, c_62, c_73, if_true, if_false, reduceIte]] at hl
                rw [show (((lowL top bot k).2) / 2 : Int64) = (lowL top bot (k + 1)).2 from by simp only [lowL, low2, low5, c_13, c_13', c_24, c_35, c_62, c_73, if_true, if_false, reduceIte]] at hl
                exact ih_9 (k + 1) (by omega) (by omega) _ (lv_sub hl [2, 1, 0, 3, 4, 5] rfl)
              · skip
                have c_73 := (lg_e _ _).mp c_73
                refine lv_lload hx hb dX3_partInLowestTerms_76 (lv_at hl 1 rfl) ?_
                refine lv_ldc2 hx hb hown hw2 dX3_partInLowestTerms_78 ?_
                refine lv_ldiv hx hb dX3_partInLowestTerms_81 (by decide) ?_
                refine lv_lstore (lv' := [(5, .long ((((lowL top bot k).1) / 2) / 5)), (7, .long (((lowL top bot k).2) / 2)), (9, .int (nI k)), (0, .long top), (2, .long bot), (4, .int what)]) hx hb dX3_partInLowestTerms_82 hl (by decide) rfl (fun ls hl => ?_)
                refine lv_lload hx hb dX3_partInLowestTerms_84 (lv_at hl 1 rfl) ?_
                refine lv_ldc2 hx hb hown hw2 dX3_partInLowestTerms_86 ?_
                refine lv_ldiv hx hb dX3_partInLowestTerms_89 (by decide) ?_
                refine lv_lstore (lv' := [(7, .long ((((lowL top bot k).2) / 2) / 5)), (5, .long ((((lowL top bot k).1) / 2) / 5)), (9, .int (nI k)), (0, .long top), (2, .long bot), (4, .int what)]) hx hb dX3_partInLowestTerms_90 hl (by decide) rfl (fun ls hl => ?_)
                refine lv_iinc (v := nI (k + 1)) (lv' := [(9, .int (nI (k + 1))), (7, .long ((((lowL top bot k).2) / 2) / 5)), (5, .long ((((lowL top bot k).1) / 2) / 5)), (0, .long top), (2, .long bot), (4, .int what)]) hx hb dX3_partInLowestTerms_92 hl (k := 2) rfl (nI_1 _) (by decide) rfl (fun ls hl => ?_)
                refine lv_goto (tgt := 9) hx hb dX3_partInLowestTerms_95 (by decide) ?_
                rw [show ((((lowL top bot k).1) / 2) / 5 : Int64) = (lowL top bot (k + 1)).1 from by simp only [lowL, low2, low5, c_13, c_13', c_24, c_35, c_62, c_73, if_true, if_false, reduceIte]] at hl
                rw [show ((((lowL top bot k).2) / 2) / 5 : Int64) = (lowL top bot (k + 1)).2 from by simp only [lowL, low2, low5, c_13, c_13', c_24, c_35, c_62, c_73, if_true, if_false, reduceIte]] at hl
                exact ih_9 (k + 1) (by omega) (by omega) _ (lv_sub hl [2, 1, 0, 3, 4, 5] rfl)
  exact J_9 _ 0 (by omega) (Nat.lt_succ_self _) _ (lv_sub hl [2, 1, 0, 3, 4, 5] rfl)
set_option maxHeartbeats 4000000 in
set_option maxRecDepth 100000 in
theorem c_X3_isMissing (l : Launch) (G : lzG) (x : Nat) (q : Nat → Nat) (S : Nat → Int32) (ln : Nat → Int32) (rr : Nat) (hrw : rr < 8) : Met l yX3_isMissing wsX3_isMissing ({ frames := 0, cells := 0, slots := 0, locals := 0 }) (va_Pc [.ref x, .int (nI rr)] (roP G (lzX x q S ++ lzI G (q 2) 8 ln))) (vp_Si (fun r : Int32 => r = b2 (decide (ln rr = -1000000)))) 0 0 (fun _ => False) := by
  refine ro_start (cc := cX3_isMissing) (maxL := 2) (ret := (some .boolean)) (by decide) rfl (Nat.le_of_ble_eq_true rfl) ?_
  intro pp ee ss mm bl me cd hx hb hr hlk hml hts hown hP hK ls hl
  have hown : ss.vm.findClass RX3 = some mm.cls := hown
  have hw1 := hts (.fieldLink RX3 18 "LampSquares" "lengths" "[I") (List.mem_of_getElem? (i := 1) rfl)
  have hw2 := hts (.constant RX3 66 (-1000000)) (List.mem_of_getElem? (i := 2) rfl)
  have hu_wsX30 : ∀ w ∈ wsX30, w.before ([.ref x, .int (nI rr)] : List Value).toArray ss = true := fun w h9 => hts w (List.mem_cons_of_mem _ (List.mem_append_right _ h9))
  have hl : lv_has ls 2 [(0, .ref x), (1, .int (nI rr))] := hl
  refine lv_aload_n hx hb dX3_isMissing_0 rfl (lv_at hl 0 rfl) ?_
  refine lz_get (G := G) (ci := 3) (v := .ref (q 2)) (C := RX3) (T := TX3) (N := 13) hx hb hu_wsX30 (fun _ h9 => h9) hown hK hP 0 rfl rfl 2 (by decide) hw1 rfl rfl dX3_isMissing_1 ?_
  refine lv_iload_n hx hb dX3_isMissing_4 rfl (lv_at hl 1 rfl) ?_
  refine lz_iald (f := ln) hx hb hK hP 1 rfl rr (by omega) (Nat.le_of_ble_eq_true rfl) dX3_isMissing_5 ?_
  refine lv_ldc hx hb hown hw2 dX3_isMissing_6 ?_
  refine lv_icmp_ne (tgt := 15) hx hb dX3_isMissing_8 (by decide) (fun c_8 => ?_) (fun c_8 => ?_)
  · skip
    refine lv_iconst (v := 0) hx hb dX3_isMissing_15 (by decide) ?_
    exact ro_zret hx hb hr hlk dX3_isMissing_16 (by simp [b2, c_8])
  · skip
    refine lv_iconst (v := 1) hx hb dX3_isMissing_11 (by decide) ?_
    refine lv_goto (tgt := 16) hx hb dX3_isMissing_12 (by decide) ?_
    exact ro_zret hx hb hr hlk dX3_isMissing_16 (by simp [b2, c_8])
set_option maxHeartbeats 4000000 in
set_option maxRecDepth 100000 in
theorem c_X3_hasItems (l : Launch) (G : lzG) (x : Nat) (q : Nat → Nat) (S : Nat → Int32) (ln : Nat → Int32) (rr : Nat) (i n : Int32) (hrw : rr < 8) : Met l yX3_hasItems wsX3_hasItems ({ frames := 0, cells := 0, slots := 0, locals := 0 }) (va_Pc [.ref x, .int (nI rr), .int i, .int n] (roP G (lzX x q S ++ lzI G (q 2) 8 ln))) (vp_Si (fun r : Int32 => r = b2 (hasB (ln rr) i n))) 0 0 (fun _ => False) := by
  refine ro_start (cc := cX3_hasItems) (maxL := 4) (ret := (some .boolean)) (by decide) rfl (Nat.le_of_ble_eq_true rfl) ?_
  intro pp ee ss mm bl me cd hx hb hr hlk hml hts hown hP hK ls hl
  have hown : ss.vm.findClass RX3 = some mm.cls := hown
  have hw1 := hts (.fieldLink RX3 18 "LampSquares" "lengths" "[I") (List.mem_of_getElem? (i := 1) rfl)
  have hu_wsX30 : ∀ w ∈ wsX30, w.before ([.ref x, .int (nI rr), .int i, .int n] : List Value).toArray ss = true := fun w h9 => hts w (List.mem_cons_of_mem _ (List.mem_append_right _ h9))
  have hl : lv_has ls 4 [(0, .ref x), (1, .int (nI rr)), (2, .int i), (3, .int n)] := hl
  refine lv_iload_n hx hb dX3_hasItems_0 rfl (lv_at hl 2 rfl) ?_
  refine lv_if_lt (tgt := 28) hx hb dX3_hasItems_1 (by decide) (fun c_1 => ?_) (fun c_1 => ?_)
  · skip
    have c_1' := Int32.not_le.mpr c_1
    refine lv_iconst (v := 0) hx hb dX3_hasItems_28 (by decide) ?_
    exact ro_zret hx hb hr hlk dX3_hasItems_29 (by simp [hasB, b2, c_1, c_1'])
  · skip
    have c_1' := Int32.not_lt.mp c_1
    refine lv_iload_n hx hb dX3_hasItems_4 rfl (lv_at hl 3 rfl) ?_
    refine lv_if_lt (tgt := 28) hx hb dX3_hasItems_5 (by decide) (fun c_5 => ?_) (fun c_5 => ?_)
    · skip
      have c_5' := Int32.not_le.mpr c_5
      refine lv_iconst (v := 0) hx hb dX3_hasItems_28 (by decide) ?_
      exact ro_zret hx hb hr hlk dX3_hasItems_29 (by simp [hasB, b2, c_1, c_1', c_5, c_5'])
    · skip
      have c_5' := Int32.not_lt.mp c_5
      refine lv_iload_n hx hb dX3_hasItems_8 rfl (lv_at hl 2 rfl) ?_
      refine lv_i2l hx hb dX3_hasItems_9 rfl ?_
      refine lv_iload_n hx hb dX3_hasItems_10 rfl (lv_at hl 3 rfl) ?_
      refine lv_i2l hx hb dX3_hasItems_11 rfl ?_
      refine lv_ladd hx hb dX3_hasItems_12 ?_
      refine lv_aload_n hx hb dX3_hasItems_13 rfl (lv_at hl 0 rfl) ?_
      refine lz_get (G := G) (ci := 3) (v := .ref (q 2)) (C := RX3) (T := TX3) (N := 13) hx hb hu_wsX30 (fun _ h9 => h9) hown hK hP 0 rfl rfl 2 (by decide) hw1 rfl rfl dX3_hasItems_14 ?_
      refine lv_iload_n hx hb dX3_hasItems_17 rfl (lv_at hl 1 rfl) ?_
      refine lz_iald (f := ln) hx hb hK hP 1 rfl rr (by omega) (Nat.le_of_ble_eq_true rfl) dX3_hasItems_18 ?_
      refine lv_i2l hx hb dX3_hasItems_19 rfl ?_
      refine W.lcmp hx hb dX3_hasItems_20 ?_
      refine lv_if_gt (tgt := 28) hx hb dX3_hasItems_21 (by decide) (fun c_21 => ?_) (fun c_21 => ?_)
      · skip
        have c_21 := (lg_gt _ _).mp c_21
        have c_21' := Int64.not_le.mpr c_21
        refine lv_iconst (v := 0) hx hb dX3_hasItems_28 (by decide) ?_
        exact ro_zret hx hb hr hlk dX3_hasItems_29 (by simp [hasB, b2, c_1, c_1', c_5, c_5', c_21, c_21'])
      · skip
        have c_21 := mt (lg_gt _ _).mpr c_21
        have c_21' := Int64.not_lt.mp c_21
        refine lv_iconst (v := 1) hx hb dX3_hasItems_24 (by decide) ?_
        refine lv_goto (tgt := 29) hx hb dX3_hasItems_25 (by decide) ?_
        exact ro_zret hx hb hr hlk dX3_hasItems_29 (by simp [hasB, b2, c_1, c_1', c_5, c_5', c_21, c_21'])
set_option maxHeartbeats 4000000 in
set_option maxRecDepth 100000 in
theorem c_X3_rowsThere (l : Launch) (G : lzG) (x : Nat) (q : Nat → Nat) (S : Nat → Int32) (ln : Nat → Int32)  : Met l yX3_rowsThere wsX3_rowsThere ({ frames := 1, cells := 0, slots := 0, locals := 21 }) (va_Pc [.ref x] (roP G (lzX x q S ++ lzI G (q 2) 8 ln))) (vp_Si (fun r => r = cntI (fun z => !decide (ln z = -1000000)) 8)) 0 0 (fun _ => False) := by
  refine ro_start (cc := cX3_rowsThere) (maxL := 3) (ret := (some .int)) (by decide) rfl (Nat.le_of_ble_eq_true rfl) ?_
  intro pp ee ss mm bl me cd hx hb hr hlk hml hts hown hP hK ls hl
  have hown : ss.vm.findClass RX3 = some mm.cls := hown
  have hl : lv_has ls 3 [(0, .ref x)] := hl
  refine lv_iconst (v := 0) hx hb dX3_rowsThere_0 (by decide) ?_
  refine lv_istore_n (lv' := [(1, .int 0), (0, .ref x)]) hx hb dX3_rowsThere_1 rfl hl (by decide) rfl (fun ls hl => ?_)
  refine lv_iconst (v := 0) hx hb dX3_rowsThere_2 (by decide) ?_
  refine lv_istore_n (lv' := [(2, .int 0), (1, .int 0), (0, .ref x)]) hx hb dX3_rowsThere_3 rfl hl (by decide) rfl (fun ls hl => ?_)
  have J_4 : ∀ (n9 : Nat), ∀ (k : Nat), (k ≤ 8) → 8 - k < n9 → ∀ ls : Array Slot, lv_has ls 3 [(1, .int (cntI (fun z => !decide (ln z = -1000000)) k)), (2, .int (nI k)), (0, .ref x)] → W pp l ee ({ frames := 1, cells := 0, slots := 0, locals := 21 }) ss mm ([.ref x] : List Value).toArray bl me cd ss.heap [] 0 0 (MQ bl (vp_Si (fun r => r = cntI (fun z => !decide (ln z = -1000000)) 8)) ([.ref x] : List Value).toArray ss 0 0 (fun _ => False)) (F0 mm 4 ls []) := by
    intro n9
    induction n9 with
    | zero => intro k hk hn; exact absurd hn (Nat.not_lt_zero _)
    | succ n9 ih_4 =>
      intro k hk hn_4 ls hl
      refine lv_iload_n hx hb dX3_rowsThere_4 rfl (lv_at hl 1 rfl) ?_
      refine lv_bipush (v := 8) hx hb dX3_rowsThere_5 (by decide) ?_
      refine lv_icmp_ge (tgt := 27) hx hb dX3_rowsThere_7 (by decide) (fun c_7 => ?_) (fun c_7 => ?_)
      · skip
        have c_7' := Int32.not_lt.mpr c_7
        have hk2 : 8 ≤ k := lz_ge (N := 8) rfl c_7 (by omega) (by omega)
        have hk3 : k = 8 := by omega
        refine lv_iload_n hx hb dX3_rowsThere_27 rfl (lv_at hl 0 rfl) ?_
        exact ro_iret hx hb hr hlk dX3_rowsThere_28 (by rw [hk3])
      · skip
        have c_7' := Int32.not_le.mp c_7
        have hk2 : k < 8 := lz_lt (N := 8) rfl c_7 (by omega) (by omega)
        refine lv_aload_n hx hb dX3_rowsThere_10 rfl (lv_at hl 2 rfl) ?_
        refine lv_iload_n hx hb dX3_rowsThere_11 rfl (lv_at hl 1 rfl) ?_
        refine ro_calli (va_runV (As := [.int (nI k)]) (rest := []) ⟨hx, hb, hml, hown, hts⟩ (c_X3_isMissing l G x q S ln k (by omega)) (cwV 1 hts gX3_rowsThere_X3_isMissing rfl rfl rfl (by decide +kernel) ⟨Nat.le_of_ble_eq_true rfl, Nat.le_of_ble_eq_true rfl⟩) (ro_preV hK hP hP (ci := 3) (q0 := 0) rfl rfl) rfl rfl hl.1 rfl (lv_room (Nat.le_of_ble_eq_true rfl)) dX3_rowsThere_12 ⟨Nat.zero_le _, Nat.zero_le _⟩) (fun r_1 hr_1 => ?_)
        refine lv_if_ne (tgt := 21) hx hb dX3_rowsThere_15 (by decide) (fun c_15 => ?_) (fun c_15 => ?_)
        · skip
          have c_15 := b2_n hr_1 c_15
          refine lv_iinc (v := nI (k + 1)) (lv' := [(2, .int (nI (k + 1))), (1, .int (cntI (fun z => !decide (ln z = -1000000)) k)), (0, .ref x)]) hx hb dX3_rowsThere_21 hl (k := 1) rfl (nI_1 _) (by decide) rfl (fun ls hl => ?_)
          refine lv_goto (tgt := 4) hx hb dX3_rowsThere_24 (by decide) ?_
          rw [show (cntI (fun z => !decide (ln z = -1000000)) k : Int32) = cntI (fun z => !decide (ln z = -1000000)) (k + 1) from by simp [cntI, b2, c_7, c_7', c_15]] at hl
          exact ih_4 (k + 1) (by omega) (by omega) _ (lv_sub hl [1, 0, 2] rfl)
        · skip
          have c_15 := b2_z hr_1 c_15
          obtain ⟨x_2, ex_2⟩ : ∃ y : Int32, y = (cntI (fun z => !decide (ln z = -1000000)) k) + 1 := ⟨_, rfl⟩
          refine lv_iinc (v := x_2) (lv' := [(1, .int x_2), (2, .int (nI k)), (0, .ref x)]) hx hb dX3_rowsThere_18 hl (k := 0) rfl (by rw [ex_2]; rfl) (by decide) rfl (fun ls hl => ?_)
          refine lv_iinc (v := nI (k + 1)) (lv' := [(2, .int (nI (k + 1))), (1, .int x_2), (0, .ref x)]) hx hb dX3_rowsThere_21 hl (k := 1) rfl (nI_1 _) (by decide) rfl (fun ls hl => ?_)
          refine lv_goto (tgt := 4) hx hb dX3_rowsThere_24 (by decide) ?_
          obtain rfl : x_2 = cntI (fun z => !decide (ln z = -1000000)) (k + 1) := by rw [ex_2]; simp [cntI, b2, c_7, c_7', c_15]
          exact ih_4 (k + 1) (by omega) (by omega) _ (lv_sub hl [1, 0, 2] rfl)
  exact J_4 _ 0 (by omega) (Nat.lt_succ_self _) _ (lv_sub hl [1, 0, 2] rfl)
