set_option maxHeartbeats 4000000 in
set_option maxRecDepth 100000 in
theorem c_X1_putTo (l : Launch) (G : lzG) (h : Nat) (q : Nat → Nat) (S : Nat → Int32) (F : Nat → Nat → Int32) (v : Nat) (set : Int32) (N : Nat) (hv : v < 5) (hN : S 2 = nI N) (hN8 : N ≤ 8) : Met l yX1_putTo wsX1_putTo ({ frames := 5, cells := 0, slots := 0, locals := 112 }) (va_Pc [.ref h, .int (nI v), .int set] (rwP G (lzDoor G h q S F))) (va_Qi (S := Unit) (fun (r : Int32) (_ : Unit) => r = b2 (putB S F v set N)) (rwB G (fun _ : Unit => lzDoor G h q S (putF S F v set N))) (lzA (lzDoor G h q S F))) 0 0 (lzA (lzDoor G h q S F)) := by
  refine rw_start (S := Unit) (cc := cX1_putTo) (maxL := 3) (ret := (some .boolean)) (by decide) rfl (Nat.le_of_ble_eq_true rfl) ?_
  intro pp ee ss mm bl me cd A hx hb hr hlk hml hts hown hP hK hD hAe hS ls hl
  have hA0 : ∀ zz : Nat, lzA (lzDoor G h q S F) zz → A zz := fun zz h9 => by rw [hAe]; exact h9
  rw [← hAe]
  clear hAe
  have hown : ss.vm.findClass RX1 = some mm.cls := hown
  have hw1 := hts (.fieldLink RX1 46 "LampSquares$Door" "timesAsked" "[I") (List.mem_of_getElem? (i := 1) rfl)
  have hw2 := hts (.fieldLink RX1 15 "LampSquares$Door" "strict" "I") (List.mem_of_getElem? (i := 2) rfl)
  have hw3 := hts (.fieldLink RX1 49 "LampSquares$Door" "timesLetIn" "[I") (List.mem_of_getElem? (i := 3) rfl)
  have hu_wsX10 : ∀ w ∈ wsX10, w.before ([.ref h, .int (nI v), .int set] : List Value).toArray ss = true := fun w h9 => hts w (List.mem_cons_of_mem _ (List.mem_append_right _ h9))
  have hl : lv_has ls 3 [(0, .ref h), (1, .int (nI v)), (2, .int set)] := hl
  refine lv_aload_n hx hb dX1_putTo_0 rfl (lv_at hl 0 rfl) ?_
  refine lz_get (G := G) (ci := 1) (v := .ref (q 11)) (C := RX1) (T := TX1) (N := 14) hx hb hu_wsX10 (fun _ h9 => h9) hown hK hP 0 rfl rfl 11 (by decide) hw1 rfl rfl dX1_putTo_1 ?_
  refine lv_iload_n hx hb dX1_putTo_4 rfl (lv_at hl 1 rfl) ?_
  refine lv_dup2_11 hx hb dX1_putTo_5 rfl rfl ?_
  refine lz_iald (f := F 11) hx hb hK hP 8 rfl v (by omega) (Nat.le_of_ble_eq_true rfl) dX1_putTo_6 ?_
  refine lv_iconst (v := 1) hx hb dX1_putTo_7 (by decide) ?_
  refine lv_iadd hx hb dX1_putTo_8 ?_
  refine lz_iast (f := F 11) hx hb hK hP hD hS 8 rfl v (by omega) (Nat.le_of_ble_eq_true rfl) dX1_putTo_9 (lzDoor G h q S (lzF F 11 (upd (F 11) v (((F 11) v) + 1)))) rfl (fun H locs hP hD hS => ?_)
  refine lv_aload_n hx hb dX1_putTo_10 rfl (lv_at hl 0 rfl) ?_
  refine lv_iload_n hx hb dX1_putTo_11 rfl (lv_at hl 1 rfl) ?_
  refine lv_iload_n hx hb dX1_putTo_12 rfl (lv_at hl 2 rfl) ?_
  refine ro_calli (va_runV (As := [.int (nI v), .int set]) (rest := []) ⟨hx, hb, hml, hown, hts⟩ (c_X1_timesWrong l G h q S (lzF F 11 (upd (F 11) v (((F 11) v) + 1))) v set N (by omega) (hN) (hN8)) (cwV 2 hts gX1_putTo_X1_timesWrong rfl rfl rfl (by decide +kernel) ⟨Nat.le_of_ble_eq_true rfl, Nat.le_of_ble_eq_true rfl⟩) (ro_preV hK hP hP (ci := 1) (q0 := 0) rfl rfl) rfl rfl hl.1 rfl (lv_room (Nat.le_of_ble_eq_true rfl)) dX1_putTo_13 ⟨Nat.zero_le _, Nat.zero_le _⟩) (fun r_1 hr_1 => ?_)
  refine lz_top (y := bcI (wrbD S (lzF F 11 (upd (F 11) v (((F 11) v) + 1))) v N &&& set)) hr_1 ?_
  refine lz_top (y := bcI (wrbD S F v N &&& set)) (rfl) ?_
  refine lv_aload_n hx hb dX1_putTo_16 rfl (lv_at hl 0 rfl) ?_
  refine lz_get (G := G) (ci := 1) (v := .int (S 1)) (C := RX1) (T := TX1) (N := 14) hx hb hu_wsX10 (fun _ h9 => h9) hown hK hP 0 rfl rfl 1 (by decide) hw2 rfl rfl dX1_putTo_17 ?_
  refine lv_icmp_le (tgt := 25) hx hb dX1_putTo_20 (by decide) (fun c_20 => ?_) (fun c_20 => ?_)
  · skip
    have c_20' := Int32.not_lt.mpr c_20
    have hB : putB S F v set N = true := decide_eq_true c_20
    refine lv_aload_n hx hb dX1_putTo_25 rfl (lv_at hl 0 rfl) ?_
    refine lz_get (G := G) (ci := 1) (v := .ref (q 12)) (C := RX1) (T := TX1) (N := 14) hx hb hu_wsX10 (fun _ h9 => h9) hown hK hP 0 rfl rfl 12 (by decide) hw3 rfl rfl dX1_putTo_26 ?_
    refine lv_iload_n hx hb dX1_putTo_29 rfl (lv_at hl 1 rfl) ?_
    refine lv_dup2_11 hx hb dX1_putTo_30 rfl rfl ?_
    refine lz_iald (f := F 12) hx hb hK hP 9 rfl v (by omega) (Nat.le_of_ble_eq_true rfl) dX1_putTo_31 ?_
    refine lv_iconst (v := 1) hx hb dX1_putTo_32 (by decide) ?_
    refine lv_iadd hx hb dX1_putTo_33 ?_
    refine lz_iast (f := F 12) hx hb hK hP hD hS 9 rfl v (by omega) (Nat.le_of_ble_eq_true rfl) dX1_putTo_34 (lzDoor G h q S (lzF (lzF F 11 (upd (F 11) v (((F 11) v) + 1))) 12 (upd (F 12) v (((F 12) v) + 1)))) rfl (fun H locs hP hD hS => ?_)
    refine lv_aload_n hx hb dX1_putTo_35 rfl (lv_at hl 0 rfl) ?_
    refine lv_iload_n hx hb dX1_putTo_36 rfl (lv_at hl 2 rfl) ?_
    refine lv_aload_n hx hb dX1_putTo_37 rfl (lv_at hl 0 rfl) ?_
    refine ro_calli (va_runV (As := []) (rest := [.int set, .ref h]) ⟨hx, hb, hml, hown, hts⟩ (c_X1_countedBits l G h q S (lzF (lzF F 11 (upd (F 11) v (((F 11) v) + 1))) 12 (upd (F 12) v (((F 12) v) + 1))) N (hN) (hN8)) (cwV 0 hts gX1_putTo_X1_countedBits rfl rfl rfl (by decide +kernel) ⟨Nat.le_of_ble_eq_true rfl, Nat.le_of_ble_eq_true rfl⟩) (ro_preV hK hP hP (ci := 1) (q0 := 0) rfl rfl) rfl rfl hl.1 rfl (lv_room (Nat.le_of_ble_eq_true rfl)) dX1_putTo_38 ⟨Nat.zero_le _, Nat.zero_le _⟩) (fun r_2 hr_2 => ?_)
    refine lz_top (y := bitsI (cntD (lzF (lzF F 11 (upd (F 11) v (((F 11) v) + 1))) 12 (upd (F 12) v (((F 12) v) + 1)))) N) hr_2 ?_
    refine lz_top (y := bitsI (cntD F) N) (rfl) ?_
    refine lv_iconst (v := (-1)) hx hb dX1_putTo_41 (by decide) ?_
    refine lv_ixor hx hb dX1_putTo_42 ?_
    refine lv_iand hx hb dX1_putTo_43 ?_
    refine lv_aload_n hx hb dX1_putTo_44 rfl (lv_at hl 0 rfl) ?_
    refine lv_iload_n hx hb dX1_putTo_45 rfl (lv_at hl 1 rfl) ?_
    refine ro_calli (va_runV (As := [.int (nI v)]) (rest := [.int (set &&& ((bitsI (cntD F) N) ^^^ (-1))), .ref h]) ⟨hx, hb, hml, hown, hts⟩ (c_X1_clickBits l G h q S (lzF (lzF F 11 (upd (F 11) v (((F 11) v) + 1))) 12 (upd (F 12) v (((F 12) v) + 1))) v N (by omega) (hN) (hN8)) (cwV 1 hts gX1_putTo_X1_clickBits rfl rfl rfl (by decide +kernel) ⟨Nat.le_of_ble_eq_true rfl, Nat.le_of_ble_eq_true rfl⟩) (ro_preV hK hP hP (ci := 1) (q0 := 0) rfl rfl) rfl rfl hl.1 rfl (lv_room (Nat.le_of_ble_eq_true rfl)) dX1_putTo_46 ⟨Nat.zero_le _, Nat.zero_le _⟩) (fun r_3 hr_3 => ?_)
    refine lz_top (y := bitsI (clkD (lzF (lzF F 11 (upd (F 11) v (((F 11) v) + 1))) 12 (upd (F 12) v (((F 12) v) + 1))) v) N) hr_3 ?_
    refine lz_top (y := bitsI (clkD F v) N) (rfl) ?_
    have hFc : ∀ zz : Nat, lzA (lzDoor G h q S (lzF (lzF F 11 (upd (F 11) v (((F 11) v) + 1))) 12 (upd (F 12) v (((F 12) v) + 1)))) zz → A zz := lz_free hD [0, 1, 2, 3, 4, 5, 6, 7, 8, 9, 10] rfl
    refine va_callv (va_runV (As := [.int (set &&& ((bitsI (cntD F) N) ^^^ (-1))), .int (bitsI (clkD F v) N)]) (rest := []) ⟨hx, hb, hml, hown, hts⟩ (c_X1_vote l G h q S (lzF (lzF F 11 (upd (F 11) v (((F 11) v) + 1))) 12 (upd (F 12) v (((F 12) v) + 1))) (set &&& ((bitsI (cntD F) N) ^^^ (-1))) (bitsI (clkD F v) N) N (hN) (hN8)) (cwV 2 hts gX1_putTo_X1_vote rfl rfl rfl (by decide +kernel) ⟨Nat.le_of_ble_eq_true rfl, Nat.le_of_ble_eq_true rfl⟩) (rw_preV hK hP hD hP (ci := 1) (q0 := 0) rfl rfl) rfl rfl hl.1 rfl (lv_room (Nat.le_of_ble_eq_true rfl)) dX1_putTo_49 ⟨Nat.zero_le _, Nat.zero_le _⟩) hS (fun q _ h => hFc q h) hFc (fun u_5 t9 H1 locs ht hvm hr_4 hB hz1 hk1 hS => ?_)
    replace hB : va_P G.1 lzC _ t9.heap := hB
    rw [ht] at hB
    obtain ⟨hP, hD⟩ := lz_join (wc := lzDoor G h q S (lzF (lzF F 11 (upd (F 11) v (((F 11) v) + 1))) 12 (upd (F 12) v (((F 12) v) + 1)))) (wr := ([] : va_W)) (w1 := lzDoor G h q S (lzF (lzF (lzF (lzF F 11 (upd (F 11) v (((F 11) v) + 1))) 12 (upd (F 12) v (((F 12) v) + 1))) 6 (votS ((F 6)) (fun z => hasI (set &&& ((bitsI (cntD F) N) ^^^ (-1))) z && hasI (bitsI (clkD F v) N) z) N)) 7 (votS ((F 7)) (fun z => hasI (set &&& ((bitsI (cntD F) N) ^^^ (-1))) z && !hasI (bitsI (clkD F v) N) z) N))) hP hD [0, 1, 2, 3, 4, 5, 6, 7, 8, 9, 10] [] rfl rfl (by decide) (by decide) rfl hk1 hB
    replace hP := hP.sub (ws' := lzDoor G h q S (lzF (lzF (lzF (lzF F 11 (upd (F 11) v (((F 11) v) + 1))) 12 (upd (F 12) v (((F 12) v) + 1))) 6 (votS ((F 6)) (fun z => hasI (set &&& ((bitsI (cntD F) N) ^^^ (-1))) z && hasI (bitsI (clkD F v) N) z) N)) 7 (votS ((F 7)) (fun z => hasI (set &&& ((bitsI (cntD F) N) ^^^ (-1))) z && !hasI (bitsI (clkD F v) N) z) N))) [0, 1, 2, 3, 4, 5, 6, 7, 8, 9, 10] rfl
    replace hD := hD.sub (ws' := lzDoor G h q S (lzF (lzF (lzF (lzF F 11 (upd (F 11) v (((F 11) v) + 1))) 12 (upd (F 12) v (((F 12) v) + 1))) 6 (votS ((F 6)) (fun z => hasI (set &&& ((bitsI (cntD F) N) ^^^ (-1))) z && hasI (bitsI (clkD F v) N) z) N)) 7 (votS ((F 7)) (fun z => hasI (set &&& ((bitsI (cntD F) N) ^^^ (-1))) z && !hasI (bitsI (clkD F v) N) z) N))) [0, 1, 2, 3, 4, 5, 6, 7, 8, 9, 10] (by decide) rfl
    clear ht hvm hB hz1 hk1
    generalize H1 = H at hP hS ⊢
    refine lv_iconst (v := 1) hx hb dX1_putTo_52 (by decide) ?_
    exact rw_zret (S := Unit) (G := G) (Wd := fun _ : Unit => lzDoor G h q S (putF S F v set N)) (B := putB S F v set N) () hx hb hr hlk dX1_putTo_53 hS (by show va_P G.1 lzC (lzDoor G h q S (putF S F v set N)) H; unfold putF; rw [hB]; exact hP) (by rw [hB]; rfl) (rfl)
  · skip
    have c_20' := Int32.not_le.mp c_20
    have hB : putB S F v set N = false := decide_eq_false c_20
    refine lv_iconst (v := 0) hx hb dX1_putTo_23 (by decide) ?_
    exact rw_zret (S := Unit) (G := G) (Wd := fun _ : Unit => lzDoor G h q S (putF S F v set N)) (B := putB S F v set N) () hx hb hr hlk dX1_putTo_24 hS (by show va_P G.1 lzC (lzDoor G h q S (putF S F v set N)) H; unfold putF; rw [hB]; exact hP) (by rw [hB]; rfl) (rfl)
set_option maxHeartbeats 4000000 in
set_option maxRecDepth 100000 in
theorem c_X1_fewestWithin (l : Launch) (G : lzG) (h : Nat) (q : Nat → Nat) (S : Nat → Int32) (F : Nat → Nat → Int32) (O : Nat) (want : Int32) (N M : Nat) (hN : S 2 = nI N) (hN8 : N ≤ 8) (hM : S 3 = nI M) (hM5 : M ≤ 5) (hO : O < 256) : Met l yX1_fewestWithin wsX1_fewestWithin ({ frames := 5, cells := 0, slots := 0, locals := 111 }) (va_Pc [.ref h, .int (nI O), .int want] (rwP G (lzDoor G h q S F))) (va_Qi (S := Unit) (fun (r : Int32) (_ : Unit) => r = (fewD S F (nI O) want N M (O + 1)).1) (rwB G (fun _ : Unit => lzDoor G h q S (lzF F 13 (fa_fill (fun v => wrbD S F v N) (F 13) M)))) (lzA (lzDoor G h q S F))) 0 0 (lzA (lzDoor G h q S F)) := by
  refine rw_start (S := Unit) (cc := cX1_fewestWithin) (maxL := 7) (ret := (some .int)) (by decide) rfl (Nat.le_of_ble_eq_true rfl) ?_
  intro pp ee ss mm bl me cd A hx hb hr hlk hml hts hown hP hK hD hAe hS ls hl
  have hA0 : ∀ zz : Nat, lzA (lzDoor G h q S F) zz → A zz := fun zz h9 => by rw [hAe]; exact h9
  rw [← hAe]
  clear hAe
  have hown : ss.vm.findClass RX1 = some mm.cls := hown
  have hw1 := hts (.constant RX1 61 (-1000000)) (List.mem_of_getElem? (i := 1) rfl)
  have hl : lv_has ls 7 [(0, .ref h), (1, .int (nI O)), (2, .int want)] := hl
  refine lv_aload_n hx hb dX1_fewestWithin_0 rfl (lv_at hl 0 rfl) ?_
  have hFc : ∀ zz : Nat, lzA (lzDoor G h q S F) zz → A zz := lz_free hD [0, 1, 2, 3, 4, 5, 6, 7, 8, 9, 10] rfl
  refine va_callv (va_runV (As := []) (rest := []) ⟨hx, hb, hml, hown, hts⟩ (c_X1_noteWrong l G h q S F N M (hN) (hN8) (hM) (hM5)) (cwV 0 hts gX1_fewestWithin_X1_noteWrong rfl rfl rfl (by decide +kernel) ⟨Nat.le_of_ble_eq_true rfl, Nat.le_of_ble_eq_true rfl⟩) (rw_preV hK hP hD hP (ci := 1) (q0 := 0) rfl rfl) rfl rfl hl.1 rfl (lv_room (Nat.le_of_ble_eq_true rfl)) dX1_fewestWithin_1 ⟨Nat.zero_le _, Nat.zero_le _⟩) hS (fun q _ h => hFc q h) hFc (fun u_2 t9 H1 locs ht hvm hr_1 hB hz1 hk1 hS => ?_)
  replace hB : va_P G.1 lzC _ t9.heap := hB
  rw [ht] at hB
  obtain ⟨hP, hD⟩ := lz_join (wc := lzDoor G h q S F) (wr := ([] : va_W)) (w1 := lzDoor G h q S (lzF F 13 (fa_fill (fun v => wrbD S F v N) ((F 13)) M))) hP hD [0, 1, 2, 3, 4, 5, 6, 7, 8, 9, 10] [] rfl rfl (by decide) (by decide) rfl hk1 hB
  replace hP := hP.sub (ws' := lzDoor G h q S (lzF F 13 (fa_fill (fun v => wrbD S F v N) ((F 13)) M))) [0, 1, 2, 3, 4, 5, 6, 7, 8, 9, 10] rfl
  replace hD := hD.sub (ws' := lzDoor G h q S (lzF F 13 (fa_fill (fun v => wrbD S F v N) ((F 13)) M))) [0, 1, 2, 3, 4, 5, 6, 7, 8, 9, 10] (by decide) rfl
  clear ht hvm hB hz1 hk1
  generalize H1 = H at hP hS ⊢
  refine lv_ldc hx hb hown hw1 dX1_fewestWithin_4 ?_
  refine lv_istore_n (lv' := [(3, .int (-1000000)), (0, .ref h), (1, .int (nI O)), (2, .int want)]) hx hb dX1_fewestWithin_6 rfl hl (by decide) rfl (fun ls hl => ?_)
  refine lv_bipush (v := 9) hx hb dX1_fewestWithin_7 (by decide) ?_
  refine lv_istore (lv' := [(4, .int 9), (3, .int (-1000000)), (0, .ref h), (1, .int (nI O)), (2, .int want)]) hx hb dX1_fewestWithin_9 hl (by decide) rfl (fun ls hl => ?_)
  refine lv_iconst (v := 0) hx hb dX1_fewestWithin_11 (by decide) ?_
  refine lv_istore (lv' := [(5, .int 0), (4, .int 9), (3, .int (-1000000)), (0, .ref h), (1, .int (nI O)), (2, .int want)]) hx hb dX1_fewestWithin_12 hl (by decide) rfl (fun ls hl => ?_)
  have J_14 : ∀ (n9 : Nat), ∀ (k : Nat), (k ≤ O + 1) → O + 1 - k < n9 → ∀ (H : Heap) (locs : List Loc), va_P G.1 lzC (lzDoor G h q S (lzF F 13 (fa_fill (fun v => wrbD S F v N) ((F 13)) M))) H → va_D A (lzDoor G h q S (lzF F 13 (fa_fill (fun v => wrbD S F v N) ((F 13)) M))) → va_S A ss.heap H locs → ∀ ls : Array Slot, lv_has ls 7 [(3, .int ((fewD S F (nI O) want N M k).1)), (4, .int ((fewD S F (nI O) want N M k).2)), (5, .int (nI k)), (0, .ref h), (1, .int (nI O)), (2, .int want)] → W pp l ee ({ frames := 5, cells := 0, slots := 0, locals := 111 }) ss mm ([.ref h, .int (nI O), .int want] : List Value).toArray bl me cd H locs 0 0 (MQ bl (va_Qi (S := Unit) (fun (r : Int32) (_ : Unit) => r = (fewD S F (nI O) want N M (O + 1)).1) (rwB G (fun _ : Unit => lzDoor G h q S (lzF F 13 (fa_fill (fun v => wrbD S F v N) (F 13) M)))) A) ([.ref h, .int (nI O), .int want] : List Value).toArray ss 0 0 A) (F0 mm 14 ls []) := by
    intro n9
    induction n9 with
    | zero => intro k hk hn; exact absurd hn (Nat.not_lt_zero _)
    | succ n9 ih_14 =>
      intro k hk hn_14 H locs hP hD hS ls hl
      refine lv_iload hx hb dX1_fewestWithin_14 (lv_at hl 2 rfl) ?_
      refine lv_iload_n hx hb dX1_fewestWithin_16 rfl (lv_at hl 4 rfl) ?_
      refine lv_icmp_gt (tgt := 77) hx hb dX1_fewestWithin_17 (by decide) (fun c_17 => ?_) (fun c_17 => ?_)
      · skip
        have c_17' := Int32.not_le.mpr c_17
        have hk2 : O < k := (nI_ltI (by omega) (by omega)).mp c_17
        have hk3 : k = O + 1 := by omega
        refine lv_iload_n hx hb dX1_fewestWithin_77 rfl (lv_at hl 0 rfl) ?_
        exact rw_iret (S := Unit) (G := G) (Wd := fun _ : Unit => lzDoor G h q S (lzF F 13 (fa_fill (fun v => wrbD S F v N) (F 13) M))) () hx hb hr hlk dX1_fewestWithin_78 hS (hP) (by rw [hk3])
      · skip
        have c_17' := Int32.not_lt.mp c_17
        have hk2 : k ≤ O := (nI_leI (by omega) (by omega)).mp c_17'
        refine lv_iload hx hb dX1_fewestWithin_20 (lv_at hl 2 rfl) ?_
        refine lv_iload_n hx hb dX1_fewestWithin_22 rfl (lv_at hl 4 rfl) ?_
        refine lv_iconst (v := (-1)) hx hb dX1_fewestWithin_23 (by decide) ?_
        refine lv_ixor hx hb dX1_fewestWithin_24 ?_
        refine lv_iand hx hb dX1_fewestWithin_25 ?_
        refine lv_if_ne (tgt := 33) hx hb dX1_fewestWithin_26 (by decide) (fun c_26 => ?_) (fun c_26 => ?_)
        · skip
          have c_26 : subB (nI k) (nI O) = false := decide_eq_false c_26
          refine lv_iconst (v := 0) hx hb dX1_fewestWithin_33 (by decide) ?_
          refine lv_istore (lv' := [(6, .int 0), (3, .int ((fewD S F (nI O) want N M k).1)), (4, .int ((fewD S F (nI O) want N M k).2)), (5, .int (nI k)), (0, .ref h), (1, .int (nI O)), (2, .int want)]) hx hb dX1_fewestWithin_34 hl (by decide) rfl (fun ls hl => ?_)
          refine lv_iload hx hb dX1_fewestWithin_36 (lv_at hl 0 rfl) ?_
          refine lv_if_eq (tgt := 71) hx hb dX1_fewestWithin_38 (by decide) (fun c_38 => ?_) (fun c_38 => ?_)
          · skip
            refine lv_iinc (v := nI (k + 1)) (lv' := [(5, .int (nI (k + 1))), (6, .int 0), (3, .int ((fewD S F (nI O) want N M k).1)), (4, .int ((fewD S F (nI O) want N M k).2)), (0, .ref h), (1, .int (nI O)), (2, .int want)]) hx hb dX1_fewestWithin_71 hl (k := 3) rfl (nI_1 _) (by decide) rfl (fun ls hl => ?_)
            refine lv_goto (tgt := 14) hx hb dX1_fewestWithin_74 (by decide) ?_
            rw [show ((fewD S F (nI O) want N M k).1 : Int32) = (fewD S F (nI O) want N M (k + 1)).1 from by simp [fewD, c_17, c_17', c_26]] at hl
            rw [show ((fewD S F (nI O) want N M k).2 : Int32) = (fewD S F (nI O) want N M (k + 1)).2 from by simp [fewD, c_17, c_17', c_26]] at hl
            exact ih_14 (k + 1) (by omega) (by omega) _ _ hP hD hS _ (lv_sub hl [2, 3, 0, 4, 5, 6] rfl)
          · skip
            exact False.elim (by revert c_38; decide)
        · skip
          have c_26 : subB (nI k) (nI O) = true := decide_eq_true c_26
          refine lv_iconst (v := 1) hx hb dX1_fewestWithin_29 (by decide) ?_
          refine lv_goto (tgt := 34) hx hb dX1_fewestWithin_30 (by decide) ?_
          refine lv_istore (lv' := [(6, .int 1), (3, .int ((fewD S F (nI O) want N M k).1)), (4, .int ((fewD S F (nI O) want N M k).2)), (5, .int (nI k)), (0, .ref h), (1, .int (nI O)), (2, .int want)]) hx hb dX1_fewestWithin_34 hl (by decide) rfl (fun ls hl => ?_)
          refine lv_iload hx hb dX1_fewestWithin_36 (lv_at hl 0 rfl) ?_
          refine lv_if_eq (tgt := 71) hx hb dX1_fewestWithin_38 (by decide) (fun c_38 => ?_) (fun c_38 => ?_)
          · skip
            exact False.elim (by revert c_38; decide)
          · skip
            refine lv_iload hx hb dX1_fewestWithin_41 (lv_at hl 3 rfl) ?_
            refine ro_calli (va_runS (As := [.int (nI k)]) (rest := []) ⟨hx, hb, hml, hown, hts⟩ (c_J6_bitCount_0f7a4 l G (nI k) ) (va_cwS 1 hts gX1_fewestWithin_J6_bitCount_0f7a4 rfl rfl rfl (by decide +kernel) ⟨Nat.le_of_ble_eq_true rfl, Nat.le_of_ble_eq_true rfl⟩) (ro_pre hK (fun k q h => by simp at h)) rfl rfl hl.1 rfl (lv_room (Nat.le_of_ble_eq_true rfl)) dX1_fewestWithin_43 ⟨Nat.zero_le _, Nat.zero_le _⟩) (fun r_3 hr_3 => ?_)
            refine lz_top (y := bcI (nI k)) hr_3 ?_
            refine lv_iload hx hb dX1_fewestWithin_46 (lv_at hl 2 rfl) ?_
            refine lv_icmp_ge (tgt := 71) hx hb dX1_fewestWithin_48 (by decide) (fun c_48 => ?_) (fun c_48 => ?_)
            · skip
              have c_48' := Int32.not_lt.mpr c_48
              refine lv_iinc (v := nI (k + 1)) (lv' := [(5, .int (nI (k + 1))), (6, .int 1), (3, .int ((fewD S F (nI O) want N M k).1)), (4, .int ((fewD S F (nI O) want N M k).2)), (0, .ref h), (1, .int (nI O)), (2, .int want)]) hx hb dX1_fewestWithin_71 hl (k := 3) rfl (nI_1 _) (by decide) rfl (fun ls hl => ?_)
              refine lv_goto (tgt := 14) hx hb dX1_fewestWithin_74 (by decide) ?_
              rw [show ((fewD S F (nI O) want N M k).1 : Int32) = (fewD S F (nI O) want N M (k + 1)).1 from by simp [fewD, c_17, c_17', c_26, c_48, c_48']] at hl
              rw [show ((fewD S F (nI O) want N M k).2 : Int32) = (fewD S F (nI O) want N M (k + 1)).2 from by simp [fewD, c_17, c_17', c_26, c_48, c_48']] at hl
              exact ih_14 (k + 1) (by omega) (by omega) _ _ hP hD hS _ (lv_sub hl [2, 3, 0, 4, 5, 6] rfl)
            · skip
              have c_48' := Int32.not_le.mp c_48
              refine lv_aload_n hx hb dX1_fewestWithin_51 rfl (lv_at hl 4 rfl) ?_
              refine lv_iload hx hb dX1_fewestWithin_52 (lv_at hl 3 rfl) ?_
              refine ro_calli (va_runV (As := [.int (nI k)]) (rest := []) ⟨hx, hb, hml, hown, hts⟩ (c_X1_notedGuests l G h q S (lzF F 13 (fa_fill (fun v => wrbD S F v N) ((F 13)) M)) (nI k) M (hM) (hM5)) (cwV 1 hts gX1_fewestWithin_X1_notedGuests rfl rfl rfl (by decide +kernel) ⟨Nat.le_of_ble_eq_true rfl, Nat.le_of_ble_eq_true rfl⟩) (ro_preV hK hP hP (ci := 1) (q0 := 0) rfl rfl) rfl rfl hl.1 rfl (lv_room (Nat.le_of_ble_eq_true rfl)) dX1_fewestWithin_54 ⟨Nat.zero_le _, Nat.zero_le _⟩) (fun r_4 hr_4 => ?_)
              refine lz_top (y := bitsI (fun v => decide (bcI ((fa_fill (fun v => wrbD S F v N) ((F 13)) M) v &&& (nI k)) ≤ (S 1))) M) hr_4 ?_
              refine lz_top (y := gstD S F (nI k) N M) (gstD_noted _) ?_
              refine lv_iload_n hx hb dX1_fewestWithin_57 rfl (lv_at hl 6 rfl) ?_
              refine lv_icmp_ne (tgt := 71) hx hb dX1_fewestWithin_58 (by decide) (fun c_58 => ?_) (fun c_58 => ?_)
              · skip
                refine lv_iinc (v := nI (k + 1)) (lv' := [(5, .int (nI (k + 1))), (6, .int 1), (3, .int ((fewD S F (nI O) want N M k).1)), (4, .int ((fewD S F (nI O) want N M k).2)), (0, .ref h), (1, .int (nI O)), (2, .int want)]) hx hb dX1_fewestWithin_71 hl (k := 3) rfl (nI_1 _) (by decide) rfl (fun ls hl => ?_)
                refine lv_goto (tgt := 14) hx hb dX1_fewestWithin_74 (by decide) ?_
                rw [show ((fewD S F (nI O) want N M k).1 : Int32) = (fewD S F (nI O) want N M (k + 1)).1 from by simp [fewD, c_17, c_17', c_26, c_48, c_48', c_58]] at hl
                rw [show ((fewD S F (nI O) want N M k).2 : Int32) = (fewD S F (nI O) want N M (k + 1)).2 from by simp [fewD, c_17, c_17', c_26, c_48, c_48', c_58]] at hl
                exact ih_14 (k + 1) (by omega) (by omega) _ _ hP hD hS _ (lv_sub hl [2, 3, 0, 4, 5, 6] rfl)
              · skip
                refine lv_iload hx hb dX1_fewestWithin_61 (lv_at hl 3 rfl) ?_
                refine lv_istore_n (lv' := [(3, .int (nI k)), (6, .int 1), (4, .int ((fewD S F (nI O) want N M k).2)), (5, .int (nI k)), (0, .ref h), (1, .int (nI O)), (2, .int want)]) hx hb dX1_fewestWithin_63 rfl hl (by decide) rfl (fun ls hl => ?_)
                refine lv_iload hx hb dX1_fewestWithin_64 (lv_at hl 3 rfl) ?_
                refine ro_calli (va_runS (As := [.int (nI k)]) (rest := []) ⟨hx, hb, hml, hown, hts⟩ (c_J6_bitCount_0f7a4 l G (nI k) ) (va_cwS 1 hts gX1_fewestWithin_J6_bitCount_0f7a4 rfl rfl rfl (by decide +kernel) ⟨Nat.le_of_ble_eq_true rfl, Nat.le_of_ble_eq_true rfl⟩) (ro_pre hK (fun k q h => by simp at h)) rfl rfl hl.1 rfl (lv_room (Nat.le_of_ble_eq_true rfl)) dX1_fewestWithin_66 ⟨Nat.zero_le _, Nat.zero_le _⟩) (fun r_5 hr_5 => ?_)
                refine lz_top (y := bcI (nI k)) hr_5 ?_
                refine lv_topi (fun x_6 ex_6 => ?_)
                refine lv_istore (lv' := [(4, .int x_6), (3, .int (nI k)), (6, .int 1), (5, .int (nI k)), (0, .ref h), (1, .int (nI O)), (2, .int want)]) hx hb dX1_fewestWithin_69 hl (by decide) rfl (fun ls hl => ?_)
                refine lv_iinc (v := nI (k + 1)) (lv' := [(5, .int (nI (k + 1))), (4, .int x_6), (3, .int (nI k)), (6, .int 1), (0, .ref h), (1, .int (nI O)), (2, .int want)]) hx hb dX1_fewestWithin_71 hl (k := 3) rfl (nI_1 _) (by decide) rfl (fun ls hl => ?_)
                refine lv_goto (tgt := 14) hx hb dX1_fewestWithin_74 (by decide) ?_
                rw [show (nI k : Int32) = (fewD S F (nI O) want N M (k + 1)).1 from by simp [fewD, c_17, c_17', c_26, c_48, c_48', c_58]] at hl
                obtain rfl : x_6 = (fewD S F (nI O) want N M (k + 1)).2 := by rw [ex_6]; simp [fewD, c_17, c_17', c_26, c_48, c_48', c_58]
                exact ih_14 (k + 1) (by omega) (by omega) _ _ hP hD hS _ (lv_sub hl [2, 1, 0, 4, 5, 6] rfl)
  exact J_14 _ 0 (by omega) (Nat.lt_succ_self _) _ _ hP hD hS _ (lv_sub hl [2, 1, 0, 3, 4, 5] rfl)
set_option maxHeartbeats 4000000 in
set_option maxRecDepth 100000 in
theorem c_X3_lentSize (l : Launch) (G : lzG) (x : Nat) (q : Nat → Nat) (S : Nat → Int32) (t : Nat → Int32) (qh : Nat → Nat) (D : Nat → Int32) (F : Nat → Nat → Int32) (s T : Nat) (hs : s < 8) (hT : S 11 = nI T) (hT16 : T + 1 ≤ 16) : Met l yX3_lentSize wsX3_lentSize ({ frames := 1, cells := 0, slots := 0, locals := 21 }) (va_Pc [.ref x, .int (nI s)] (rwP G (lzX x q S ++ (lzI G (q 10) 16 t ++ (lzDoor G (q 6) qh D F))))) (va_Qi (S := Unit) (fun (r : Int32) (_ : Unit) => r = F 5 s) (rwB G (fun _ : Unit => (lzX x q (upd S 11 (nI (T + 1))) ++ (lzI G (q 10) 16 (upd t T 10) ++ (lzDoor G (q 6) qh D F))))) (lzA (lzX x q S ++ (lzI G (q 10) 16 t ++ (lzDoor G (q 6) qh D F))))) 0 0 (lzA (lzX x q S ++ (lzI G (q 10) 16 t ++ (lzDoor G (q 6) qh D F)))) := by
  refine rw_start (S := Unit) (cc := cX3_lentSize) (maxL := 2) (ret := (some .int)) (by decide) rfl (Nat.le_of_ble_eq_true rfl) ?_
  intro pp ee ss mm bl me cd A hx hb hr hlk hml hts hown hP hK hD hAe hS ls hl
  have hA0 : ∀ zz : Nat, lzA (lzX x q S ++ (lzI G (q 10) 16 t ++ (lzDoor G (q 6) qh D F))) zz → A zz := fun zz h9 => by rw [hAe]; exact h9
  rw [← hAe]
  clear hAe
  have hown : ss.vm.findClass RX3 = some mm.cls := hown
  have hw1 := hts (.fieldLink RX3 38 "LampSquares" "here" "LLampSquares$Door;") (List.mem_of_getElem? (i := 1) rfl)
  have hw2 := hts (.fieldLink RX3 164 "LampSquares$Door" "shareOf" "[I") (List.mem_of_getElem? (i := 2) rfl)
  have hu_wsX10 : ∀ w ∈ wsX10, w.before ([.ref x, .int (nI s)] : List Value).toArray ss = true := fun w h9 => hts w (List.mem_cons_of_mem _ (List.mem_append_right _ h9))
  have hu_wsX30 : ∀ w ∈ wsX30, w.before ([.ref x, .int (nI s)] : List Value).toArray ss = true := fun w h9 => hts w (List.mem_cons_of_mem _ (List.mem_append_left _ (List.mem_append_right _ h9)))
  have hl : lv_has ls 2 [(0, .ref x), (1, .int (nI s))] := hl
  refine lv_aload_n hx hb dX3_lentSize_0 rfl (lv_at hl 0 rfl) ?_
  refine lv_bipush (v := 10) hx hb dX3_lentSize_1 (by decide) ?_
  have hPc := hP.sub (ws' := (lzX x q S ++ lzI G (q 10) 16 t)) [0, 1] rfl
  have hDc := hD.sub (ws' := (lzX x q S ++ lzI G (q 10) 16 t)) [0, 1] (by decide) rfl
  have hFc : ∀ zz : Nat, lzA (lzX x q S ++ lzI G (q 10) 16 t) zz → A zz := lz_free hD [0, 1] rfl
  refine va_callv (va_runV (As := [.int 10]) (rest := []) ⟨hx, hb, hml, hown, hts⟩ (c_X3_begin l G x q S t T 10 (hT) (by omega)) (cwV 1 hts gX3_lentSize_X3_begin rfl rfl rfl (by decide +kernel) ⟨Nat.le_of_ble_eq_true rfl, Nat.le_of_ble_eq_true rfl⟩) (rw_preV hK hPc hDc hP (ci := 3) (q0 := 0) rfl rfl) rfl rfl hl.1 rfl (lv_room (Nat.le_of_ble_eq_true rfl)) dX3_lentSize_3 ⟨Nat.zero_le _, Nat.zero_le _⟩) hS (fun q _ h => hFc q h) hFc (fun u_2 t9 H1 locs ht hvm hr_1 hB hz1 hk1 hS => ?_)
  replace hB : va_P G.1 lzC _ t9.heap := hB
  rw [ht] at hB
  obtain ⟨hP, hD⟩ := lz_join (wc := (lzX x q S ++ lzI G (q 10) 16 t)) (wr := ([(q 6, .inr (1, [.int (D 0), .int (D 1), .int (D 2), .int (D 3), .ref (qh 4), .ref (qh 5), .ref (qh 6), .ref (qh 7), .ref (qh 8), .ref (qh 9), .ref (qh 10), .ref (qh 11), .ref (qh 12), .ref (qh 13)])), (qh 4, .inl (G.2 0, 8, .inl (F 4))), (qh 5, .inl (G.2 0, 8, .inl (F 5))), (qh 6, .inl (G.2 0, 8, .inl (F 6))), (qh 7, .inl (G.2 0, 8, .inl (F 7))), (qh 8, .inl (G.2 0, 8, .inl (F 8))), (qh 9, .inl (G.2 0, 5, .inl (F 9))), (qh 10, .inl (G.2 0, 5, .inl (F 10))), (qh 11, .inl (G.2 0, 5, .inl (F 11))), (qh 12, .inl (G.2 0, 5, .inl (F 12))), (qh 13, .inl (G.2 0, 5, .inl (F 13)))] : va_W)) (w1 := (lzX x q (upd S 11 (nI (T + 1))) ++ lzI G (q 10) 16 (upd t T 10))) hP hD [0, 1] [2, 3, 4, 5, 6, 7, 8, 9, 10, 11, 12] rfl rfl (by decide) (by decide) rfl hk1 hB
  replace hP := hP.sub (ws' := (lzX x q (upd S 11 (nI (T + 1))) ++ (lzI G (q 10) 16 (upd t T 10) ++ (lzDoor G (q 6) qh D F)))) [11, 12, 0, 1, 2, 3, 4, 5, 6, 7, 8, 9, 10] rfl
  replace hD := hD.sub (ws' := (lzX x q (upd S 11 (nI (T + 1))) ++ (lzI G (q 10) 16 (upd t T 10) ++ (lzDoor G (q 6) qh D F)))) [11, 12, 0, 1, 2, 3, 4, 5, 6, 7, 8, 9, 10] (by decide) rfl
  clear ht hvm hB hz1 hk1
  generalize H1 = H at hP hS ⊢
  refine lv_aload_n hx hb dX3_lentSize_6 rfl (lv_at hl 0 rfl) ?_
  refine lz_get (G := G) (ci := 3) (v := .ref (q 6)) (C := RX3) (T := TX3) (N := 13) hx hb hu_wsX30 (fun _ h9 => h9) hown hK hP 0 rfl rfl 6 (by decide) hw1 rfl rfl dX3_lentSize_7 ?_
  refine lz_get (G := G) (ci := 1) (v := .ref (qh 5)) (C := RX1) (T := TX1) (N := 14) hx hb hu_wsX10 (fun _ h9 => h9) hown hK hP 2 rfl rfl 5 (by decide) hw2 rfl rfl dX3_lentSize_10 ?_
  refine lv_iload_n hx hb dX3_lentSize_13 rfl (lv_at hl 1 rfl) ?_
  refine lz_iald (f := F 5) hx hb hK hP 4 rfl s (by omega) (Nat.le_of_ble_eq_true rfl) dX3_lentSize_14 ?_
  exact rw_iret (S := Unit) (G := G) (Wd := fun _ : Unit => (lzX x q (upd S 11 (nI (T + 1))) ++ (lzI G (q 10) 16 (upd t T 10) ++ (lzDoor G (q 6) qh D F)))) () hx hb hr hlk dX3_lentSize_15 hS (hP) (rfl)
set_option maxHeartbeats 4000000 in
set_option maxRecDepth 100000 in
theorem c_X3_lentMark (l : Launch) (G : lzG) (x : Nat) (q : Nat → Nat) (S : Nat → Int32) (t : Nat → Int32) (s T : Nat) (hT : S 11 = nI T) (hT16 : T + 1 ≤ 16) : Met l yX3_lentMark wsX3_lentMark ({ frames := 1, cells := 0, slots := 0, locals := 21 }) (va_Pc [.ref x, .int (nI s)] (rwP G (lzX x q S ++ lzI G (q 10) 16 t))) (va_Qi (S := Unit) (fun (r : Int32) (_ : Unit) => r = nI s) (rwB G (fun _ : Unit => (lzX x q (upd S 11 (nI (T + 1))) ++ lzI G (q 10) 16 (upd t T 20)))) (lzA (lzX x q S ++ lzI G (q 10) 16 t))) 0 0 (lzA (lzX x q S ++ lzI G (q 10) 16 t)) := by
  refine rw_start (S := Unit) (cc := cX3_lentMark) (maxL := 2) (ret := (some .int)) (by decide) rfl (Nat.le_of_ble_eq_true rfl) ?_
  intro pp ee ss mm bl me cd A hx hb hr hlk hml hts hown hP hK hD hAe hS ls hl
  have hA0 : ∀ zz : Nat, lzA (lzX x q S ++ lzI G (q 10) 16 t) zz → A zz := fun zz h9 => by rw [hAe]; exact h9
  rw [← hAe]
  clear hAe
  have hown : ss.vm.findClass RX3 = some mm.cls := hown
  have hl : lv_has ls 2 [(0, .ref x), (1, .int (nI s))] := hl
  refine lv_aload_n hx hb dX3_lentMark_0 rfl (lv_at hl 0 rfl) ?_
  refine lv_bipush (v := 20) hx hb dX3_lentMark_1 (by decide) ?_
  have hFc : ∀ zz : Nat, lzA (lzX x q S ++ lzI G (q 10) 16 t) zz → A zz := lz_free hD [0, 1] rfl
  refine va_callv (va_runV (As := [.int 20]) (rest := []) ⟨hx, hb, hml, hown, hts⟩ (c_X3_begin l G x q S t T 20 (hT) (by omega)) (cwV 1 hts gX3_lentMark_X3_begin rfl rfl rfl (by decide +kernel) ⟨Nat.le_of_ble_eq_true rfl, Nat.le_of_ble_eq_true rfl⟩) (rw_preV hK hP hD hP (ci := 3) (q0 := 0) rfl rfl) rfl rfl hl.1 rfl (lv_room (Nat.le_of_ble_eq_true rfl)) dX3_lentMark_3 ⟨Nat.zero_le _, Nat.zero_le _⟩) hS (fun q _ h => hFc q h) hFc (fun u_2 t9 H1 locs ht hvm hr_1 hB hz1 hk1 hS => ?_)
  replace hB : va_P G.1 lzC _ t9.heap := hB
  rw [ht] at hB
  obtain ⟨hP, hD⟩ := lz_join (wc := (lzX x q S ++ lzI G (q 10) 16 t)) (wr := ([] : va_W)) (w1 := (lzX x q (upd S 11 (nI (T + 1))) ++ lzI G (q 10) 16 (upd t T 20))) hP hD [0, 1] [] rfl rfl (by decide) (by decide) rfl hk1 hB
  replace hP := hP.sub (ws' := (lzX x q (upd S 11 (nI (T + 1))) ++ lzI G (q 10) 16 (upd t T 20))) [0, 1] rfl
  replace hD := hD.sub (ws' := (lzX x q (upd S 11 (nI (T + 1))) ++ lzI G (q 10) 16 (upd t T 20))) [0, 1] (by decide) rfl
  clear ht hvm hB hz1 hk1
  generalize H1 = H at hP hS ⊢
  refine lv_iload_n hx hb dX3_lentMark_6 rfl (lv_at hl 1 rfl) ?_
  exact rw_iret (S := Unit) (G := G) (Wd := fun _ : Unit => (lzX x q (upd S 11 (nI (T + 1))) ++ lzI G (q 10) 16 (upd t T 20))) () hx hb hr hlk dX3_lentMark_7 hS (hP) (rfl)
set_option maxHeartbeats 4000000 in
set_option maxRecDepth 100000 in
theorem c_X3_knownMark (l : Launch) (G : lzG) (x : Nat) (q : Nat → Nat) (S : Nat → Int32) (t : Nat → Int32) (qh : Nat → Nat) (D : Nat → Int32) (F : Nat → Nat → Int32) (s N M T : Nat) (hs : s < 8) (hN : D 2 = nI N) (hN8 : N ≤ 8) (hM : D 3 = nI M) (hM5 : M ≤ 5) (hT : S 11 = nI T) (hT16 : T + 3 ≤ 16) : Met l yX3_knownMark wsX3_knownMark ({ frames := 4, cells := 0, slots := 0, locals := 92 }) (va_Pc [.ref x, .int (nI s)] (rwP G (lzX x q S ++ (lzI G (q 10) 16 t ++ (lzDoor G (q 6) qh D F))))) (va_Qi (S := Unit) (fun (r : Int32) (_ : Unit) => r = kmV (F 4 s) (nI s + (sumI (fun v => bitsI (clkD F v) N >>> (nI s &&& 31) &&& 1) M))) (rwB G (fun _ : Unit => (lzX x q (upd S 11 (nI (T + (kmL (F 4 s)).length))) ++ (lzI G (q 10) 16 (trL t T (kmL (F 4 s))) ++ (lzDoor G (q 6) qh D F))))) (lzA (lzX x q S ++ (lzI G (q 10) 16 t ++ (lzDoor G (q 6) qh D F))))) 0 0 (lzA (lzX x q S ++ (lzI G (q 10) 16 t ++ (lzDoor G (q 6) qh D F)))) := by
  refine rw_start (S := Unit) (cc := cX3_knownMark) (maxL := 4) (ret := (some .int)) (by decide) rfl (Nat.le_of_ble_eq_true rfl) ?_
  intro pp ee ss mm bl me cd A hx hb hr hlk hml hts hown hP hK hD hAe hS ls hl
  have hA0 : ∀ zz : Nat, lzA (lzX x q S ++ (lzI G (q 10) 16 t ++ (lzDoor G (q 6) qh D F))) zz → A zz := fun zz h9 => by rw [hAe]; exact h9
  rw [← hAe]
  clear hAe
  have hown : ss.vm.findClass RX3 = some mm.cls := hown
  have hw1 := hts (.fieldLink RX3 38 "LampSquares" "here" "LLampSquares$Door;") (List.mem_of_getElem? (i := 1) rfl)
  have hw2 := hts (.fieldLink RX3 197 "LampSquares$Door" "kindOf" "[I") (List.mem_of_getElem? (i := 2) rfl)
  have hu_wsX10 : ∀ w ∈ wsX10, w.before ([.ref x, .int (nI s)] : List Value).toArray ss = true := fun w h9 => hts w (List.mem_cons_of_mem _ (List.mem_append_right _ h9))
  have hu_wsX30 : ∀ w ∈ wsX30, w.before ([.ref x, .int (nI s)] : List Value).toArray ss = true := fun w h9 => hts w (List.mem_cons_of_mem _ (List.mem_append_left _ (List.mem_append_right _ h9)))
  have hl : lv_has ls 4 [(0, .ref x), (1, .int (nI s))] := hl
  refine lv_aload_n hx hb dX3_knownMark_0 rfl (lv_at hl 0 rfl) ?_
  refine lz_get (G := G) (ci := 3) (v := .ref (q 6)) (C := RX3) (T := TX3) (N := 13) hx hb hu_wsX30 (fun _ h9 => h9) hown hK hP 0 rfl rfl 6 (by decide) hw1 rfl rfl dX3_knownMark_1 ?_
  refine lz_get (G := G) (ci := 1) (v := .ref (qh 4)) (C := RX1) (T := TX1) (N := 14) hx hb hu_wsX10 (fun _ h9 => h9) hown hK hP 2 rfl rfl 4 (by decide) hw2 rfl rfl dX3_knownMark_4 ?_
  refine lv_iload_n hx hb dX3_knownMark_7 rfl (lv_at hl 1 rfl) ?_
  refine lz_iald (f := F 4) hx hb hK hP 3 rfl s (by omega) (Nat.le_of_ble_eq_true rfl) dX3_knownMark_8 ?_
  refine lv_istore_n (lv' := [(2, .int ((F 4) s)), (0, .ref x), (1, .int (nI s))]) hx hb dX3_knownMark_9 rfl hl (by decide) rfl (fun ls hl => ?_)
  refine lv_iload_n hx hb dX3_knownMark_10 rfl (lv_at hl 0 rfl) ?_
  refine lv_iconst (v := 3) hx hb dX3_knownMark_11 (by decide) ?_
  refine lv_icmp_ne (tgt := 21) hx hb dX3_knownMark_12 (by decide) (fun c_12 => ?_) (fun c_12 => ?_)
  · skip
    refine lv_iload_n hx hb dX3_knownMark_21 rfl (lv_at hl 0 rfl) ?_
    refine lv_iconst (v := 2) hx hb dX3_knownMark_22 (by decide) ?_
    refine lv_icmp_ne (tgt := 32) hx hb dX3_knownMark_23 (by decide) (fun c_23 => ?_) (fun c_23 => ?_)
    · skip
      refine lv_aload_n hx hb dX3_knownMark_32 rfl (lv_at hl 1 rfl) ?_
      refine lv_bipush (v := 21) hx hb dX3_knownMark_33 (by decide) ?_
      have hPc := hP.sub (ws' := (lzX x q S ++ lzI G (q 10) 16 t)) [0, 1] rfl
      have hDc := hD.sub (ws' := (lzX x q S ++ lzI G (q 10) 16 t)) [0, 1] (by decide) rfl
      have hFc : ∀ zz : Nat, lzA (lzX x q S ++ lzI G (q 10) 16 t) zz → A zz := lz_free hD [0, 1] rfl
      refine va_callv (va_runV (As := [.int 21]) (rest := []) ⟨hx, hb, hml, hown, hts⟩ (c_X3_begin l G x q S t T 21 (hT) (by omega)) (cwV 1 hts gX3_knownMark_X3_begin rfl rfl rfl (by decide +kernel) ⟨Nat.le_of_ble_eq_true rfl, Nat.le_of_ble_eq_true rfl⟩) (rw_preV hK hPc hDc hP (ci := 3) (q0 := 0) rfl rfl) rfl rfl hl.1 rfl (lv_room (Nat.le_of_ble_eq_true rfl)) dX3_knownMark_35 ⟨Nat.zero_le _, Nat.zero_le _⟩) hS (fun q _ h => hFc q h) hFc (fun u_2 t9 H1 locs ht hvm hr_1 hB hz1 hk1 hS => ?_)
      replace hB : va_P G.1 lzC _ t9.heap := hB
      rw [ht] at hB
      obtain ⟨hP, hD⟩ := lz_join (wc := (lzX x q S ++ lzI G (q 10) 16 t)) (wr := ([(q 6, .inr (1, [.int (D 0), .int (D 1), .int (D 2), .int (D 3), .ref (qh 4), .ref (qh 5), .ref (qh 6), .ref (qh 7), .ref (qh 8), .ref (qh 9), .ref (qh 10), .ref (qh 11), .ref (qh 12), .ref (qh 13)])), (qh 4, .inl (G.2 0, 8, .inl (F 4))), (qh 5, .inl (G.2 0, 8, .inl (F 5))), (qh 6, .inl (G.2 0, 8, .inl (F 6))), (qh 7, .inl (G.2 0, 8, .inl (F 7))), (qh 8, .inl (G.2 0, 8, .inl (F 8))), (qh 9, .inl (G.2 0, 5, .inl (F 9))), (qh 10, .inl (G.2 0, 5, .inl (F 10))), (qh 11, .inl (G.2 0, 5, .inl (F 11))), (qh 12, .inl (G.2 0, 5, .inl (F 12))), (qh 13, .inl (G.2 0, 5, .inl (F 13)))] : va_W)) (w1 := (lzX x q (upd S 11 (nI (T + 1))) ++ lzI G (q 10) 16 (upd t T 21))) hP hD [0, 1] [2, 3, 4, 5, 6, 7, 8, 9, 10, 11, 12] rfl rfl (by decide) (by decide) rfl hk1 hB
      replace hP := hP.sub (ws' := (lzX x q (upd S 11 (nI (T + 1))) ++ (lzI G (q 10) 16 (upd t T 21) ++ (lzDoor G (q 6) qh D F)))) [11, 12, 0, 1, 2, 3, 4, 5, 6, 7, 8, 9, 10] rfl
      replace hD := hD.sub (ws' := (lzX x q (upd S 11 (nI (T + 1))) ++ (lzI G (q 10) 16 (upd t T 21) ++ (lzDoor G (q 6) qh D F)))) [11, 12, 0, 1, 2, 3, 4, 5, 6, 7, 8, 9, 10] (by decide) rfl
      clear ht hvm hB hz1 hk1
      generalize H1 = H at hP hS ⊢
      refine lv_aload_n hx hb dX3_knownMark_38 rfl (lv_at hl 1 rfl) ?_
      refine lv_iload_n hx hb dX3_knownMark_39 rfl (lv_at hl 2 rfl) ?_
      have hPc := hP.sub (ws' := (lzX x q (upd S 11 (nI (T + 1))) ++ lzI G (q 10) 16 (upd t T 21))) [0, 1] rfl
      have hDc := hD.sub (ws' := (lzX x q (upd S 11 (nI (T + 1))) ++ lzI G (q 10) 16 (upd t T 21))) [0, 1] (by decide) rfl
      have hFc : ∀ zz : Nat, lzA (lzX x q (upd S 11 (nI (T + 1))) ++ lzI G (q 10) 16 (upd t T 21)) zz → A zz := lz_free hD [0, 1] rfl
      refine va_calli (va_runV (As := [.int (nI s)]) (rest := []) ⟨hx, hb, hml, hown, hts⟩ (c_X3_lentMark l G x q (upd S 11 (nI (T + 1))) (upd t T 21) s (T + 1) (rfl) (by omega)) (cwV 1 hts gX3_knownMark_X3_lentMark rfl rfl rfl (by decide +kernel) ⟨Nat.le_of_ble_eq_true rfl, Nat.le_of_ble_eq_true rfl⟩) (rw_preV hK hPc hDc hP (ci := 3) (q0 := 0) rfl rfl) rfl rfl hl.1 rfl (lv_room (Nat.le_of_ble_eq_true rfl)) dX3_knownMark_40 ⟨Nat.zero_le _, Nat.zero_le _⟩) hS (fun q _ h => hFc q h) hFc (fun r_3 u_4 t9 H1 locs ht hvm hr_3 hB hz1 hk1 hS => ?_)
      replace hB : va_P G.1 lzC _ t9.heap := hB
      rw [ht] at hB
      obtain ⟨hP, hD⟩ := lz_join (wc := (lzX x q (upd S 11 (nI (T + 1))) ++ lzI G (q 10) 16 (upd t T 21))) (wr := ([(q 6, .inr (1, [.int (D 0), .int (D 1), .int (D 2), .int (D 3), .ref (qh 4), .ref (qh 5), .ref (qh 6), .ref (qh 7), .ref (qh 8), .ref (qh 9), .ref (qh 10), .ref (qh 11), .ref (qh 12), .ref (qh 13)])), (qh 4, .inl (G.2 0, 8, .inl (F 4))), (qh 5, .inl (G.2 0, 8, .inl (F 5))), (qh 6, .inl (G.2 0, 8, .inl (F 6))), (qh 7, .inl (G.2 0, 8, .inl (F 7))), (qh 8, .inl (G.2 0, 8, .inl (F 8))), (qh 9, .inl (G.2 0, 5, .inl (F 9))), (qh 10, .inl (G.2 0, 5, .inl (F 10))), (qh 11, .inl (G.2 0, 5, .inl (F 11))), (qh 12, .inl (G.2 0, 5, .inl (F 12))), (qh 13, .inl (G.2 0, 5, .inl (F 13)))] : va_W)) (w1 := (lzX x q (upd S 11 (nI ((T + 1) + 1))) ++ lzI G (q 10) 16 (upd (upd t T 21) (T + 1) 20))) hP hD [0, 1] [2, 3, 4, 5, 6, 7, 8, 9, 10, 11, 12] rfl rfl (by decide) (by decide) rfl hk1 hB
      replace hP := hP.sub (ws' := (lzX x q (upd S 11 (nI ((T + 1) + 1))) ++ (lzI G (q 10) 16 (upd (upd t T 21) (T + 1) 20) ++ (lzDoor G (q 6) qh D F)))) [11, 12, 0, 1, 2, 3, 4, 5, 6, 7, 8, 9, 10] rfl
      replace hD := hD.sub (ws' := (lzX x q (upd S 11 (nI ((T + 1) + 1))) ++ (lzI G (q 10) 16 (upd (upd t T 21) (T + 1) 20) ++ (lzDoor G (q 6) qh D F)))) [11, 12, 0, 1, 2, 3, 4, 5, 6, 7, 8, 9, 10] (by decide) rfl
      clear ht hvm hB hz1 hk1
      generalize H1 = H at hP hS ⊢
      refine lz_top (y := nI s) hr_3 ?_
      refine lv_aload_n hx hb dX3_knownMark_43 rfl (lv_at hl 1 rfl) ?_
      refine lz_get (G := G) (ci := 3) (v := .ref (q 6)) (C := RX3) (T := TX3) (N := 13) hx hb hu_wsX30 (fun _ h9 => h9) hown hK hP 0 rfl rfl 6 (by decide) hw1 rfl rfl dX3_knownMark_44 ?_
      refine lv_iload_n hx hb dX3_knownMark_47 rfl (lv_at hl 2 rfl) ?_
      have hPc := hP.sub (ws' := lzDoor G (q 6) qh D F) [2, 3, 4, 5, 6, 7, 8, 9, 10, 11, 12] rfl
      refine ro_calli (va_runV (As := [.int (nI s)]) (rest := [.int (nI s)]) ⟨hx, hb, hml, hown, hts⟩ (c_X1_howManyClick l G (q 6) qh D F s N M (hN) (hN8) (hM) (hM5)) (cwV 1 hts gX3_knownMark_X1_howManyClick rfl rfl rfl (by decide +kernel) ⟨Nat.le_of_ble_eq_true rfl, Nat.le_of_ble_eq_true rfl⟩) (ro_preV hK hPc hP (ci := 1) (q0 := 2) rfl rfl) rfl rfl hl.1 rfl (lv_room (Nat.le_of_ble_eq_true rfl)) dX3_knownMark_48 ⟨Nat.zero_le _, Nat.zero_le _⟩) (fun r_5 hr_5 => ?_)
      refine lz_top (y := sumI (fun v => bitsI (clkD F v) N >>> (nI s &&& 31) &&& 1) M) hr_5 ?_
      refine lv_iadd hx hb dX3_knownMark_51 ?_
      refine lv_istore_n (lv' := [(3, .int ((nI s) + (sumI (fun v => bitsI (clkD F v) N >>> (nI s &&& 31) &&& 1) M))), (2, .int ((F 4) s)), (0, .ref x), (1, .int (nI s))]) hx hb dX3_knownMark_52 rfl hl (by decide) rfl (fun ls hl => ?_)
      refine lv_iload_n hx hb dX3_knownMark_53 rfl (lv_at hl 1 rfl) ?_
      refine lv_iconst (v := 3) hx hb dX3_knownMark_54 (by decide) ?_
      refine lv_icmp_ne (tgt := 64) hx hb dX3_knownMark_55 (by decide) (fun c_55 => ?_) (fun c_55 => ?_)
      · skip
        refine lv_iload_n hx hb dX3_knownMark_64 rfl (lv_at hl 1 rfl) ?_
        refine lv_iconst (v := 2) hx hb dX3_knownMark_65 (by decide) ?_
        refine lv_icmp_ne (tgt := 75) hx hb dX3_knownMark_66 (by decide) (fun c_66 => ?_) (fun c_66 => ?_)
        · skip
          refine lv_iload_n hx hb dX3_knownMark_75 rfl (lv_at hl 0 rfl) ?_
          exact rw_iret (S := Unit) (G := G) (Wd := fun _ : Unit => (lzX x q (upd S 11 (nI (T + (kmL (F 4 s)).length))) ++ (lzI G (q 10) 16 (trL t T (kmL (F 4 s))) ++ (lzDoor G (q 6) qh D F)))) () hx hb hr hlk dX3_knownMark_76 hS (by show va_P G.1 lzC (lzX x q (upd S 11 (nI (T + (kmL (F 4 s)).length))) ++ (lzI G (q 10) 16 (trL t T (kmL (F 4 s))) ++ lzDoor G (q 6) qh D F)) H; unfold kmL; (first | rw [if_pos c_12] | rw [if_neg c_12, if_pos c_23] | rw [if_neg c_12, if_neg c_23]) <;> exact hP) (by unfold kmV; first | rw [if_pos c_55] | rw [if_neg c_55, if_pos c_66] | rw [if_neg c_55, if_neg c_66])
        · skip
          refine lv_iconst (v := 2) hx hb dX3_knownMark_69 (by decide) ?_
          refine lv_iload_n hx hb dX3_knownMark_70 rfl (lv_at hl 0 rfl) ?_
          refine lv_imul hx hb dX3_knownMark_71 ?_
          refine lv_goto (tgt := 76) hx hb dX3_knownMark_72 (by decide) ?_
          exact rw_iret (S := Unit) (G := G) (Wd := fun _ : Unit => (lzX x q (upd S 11 (nI (T + (kmL (F 4 s)).length))) ++ (lzI G (q 10) 16 (trL t T (kmL (F 4 s))) ++ (lzDoor G (q 6) qh D F)))) () hx hb hr hlk dX3_knownMark_76 hS (by show va_P G.1 lzC (lzX x q (upd S 11 (nI (T + (kmL (F 4 s)).length))) ++ (lzI G (q 10) 16 (trL t T (kmL (F 4 s))) ++ lzDoor G (q 6) qh D F)) H; unfold kmL; (first | rw [if_pos c_12] | rw [if_neg c_12, if_pos c_23] | rw [if_neg c_12, if_neg c_23]) <;> exact hP) (by unfold kmV; first | rw [if_pos c_55] | rw [if_neg c_55, if_pos c_66] | rw [if_neg c_55, if_neg c_66])
      · skip
        refine lv_iload_n hx hb dX3_knownMark_58 rfl (lv_at hl 0 rfl) ?_
        refine lv_sipush (v := 1000) hx hb dX3_knownMark_59 (by decide) ?_
        refine lv_isub hx hb dX3_knownMark_62 ?_
        exact rw_iret (S := Unit) (G := G) (Wd := fun _ : Unit => (lzX x q (upd S 11 (nI (T + (kmL (F 4 s)).length))) ++ (lzI G (q 10) 16 (trL t T (kmL (F 4 s))) ++ (lzDoor G (q 6) qh D F)))) () hx hb hr hlk dX3_knownMark_63 hS (by show va_P G.1 lzC (lzX x q (upd S 11 (nI (T + (kmL (F 4 s)).length))) ++ (lzI G (q 10) 16 (trL t T (kmL (F 4 s))) ++ lzDoor G (q 6) qh D F)) H; unfold kmL; (first | rw [if_pos c_12] | rw [if_neg c_12, if_pos c_23] | rw [if_neg c_12, if_neg c_23]) <;> exact hP) (by unfold kmV; first | rw [if_pos c_55] | rw [if_neg c_55, if_pos c_66] | rw [if_neg c_55, if_neg c_66])
    · skip
      refine lv_aload_n hx hb dX3_knownMark_26 rfl (lv_at hl 1 rfl) ?_
      refine lv_bipush (v := 24) hx hb dX3_knownMark_27 (by decide) ?_
      have hPc := hP.sub (ws' := (lzX x q S ++ lzI G (q 10) 16 t)) [0, 1] rfl
      have hDc := hD.sub (ws' := (lzX x q S ++ lzI G (q 10) 16 t)) [0, 1] (by decide) rfl
      have hFc : ∀ zz : Nat, lzA (lzX x q S ++ lzI G (q 10) 16 t) zz → A zz := lz_free hD [0, 1] rfl
      refine va_callv (va_runV (As := [.int 24]) (rest := []) ⟨hx, hb, hml, hown, hts⟩ (c_X3_begin l G x q S t T 24 (hT) (by omega)) (cwV 1 hts gX3_knownMark_X3_begin rfl rfl rfl (by decide +kernel) ⟨Nat.le_of_ble_eq_true rfl, Nat.le_of_ble_eq_true rfl⟩) (rw_preV hK hPc hDc hP (ci := 3) (q0 := 0) rfl rfl) rfl rfl hl.1 rfl (lv_room (Nat.le_of_ble_eq_true rfl)) dX3_knownMark_29 ⟨Nat.zero_le _, Nat.zero_le _⟩) hS (fun q _ h => hFc q h) hFc (fun u_7 t9 H1 locs ht hvm hr_6 hB hz1 hk1 hS => ?_)
      replace hB : va_P G.1 lzC _ t9.heap := hB
      rw [ht] at hB
      obtain ⟨hP, hD⟩ := lz_join (wc := (lzX x q S ++ lzI G (q 10) 16 t)) (wr := ([(q 6, .inr (1, [.int (D 0), .int (D 1), .int (D 2), .int (D 3), .ref (qh 4), .ref (qh 5), .ref (qh 6), .ref (qh 7), .ref (qh 8), .ref (qh 9), .ref (qh 10), .ref (qh 11), .ref (qh 12), .ref (qh 13)])), (qh 4, .inl (G.2 0, 8, .inl (F 4))), (qh 5, .inl (G.2 0, 8, .inl (F 5))), (qh 6, .inl (G.2 0, 8, .inl (F 6))), (qh 7, .inl (G.2 0, 8, .inl (F 7))), (qh 8, .inl (G.2 0, 8, .inl (F 8))), (qh 9, .inl (G.2 0, 5, .inl (F 9))), (qh 10, .inl (G.2 0, 5, .inl (F 10))), (qh 11, .inl (G.2 0, 5, .inl (F 11))), (qh 12, .inl (G.2 0, 5, .inl (F 12))), (qh 13, .inl (G.2 0, 5, .inl (F 13)))] : va_W)) (w1 := (lzX x q (upd S 11 (nI (T + 1))) ++ lzI G (q 10) 16 (upd t T 24))) hP hD [0, 1] [2, 3, 4, 5, 6, 7, 8, 9, 10, 11, 12] rfl rfl (by decide) (by decide) rfl hk1 hB
      replace hP := hP.sub (ws' := (lzX x q (upd S 11 (nI (T + 1))) ++ (lzI G (q 10) 16 (upd t T 24) ++ (lzDoor G (q 6) qh D F)))) [11, 12, 0, 1, 2, 3, 4, 5, 6, 7, 8, 9, 10] rfl
      replace hD := hD.sub (ws' := (lzX x q (upd S 11 (nI (T + 1))) ++ (lzI G (q 10) 16 (upd t T 24) ++ (lzDoor G (q 6) qh D F)))) [11, 12, 0, 1, 2, 3, 4, 5, 6, 7, 8, 9, 10] (by decide) rfl
      clear ht hvm hB hz1 hk1
      generalize H1 = H at hP hS ⊢
      refine lv_aload_n hx hb dX3_knownMark_32 rfl (lv_at hl 1 rfl) ?_
      refine lv_bipush (v := 21) hx hb dX3_knownMark_33 (by decide) ?_
      have hPc := hP.sub (ws' := (lzX x q (upd S 11 (nI (T + 1))) ++ lzI G (q 10) 16 (upd t T 24))) [0, 1] rfl
      have hDc := hD.sub (ws' := (lzX x q (upd S 11 (nI (T + 1))) ++ lzI G (q 10) 16 (upd t T 24))) [0, 1] (by decide) rfl
      have hFc : ∀ zz : Nat, lzA (lzX x q (upd S 11 (nI (T + 1))) ++ lzI G (q 10) 16 (upd t T 24)) zz → A zz := lz_free hD [0, 1] rfl
      refine va_callv (va_runV (As := [.int 21]) (rest := []) ⟨hx, hb, hml, hown, hts⟩ (c_X3_begin l G x q (upd S 11 (nI (T + 1))) (upd t T 24) (T + 1) 21 (rfl) (by omega)) (cwV 1 hts gX3_knownMark_X3_begin rfl rfl rfl (by decide +kernel) ⟨Nat.le_of_ble_eq_true rfl, Nat.le_of_ble_eq_true rfl⟩) (rw_preV hK hPc hDc hP (ci := 3) (q0 := 0) rfl rfl) rfl rfl hl.1 rfl (lv_room (Nat.le_of_ble_eq_true rfl)) dX3_knownMark_35 ⟨Nat.zero_le _, Nat.zero_le _⟩) hS (fun q _ h => hFc q h) hFc (fun u_9 t9 H1 locs ht hvm hr_8 hB hz1 hk1 hS => ?_)
      replace hB : va_P G.1 lzC _ t9.heap := hB
      rw [ht] at hB
      obtain ⟨hP, hD⟩ := lz_join (wc := (lzX x q (upd S 11 (nI (T + 1))) ++ lzI G (q 10) 16 (upd t T 24))) (wr := ([(q 6, .inr (1, [.int (D 0), .int (D 1), .int (D 2), .int (D 3), .ref (qh 4), .ref (qh 5), .ref (qh 6), .ref (qh 7), .ref (qh 8), .ref (qh 9), .ref (qh 10), .ref (qh 11), .ref (qh 12), .ref (qh 13)])), (qh 4, .inl (G.2 0, 8, .inl (F 4))), (qh 5, .inl (G.2 0, 8, .inl (F 5))), (qh 6, .inl (G.2 0, 8, .inl (F 6))), (qh 7, .inl (G.2 0, 8, .inl (F 7))), (qh 8, .inl (G.2 0, 8, .inl (F 8))), (qh 9, .inl (G.2 0, 5, .inl (F 9))), (qh 10, .inl (G.2 0, 5, .inl (F 10))), (qh 11, .inl (G.2 0, 5, .inl (F 11))), (qh 12, .inl (G.2 0, 5, .inl (F 12))), (qh 13, .inl (G.2 0, 5, .inl (F 13)))] : va_W)) (w1 := (lzX x q (upd S 11 (nI ((T + 1) + 1))) ++ lzI G (q 10) 16 (upd (upd t T 24) (T + 1) 21))) hP hD [0, 1] [2, 3, 4, 5, 6, 7, 8, 9, 10, 11, 12] rfl rfl (by decide) (by decide) rfl hk1 hB
      replace hP := hP.sub (ws' := (lzX x q (upd S 11 (nI ((T + 1) + 1))) ++ (lzI G (q 10) 16 (upd (upd t T 24) (T + 1) 21) ++ (lzDoor G (q 6) qh D F)))) [11, 12, 0, 1, 2, 3, 4, 5, 6, 7, 8, 9, 10] rfl
      replace hD := hD.sub (ws' := (lzX x q (upd S 11 (nI ((T + 1) + 1))) ++ (lzI G (q 10) 16 (upd (upd t T 24) (T + 1) 21) ++ (lzDoor G (q 6) qh D F)))) [11, 12, 0, 1, 2, 3, 4, 5, 6, 7, 8, 9, 10] (by decide) rfl
      clear ht hvm hB hz1 hk1
      generalize H1 = H at hP hS ⊢
      refine lv_aload_n hx hb dX3_knownMark_38 rfl (lv_at hl 1 rfl) ?_
      refine lv_iload_n hx hb dX3_knownMark_39 rfl (lv_at hl 2 rfl) ?_
      have hPc := hP.sub (ws' := (lzX x q (upd S 11 (nI ((T + 1) + 1))) ++ lzI G (q 10) 16 (upd (upd t T 24) (T + 1) 21))) [0, 1] rfl
      have hDc := hD.sub (ws' := (lzX x q (upd S 11 (nI ((T + 1) + 1))) ++ lzI G (q 10) 16 (upd (upd t T 24) (T + 1) 21))) [0, 1] (by decide) rfl
      have hFc : ∀ zz : Nat, lzA (lzX x q (upd S 11 (nI ((T + 1) + 1))) ++ lzI G (q 10) 16 (upd (upd t T 24) (T + 1) 21)) zz → A zz := lz_free hD [0, 1] rfl
      refine va_calli (va_runV (As := [.int (nI s)]) (rest := []) ⟨hx, hb, hml, hown, hts⟩ (c_X3_lentMark l G x q (upd S 11 (nI ((T + 1) + 1))) (upd (upd t T 24) (T + 1) 21) s ((T + 1) + 1) (rfl) (by omega)) (cwV 1 hts gX3_knownMark_X3_lentMark rfl rfl rfl (by decide +kernel) ⟨Nat.le_of_ble_eq_true rfl, Nat.le_of_ble_eq_true rfl⟩) (rw_preV hK hPc hDc hP (ci := 3) (q0 := 0) rfl rfl) rfl rfl hl.1 rfl (lv_room (Nat.le_of_ble_eq_true rfl)) dX3_knownMark_40 ⟨Nat.zero_le _, Nat.zero_le _⟩) hS (fun q _ h => hFc q h) hFc (fun r_10 u_11 t9 H1 locs ht hvm hr_10 hB hz1 hk1 hS => ?_)
      replace hB : va_P G.1 lzC _ t9.heap := hB
      rw [ht] at hB
      obtain ⟨hP, hD⟩ := lz_join (wc := (lzX x q (upd S 11 (nI ((T + 1) + 1))) ++ lzI G (q 10) 16 (upd (upd t T 24) (T + 1) 21))) (wr := ([(q 6, .inr (1, [.int (D 0), .int (D 1), .int (D 2), .int (D 3), .ref (qh 4), .ref (qh 5), .ref (qh 6), .ref (qh 7), .ref (qh 8), .ref (qh 9), .ref (qh 10), .ref (qh 11), .ref (qh 12), .ref (qh 13)])), (qh 4, .inl (G.2 0, 8, .inl (F 4))), (qh 5, .inl (G.2 0, 8, .inl (F 5))), (qh 6, .inl (G.2 0, 8, .inl (F 6))), (qh 7, .inl (G.2 0, 8, .inl (F 7))), (qh 8, .inl (G.2 0, 8, .inl (F 8))), (qh 9, .inl (G.2 0, 5, .inl (F 9))), (qh 10, .inl (G.2 0, 5, .inl (F 10))), (qh 11, .inl (G.2 0, 5, .inl (F 11))), (qh 12, .inl (G.2 0, 5, .inl (F 12))), (qh 13, .inl (G.2 0, 5, .inl (F 13)))] : va_W)) (w1 := (lzX x q (upd S 11 (nI (((T + 1) + 1) + 1))) ++ lzI G (q 10) 16 (upd (upd (upd t T 24) (T + 1) 21) ((T + 1) + 1) 20))) hP hD [0, 1] [2, 3, 4, 5, 6, 7, 8, 9, 10, 11, 12] rfl rfl (by decide) (by decide) rfl hk1 hB
      replace hP := hP.sub (ws' := (lzX x q (upd S 11 (nI (((T + 1) + 1) + 1))) ++ (lzI G (q 10) 16 (upd (upd (upd t T 24) (T + 1) 21) ((T + 1) + 1) 20) ++ (lzDoor G (q 6) qh D F)))) [11, 12, 0, 1, 2, 3, 4, 5, 6, 7, 8, 9, 10] rfl
      replace hD := hD.sub (ws' := (lzX x q (upd S 11 (nI (((T + 1) + 1) + 1))) ++ (lzI G (q 10) 16 (upd (upd (upd t T 24) (T + 1) 21) ((T + 1) + 1) 20) ++ (lzDoor G (q 6) qh D F)))) [11, 12, 0, 1, 2, 3, 4, 5, 6, 7, 8, 9, 10] (by decide) rfl
      clear ht hvm hB hz1 hk1
      generalize H1 = H at hP hS ⊢
      refine lz_top (y := nI s) hr_10 ?_
      refine lv_aload_n hx hb dX3_knownMark_43 rfl (lv_at hl 1 rfl) ?_
      refine lz_get (G := G) (ci := 3) (v := .ref (q 6)) (C := RX3) (T := TX3) (N := 13) hx hb hu_wsX30 (fun _ h9 => h9) hown hK hP 0 rfl rfl 6 (by decide) hw1 rfl rfl dX3_knownMark_44 ?_
      refine lv_iload_n hx hb dX3_knownMark_47 rfl (lv_at hl 2 rfl) ?_
      have hPc := hP.sub (ws' := lzDoor G (q 6) qh D F) [2, 3, 4, 5, 6, 7, 8, 9, 10, 11, 12] rfl
      refine ro_calli (va_runV (As := [.int (nI s)]) (rest := [.int (nI s)]) ⟨hx, hb, hml, hown, hts⟩ (c_X1_howManyClick l G (q 6) qh D F s N M (hN) (hN8) (hM) (hM5)) (cwV 1 hts gX3_knownMark_X1_howManyClick rfl rfl rfl (by decide +kernel) ⟨Nat.le_of_ble_eq_true rfl, Nat.le_of_ble_eq_true rfl⟩) (ro_preV hK hPc hP (ci := 1) (q0 := 2) rfl rfl) rfl rfl hl.1 rfl (lv_room (Nat.le_of_ble_eq_true rfl)) dX3_knownMark_48 ⟨Nat.zero_le _, Nat.zero_le _⟩) (fun r_12 hr_12 => ?_)
      refine lz_top (y := sumI (fun v => bitsI (clkD F v) N >>> (nI s &&& 31) &&& 1) M) hr_12 ?_
      refine lv_iadd hx hb dX3_knownMark_51 ?_
      refine lv_istore_n (lv' := [(3, .int ((nI s) + (sumI (fun v => bitsI (clkD F v) N >>> (nI s &&& 31) &&& 1) M))), (2, .int ((F 4) s)), (0, .ref x), (1, .int (nI s))]) hx hb dX3_knownMark_52 rfl hl (by decide) rfl (fun ls hl => ?_)
      refine lv_iload_n hx hb dX3_knownMark_53 rfl (lv_at hl 1 rfl) ?_
      refine lv_iconst (v := 3) hx hb dX3_knownMark_54 (by decide) ?_
      refine lv_icmp_ne (tgt := 64) hx hb dX3_knownMark_55 (by decide) (fun c_55 => ?_) (fun c_55 => ?_)
      · skip
        refine lv_iload_n hx hb dX3_knownMark_64 rfl (lv_at hl 1 rfl) ?_
        refine lv_iconst (v := 2) hx hb dX3_knownMark_65 (by decide) ?_
        refine lv_icmp_ne (tgt := 75) hx hb dX3_knownMark_66 (by decide) (fun c_66 => ?_) (fun c_66 => ?_)
        · skip
          refine lv_iload_n hx hb dX3_knownMark_75 rfl (lv_at hl 0 rfl) ?_
          exact rw_iret (S := Unit) (G := G) (Wd := fun _ : Unit => (lzX x q (upd S 11 (nI (T + (kmL (F 4 s)).length))) ++ (lzI G (q 10) 16 (trL t T (kmL (F 4 s))) ++ (lzDoor G (q 6) qh D F)))) () hx hb hr hlk dX3_knownMark_76 hS (by show va_P G.1 lzC (lzX x q (upd S 11 (nI (T + (kmL (F 4 s)).length))) ++ (lzI G (q 10) 16 (trL t T (kmL (F 4 s))) ++ lzDoor G (q 6) qh D F)) H; unfold kmL; (first | rw [if_pos c_12] | rw [if_neg c_12, if_pos c_23] | rw [if_neg c_12, if_neg c_23]) <;> exact hP) (by unfold kmV; first | rw [if_pos c_55] | rw [if_neg c_55, if_pos c_66] | rw [if_neg c_55, if_neg c_66])
        · skip
          refine lv_iconst (v := 2) hx hb dX3_knownMark_69 (by decide) ?_
          refine lv_iload_n hx hb dX3_knownMark_70 rfl (lv_at hl 0 rfl) ?_
          refine lv_imul hx hb dX3_knownMark_71 ?_
          refine lv_goto (tgt := 76) hx hb dX3_knownMark_72 (by decide) ?_
          exact rw_iret (S := Unit) (G := G) (Wd := fun _ : Unit => (lzX x q (upd S 11 (nI (T + (kmL (F 4 s)).length))) ++ (lzI G (q 10) 16 (trL t T (kmL (F 4 s))) ++ (lzDoor G (q 6) qh D F)))) () hx hb hr hlk dX3_knownMark_76 hS (by show va_P G.1 lzC (lzX x q (upd S 11 (nI (T + (kmL (F 4 s)).length))) ++ (lzI G (q 10) 16 (trL t T (kmL (F 4 s))) ++ lzDoor G (q 6) qh D F)) H; unfold kmL; (first | rw [if_pos c_12] | rw [if_neg c_12, if_pos c_23] | rw [if_neg c_12, if_neg c_23]) <;> exact hP) (by unfold kmV; first | rw [if_pos c_55] | rw [if_neg c_55, if_pos c_66] | rw [if_neg c_55, if_neg c_66])
      · skip
        refine lv_iload_n hx hb dX3_knownMark_58 rfl (lv_at hl 0 rfl) ?_
        refine lv_sipush (v := 1000) hx hb dX3_knownMark_59 (by decide) ?_
        refine lv_isub hx hb dX3_knownMark_62 ?_
        exact rw_iret (S := Unit) (G := G) (Wd := fun _ : Unit => (lzX x q (upd S 11 (nI (T + (kmL (F 4 s)).length))) ++ (lzI G (q 10) 16 (trL t T (kmL (F 4 s))) ++ (lzDoor G (q 6) qh D F)))) () hx hb hr hlk dX3_knownMark_63 hS (by show va_P G.1 lzC (lzX x q (upd S 11 (nI (T + (kmL (F 4 s)).length))) ++ (lzI G (q 10) 16 (trL t T (kmL (F 4 s))) ++ lzDoor G (q 6) qh D F)) H; unfold kmL; (first | rw [if_pos c_12] | rw [if_neg c_12, if_pos c_23] | rw [if_neg c_12, if_neg c_23]) <;> exact hP) (by unfold kmV; first | rw [if_pos c_55] | rw [if_neg c_55, if_pos c_66] | rw [if_neg c_55, if_neg c_66])
  · skip
    refine lv_aload_n hx hb dX3_knownMark_15 rfl (lv_at hl 1 rfl) ?_
    refine lv_bipush (v := 22) hx hb dX3_knownMark_16 (by decide) ?_
    have hPc := hP.sub (ws' := (lzX x q S ++ lzI G (q 10) 16 t)) [0, 1] rfl
    have hDc := hD.sub (ws' := (lzX x q S ++ lzI G (q 10) 16 t)) [0, 1] (by decide) rfl
    have hFc : ∀ zz : Nat, lzA (lzX x q S ++ lzI G (q 10) 16 t) zz → A zz := lz_free hD [0, 1] rfl
    refine va_callv (va_runV (As := [.int 22]) (rest := []) ⟨hx, hb, hml, hown, hts⟩ (c_X3_begin l G x q S t T 22 (hT) (by omega)) (cwV 1 hts gX3_knownMark_X3_begin rfl rfl rfl (by decide +kernel) ⟨Nat.le_of_ble_eq_true rfl, Nat.le_of_ble_eq_true rfl⟩) (rw_preV hK hPc hDc hP (ci := 3) (q0 := 0) rfl rfl) rfl rfl hl.1 rfl (lv_room (Nat.le_of_ble_eq_true rfl)) dX3_knownMark_18 ⟨Nat.zero_le _, Nat.zero_le _⟩) hS (fun q _ h => hFc q h) hFc (fun u_14 t9 H1 locs ht hvm hr_13 hB hz1 hk1 hS => ?_)
    replace hB : va_P G.1 lzC _ t9.heap := hB
    rw [ht] at hB
    obtain ⟨hP, hD⟩ := lz_join (wc := (lzX x q S ++ lzI G (q 10) 16 t)) (wr := ([(q 6, .inr (1, [.int (D 0), .int (D 1), .int (D 2), .int (D 3), .ref (qh 4), .ref (qh 5), .ref (qh 6), .ref (qh 7), .ref (qh 8), .ref (qh 9), .ref (qh 10), .ref (qh 11), .ref (qh 12), .ref (qh 13)])), (qh 4, .inl (G.2 0, 8, .inl (F 4))), (qh 5, .inl (G.2 0, 8, .inl (F 5))), (qh 6, .inl (G.2 0, 8, .inl (F 6))), (qh 7, .inl (G.2 0, 8, .inl (F 7))), (qh 8, .inl (G.2 0, 8, .inl (F 8))), (qh 9, .inl (G.2 0, 5, .inl (F 9))), (qh 10, .inl (G.2 0, 5, .inl (F 10))), (qh 11, .inl (G.2 0, 5, .inl (F 11))), (qh 12, .inl (G.2 0, 5, .inl (F 12))), (qh 13, .inl (G.2 0, 5, .inl (F 13)))] : va_W)) (w1 := (lzX x q (upd S 11 (nI (T + 1))) ++ lzI G (q 10) 16 (upd t T 22))) hP hD [0, 1] [2, 3, 4, 5, 6, 7, 8, 9, 10, 11, 12] rfl rfl (by decide) (by decide) rfl hk1 hB
    replace hP := hP.sub (ws' := (lzX x q (upd S 11 (nI (T + 1))) ++ (lzI G (q 10) 16 (upd t T 22) ++ (lzDoor G (q 6) qh D F)))) [11, 12, 0, 1, 2, 3, 4, 5, 6, 7, 8, 9, 10] rfl
    replace hD := hD.sub (ws' := (lzX x q (upd S 11 (nI (T + 1))) ++ (lzI G (q 10) 16 (upd t T 22) ++ (lzDoor G (q 6) qh D F)))) [11, 12, 0, 1, 2, 3, 4, 5, 6, 7, 8, 9, 10] (by decide) rfl
    clear ht hvm hB hz1 hk1
    generalize H1 = H at hP hS ⊢
    refine lv_iload_n hx hb dX3_knownMark_21 rfl (lv_at hl 0 rfl) ?_
    refine lv_iconst (v := 2) hx hb dX3_knownMark_22 (by decide) ?_
    refine lv_icmp_ne (tgt := 32) hx hb dX3_knownMark_23 (by decide) (fun c_23 => ?_) (fun c_23 => ?_)
    · skip
      refine lv_aload_n hx hb dX3_knownMark_32 rfl (lv_at hl 1 rfl) ?_
      refine lv_bipush (v := 21) hx hb dX3_knownMark_33 (by decide) ?_
      have hPc := hP.sub (ws' := (lzX x q (upd S 11 (nI (T + 1))) ++ lzI G (q 10) 16 (upd t T 22))) [0, 1] rfl
      have hDc := hD.sub (ws' := (lzX x q (upd S 11 (nI (T + 1))) ++ lzI G (q 10) 16 (upd t T 22))) [0, 1] (by decide) rfl
      have hFc : ∀ zz : Nat, lzA (lzX x q (upd S 11 (nI (T + 1))) ++ lzI G (q 10) 16 (upd t T 22)) zz → A zz := lz_free hD [0, 1] rfl
      refine va_callv (va_runV (As := [.int 21]) (rest := []) ⟨hx, hb, hml, hown, hts⟩ (c_X3_begin l G x q (upd S 11 (nI (T + 1))) (upd t T 22) (T + 1) 21 (rfl) (by omega)) (cwV 1 hts gX3_knownMark_X3_begin rfl rfl rfl (by decide +kernel) ⟨Nat.le_of_ble_eq_true rfl, Nat.le_of_ble_eq_true rfl⟩) (rw_preV hK hPc hDc hP (ci := 3) (q0 := 0) rfl rfl) rfl rfl hl.1 rfl (lv_room (Nat.le_of_ble_eq_true rfl)) dX3_knownMark_35 ⟨Nat.zero_le _, Nat.zero_le _⟩) hS (fun q _ h => hFc q h) hFc (fun u_16 t9 H1 locs ht hvm hr_15 hB hz1 hk1 hS => ?_)
      replace hB : va_P G.1 lzC _ t9.heap := hB
      rw [ht] at hB
      obtain ⟨hP, hD⟩ := lz_join (wc := (lzX x q (upd S 11 (nI (T + 1))) ++ lzI G (q 10) 16 (upd t T 22))) (wr := ([(q 6, .inr (1, [.int (D 0), .int (D 1), .int (D 2), .int (D 3), .ref (qh 4), .ref (qh 5), .ref (qh 6), .ref (qh 7), .ref (qh 8), .ref (qh 9), .ref (qh 10), .ref (qh 11), .ref (qh 12), .ref (qh 13)])), (qh 4, .inl (G.2 0, 8, .inl (F 4))), (qh 5, .inl (G.2 0, 8, .inl (F 5))), (qh 6, .inl (G.2 0, 8, .inl (F 6))), (qh 7, .inl (G.2 0, 8, .inl (F 7))), (qh 8, .inl (G.2 0, 8, .inl (F 8))), (qh 9, .inl (G.2 0, 5, .inl (F 9))), (qh 10, .inl (G.2 0, 5, .inl (F 10))), (qh 11, .inl (G.2 0, 5, .inl (F 11))), (qh 12, .inl (G.2 0, 5, .inl (F 12))), (qh 13, .inl (G.2 0, 5, .inl (F 13)))] : va_W)) (w1 := (lzX x q (upd S 11 (nI ((T + 1) + 1))) ++ lzI G (q 10) 16 (upd (upd t T 22) (T + 1) 21))) hP hD [0, 1] [2, 3, 4, 5, 6, 7, 8, 9, 10, 11, 12] rfl rfl (by decide) (by decide) rfl hk1 hB
      replace hP := hP.sub (ws' := (lzX x q (upd S 11 (nI ((T + 1) + 1))) ++ (lzI G (q 10) 16 (upd (upd t T 22) (T + 1) 21) ++ (lzDoor G (q 6) qh D F)))) [11, 12, 0, 1, 2, 3, 4, 5, 6, 7, 8, 9, 10] rfl
      replace hD := hD.sub (ws' := (lzX x q (upd S 11 (nI ((T + 1) + 1))) ++ (lzI G (q 10) 16 (upd (upd t T 22) (T + 1) 21) ++ (lzDoor G (q 6) qh D F)))) [11, 12, 0, 1, 2, 3, 4, 5, 6, 7, 8, 9, 10] (by decide) rfl
      clear ht hvm hB hz1 hk1
      generalize H1 = H at hP hS ⊢
      refine lv_aload_n hx hb dX3_knownMark_38 rfl (lv_at hl 1 rfl) ?_
      refine lv_iload_n hx hb dX3_knownMark_39 rfl (lv_at hl 2 rfl) ?_
      have hPc := hP.sub (ws' := (lzX x q (upd S 11 (nI ((T + 1) + 1))) ++ lzI G (q 10) 16 (upd (upd t T 22) (T + 1) 21))) [0, 1] rfl
      have hDc := hD.sub (ws' := (lzX x q (upd S 11 (nI ((T + 1) + 1))) ++ lzI G (q 10) 16 (upd (upd t T 22) (T + 1) 21))) [0, 1] (by decide) rfl
      have hFc : ∀ zz : Nat, lzA (lzX x q (upd S 11 (nI ((T + 1) + 1))) ++ lzI G (q 10) 16 (upd (upd t T 22) (T + 1) 21)) zz → A zz := lz_free hD [0, 1] rfl
      refine va_calli (va_runV (As := [.int (nI s)]) (rest := []) ⟨hx, hb, hml, hown, hts⟩ (c_X3_lentMark l G x q (upd S 11 (nI ((T + 1) + 1))) (upd (upd t T 22) (T + 1) 21) s ((T + 1) + 1) (rfl) (by omega)) (cwV 1 hts gX3_knownMark_X3_lentMark rfl rfl rfl (by decide +kernel) ⟨Nat.le_of_ble_eq_true rfl, Nat.le_of_ble_eq_true rfl⟩) (rw_preV hK hPc hDc hP (ci := 3) (q0 := 0) rfl rfl) rfl rfl hl.1 rfl (lv_room (Nat.le_of_ble_eq_true rfl)) dX3_knownMark_40 ⟨Nat.zero_le _, Nat.zero_le _⟩) hS (fun q _ h => hFc q h) hFc (fun r_17 u_18 t9 H1 locs ht hvm hr_17 hB hz1 hk1 hS => ?_)
      replace hB : va_P G.1 lzC _ t9.heap := hB
      rw [ht] at hB
      obtain ⟨hP, hD⟩ := lz_join (wc := (lzX x q (upd S 11 (nI ((T + 1) + 1))) ++ lzI G (q 10) 16 (upd (upd t T 22) (T + 1) 21))) (wr := ([(q 6, .inr (1, [.int (D 0), .int (D 1), .int (D 2), .int (D 3), .ref (qh 4), .ref (qh 5), .ref (qh 6), .ref (qh 7), .ref (qh 8), .ref (qh 9), .ref (qh 10), .ref (qh 11), .ref (qh 12), .ref (qh 13)])), (qh 4, .inl (G.2 0, 8, .inl (F 4))), (qh 5, .inl (G.2 0, 8, .inl (F 5))), (qh 6, .inl (G.2 0, 8, .inl (F 6))), (qh 7, .inl (G.2 0, 8, .inl (F 7))), (qh 8, .inl (G.2 0, 8, .inl (F 8))), (qh 9, .inl (G.2 0, 5, .inl (F 9))), (qh 10, .inl (G.2 0, 5, .inl (F 10))), (qh 11, .inl (G.2 0, 5, .inl (F 11))), (qh 12, .inl (G.2 0, 5, .inl (F 12))), (qh 13, .inl (G.2 0, 5, .inl (F 13)))] : va_W)) (w1 := (lzX x q (upd S 11 (nI (((T + 1) + 1) + 1))) ++ lzI G (q 10) 16 (upd (upd (upd t T 22) (T + 1) 21) ((T + 1) + 1) 20))) hP hD [0, 1] [2, 3, 4, 5, 6, 7, 8, 9, 10, 11, 12] rfl rfl (by decide) (by decide) rfl hk1 hB
      replace hP := hP.sub (ws' := (lzX x q (upd S 11 (nI (((T + 1) + 1) + 1))) ++ (lzI G (q 10) 16 (upd (upd (upd t T 22) (T + 1) 21) ((T + 1) + 1) 20) ++ (lzDoor G (q 6) qh D F)))) [11, 12, 0, 1, 2, 3, 4, 5, 6, 7, 8, 9, 10] rfl
      replace hD := hD.sub (ws' := (lzX x q (upd S 11 (nI (((T + 1) + 1) + 1))) ++ (lzI G (q 10) 16 (upd (upd (upd t T 22) (T + 1) 21) ((T + 1) + 1) 20) ++ (lzDoor G (q 6) qh D F)))) [11, 12, 0, 1, 2, 3, 4, 5, 6, 7, 8, 9, 10] (by decide) rfl
      clear ht hvm hB hz1 hk1
      generalize H1 = H at hP hS ⊢
      refine lz_top (y := nI s) hr_17 ?_
      refine lv_aload_n hx hb dX3_knownMark_43 rfl (lv_at hl 1 rfl) ?_
      refine lz_get (G := G) (ci := 3) (v := .ref (q 6)) (C := RX3) (T := TX3) (N := 13) hx hb hu_wsX30 (fun _ h9 => h9) hown hK hP 0 rfl rfl 6 (by decide) hw1 rfl rfl dX3_knownMark_44 ?_
      refine lv_iload_n hx hb dX3_knownMark_47 rfl (lv_at hl 2 rfl) ?_
      have hPc := hP.sub (ws' := lzDoor G (q 6) qh D F) [2, 3, 4, 5, 6, 7, 8, 9, 10, 11, 12] rfl
      refine ro_calli (va_runV (As := [.int (nI s)]) (rest := [.int (nI s)]) ⟨hx, hb, hml, hown, hts⟩ (c_X1_howManyClick l G (q 6) qh D F s N M (hN) (hN8) (hM) (hM5)) (cwV 1 hts gX3_knownMark_X1_howManyClick rfl rfl rfl (by decide +kernel) ⟨Nat.le_of_ble_eq_true rfl, Nat.le_of_ble_eq_true rfl⟩) (ro_preV hK hPc hP (ci := 1) (q0 := 2) rfl rfl) rfl rfl hl.1 rfl (lv_room (Nat.le_of_ble_eq_true rfl)) dX3_knownMark_48 ⟨Nat.zero_le _, Nat.zero_le _⟩) (fun r_19 hr_19 => ?_)
      refine lz_top (y := sumI (fun v => bitsI (clkD F v) N >>> (nI s &&& 31) &&& 1) M) hr_19 ?_
      refine lv_iadd hx hb dX3_knownMark_51 ?_
      refine lv_istore_n (lv' := [(3, .int ((nI s) + (sumI (fun v => bitsI (clkD F v) N >>> (nI s &&& 31) &&& 1) M))), (2, .int ((F 4) s)), (0, .ref x), (1, .int (nI s))]) hx hb dX3_knownMark_52 rfl hl (by decide) rfl (fun ls hl => ?_)
      refine lv_iload_n hx hb dX3_knownMark_53 rfl (lv_at hl 1 rfl) ?_
      refine lv_iconst (v := 3) hx hb dX3_knownMark_54 (by decide) ?_
      refine lv_icmp_ne (tgt := 64) hx hb dX3_knownMark_55 (by decide) (fun c_55 => ?_) (fun c_55 => ?_)
      · skip
        refine lv_iload_n hx hb dX3_knownMark_64 rfl (lv_at hl 1 rfl) ?_
        refine lv_iconst (v := 2) hx hb dX3_knownMark_65 (by decide) ?_
        refine lv_icmp_ne (tgt := 75) hx hb dX3_knownMark_66 (by decide) (fun c_66 => ?_) (fun c_66 => ?_)
        · skip
          refine lv_iload_n hx hb dX3_knownMark_75 rfl (lv_at hl 0 rfl) ?_
          exact rw_iret (S := Unit) (G := G) (Wd := fun _ : Unit => (lzX x q (upd S 11 (nI (T + (kmL (F 4 s)).length))) ++ (lzI G (q 10) 16 (trL t T (kmL (F 4 s))) ++ (lzDoor G (q 6) qh D F)))) () hx hb hr hlk dX3_knownMark_76 hS (by show va_P G.1 lzC (lzX x q (upd S 11 (nI (T + (kmL (F 4 s)).length))) ++ (lzI G (q 10) 16 (trL t T (kmL (F 4 s))) ++ lzDoor G (q 6) qh D F)) H; unfold kmL; (first | rw [if_pos c_12] | rw [if_neg c_12, if_pos c_23] | rw [if_neg c_12, if_neg c_23]) <;> exact hP) (by unfold kmV; first | rw [if_pos c_55] | rw [if_neg c_55, if_pos c_66] | rw [if_neg c_55, if_neg c_66])
        · skip
          refine lv_iconst (v := 2) hx hb dX3_knownMark_69 (by decide) ?_
          refine lv_iload_n hx hb dX3_knownMark_70 rfl (lv_at hl 0 rfl) ?_
          refine lv_imul hx hb dX3_knownMark_71 ?_
          refine lv_goto (tgt := 76) hx hb dX3_knownMark_72 (by decide) ?_
          exact rw_iret (S := Unit) (G := G) (Wd := fun _ : Unit => (lzX x q (upd S 11 (nI (T + (kmL (F 4 s)).length))) ++ (lzI G (q 10) 16 (trL t T (kmL (F 4 s))) ++ (lzDoor G (q 6) qh D F)))) () hx hb hr hlk dX3_knownMark_76 hS (by show va_P G.1 lzC (lzX x q (upd S 11 (nI (T + (kmL (F 4 s)).length))) ++ (lzI G (q 10) 16 (trL t T (kmL (F 4 s))) ++ lzDoor G (q 6) qh D F)) H; unfold kmL; (first | rw [if_pos c_12] | rw [if_neg c_12, if_pos c_23] | rw [if_neg c_12, if_neg c_23]) <;> exact hP) (by unfold kmV; first | rw [if_pos c_55] | rw [if_neg c_55, if_pos c_66] | rw [if_neg c_55, if_neg c_66])
      · skip
        refine lv_iload_n hx hb dX3_knownMark_58 rfl (lv_at hl 0 rfl) ?_
        refine lv_sipush (v := 1000) hx hb dX3_knownMark_59 (by decide) ?_
        refine lv_isub hx hb dX3_knownMark_62 ?_
        exact rw_iret (S := Unit) (G := G) (Wd := fun _ : Unit => (lzX x q (upd S 11 (nI (T + (kmL (F 4 s)).length))) ++ (lzI G (q 10) 16 (trL t T (kmL (F 4 s))) ++ (lzDoor G (q 6) qh D F)))) () hx hb hr hlk dX3_knownMark_63 hS (by show va_P G.1 lzC (lzX x q (upd S 11 (nI (T + (kmL (F 4 s)).length))) ++ (lzI G (q 10) 16 (trL t T (kmL (F 4 s))) ++ lzDoor G (q 6) qh D F)) H; unfold kmL; (first | rw [if_pos c_12] | rw [if_neg c_12, if_pos c_23] | rw [if_neg c_12, if_neg c_23]) <;> exact hP) (by unfold kmV; first | rw [if_pos c_55] | rw [if_neg c_55, if_pos c_66] | rw [if_neg c_55, if_neg c_66])
    · skip
      exact absurd (c_12.symm.trans c_23) (by decide)
set_option maxHeartbeats 4000000 in
set_option maxRecDepth 100000 in
theorem c_X3_knownSize (l : Launch) (G : lzG) (x : Nat) (q : Nat → Nat) (S : Nat → Int32) (t : Nat → Int32) (qh : Nat → Nat) (D : Nat → Int32) (F : Nat → Nat → Int32) (s N M T : Nat) (hs : s < 8) (hN : D 2 = nI N) (hN8 : N ≤ 8) (hM : D 3 = nI M) (hM5 : M ≤ 5) (hT : S 11 = nI T) (hT16 : T + 6 ≤ 16) : Met l yX3_knownSize wsX3_knownSize ({ frames := 5, cells := 0, slots := 0, locals := 115 }) (va_Pc [.ref x, .int (nI s)] (rwP G (lzX x q S ++ (lzI G (q 10) 16 t ++ (lzDoor G (q 6) qh D F))))) (va_Qi (S := Unit) (fun (r : Int32) (_ : Unit) => r = ksV (F 4 s) (F 5 s) (kmV (F 4 s) (nI s + (sumI (fun v => bitsI (clkD F v) N >>> (nI s &&& 31) &&& 1) M)))) (rwB G (fun _ : Unit => (lzX x q (upd S 11 (nI (T + (ksL (F 4 s)).length))) ++ (lzI G (q 10) 16 (trL t T (ksL (F 4 s))) ++ (lzDoor G (q 6) qh D F))))) (lzA (lzX x q S ++ (lzI G (q 10) 16 t ++ (lzDoor G (q 6) qh D F))))) 0 0 (lzA (lzX x q S ++ (lzI G (q 10) 16 t ++ (lzDoor G (q 6) qh D F)))) := by
  refine rw_start (S := Unit) (cc := cX3_knownSize) (maxL := 5) (ret := (some .int)) (by decide) rfl (Nat.le_of_ble_eq_true rfl) ?_
  intro pp ee ss mm bl me cd A hx hb hr hlk hml hts hown hP hK hD hAe hS ls hl
  have hA0 : ∀ zz : Nat, lzA (lzX x q S ++ (lzI G (q 10) 16 t ++ (lzDoor G (q 6) qh D F))) zz → A zz := fun zz h9 => by rw [hAe]; exact h9
  rw [← hAe]
  clear hAe
  have hown : ss.vm.findClass RX3 = some mm.cls := hown
  have hw1 := hts (.fieldLink RX3 38 "LampSquares" "here" "LLampSquares$Door;") (List.mem_of_getElem? (i := 1) rfl)
  have hw2 := hts (.fieldLink RX3 197 "LampSquares$Door" "kindOf" "[I") (List.mem_of_getElem? (i := 2) rfl)
  have hu_wsX10 : ∀ w ∈ wsX10, w.before ([.ref x, .int (nI s)] : List Value).toArray ss = true := fun w h9 => hts w (List.mem_cons_of_mem _ (List.mem_append_right _ h9))
  have hu_wsX30 : ∀ w ∈ wsX30, w.before ([.ref x, .int (nI s)] : List Value).toArray ss = true := fun w h9 => hts w (List.mem_cons_of_mem _ (List.mem_append_left _ (List.mem_append_right _ h9)))
  have hl : lv_has ls 5 [(0, .ref x), (1, .int (nI s))] := hl
  refine lv_aload_n hx hb dX3_knownSize_0 rfl (lv_at hl 0 rfl) ?_
  refine lz_get (G := G) (ci := 3) (v := .ref (q 6)) (C := RX3) (T := TX3) (N := 13) hx hb hu_wsX30 (fun _ h9 => h9) hown hK hP 0 rfl rfl 6 (by decide) hw1 rfl rfl dX3_knownSize_1 ?_
  refine lz_get (G := G) (ci := 1) (v := .ref (qh 4)) (C := RX1) (T := TX1) (N := 14) hx hb hu_wsX10 (fun _ h9 => h9) hown hK hP 2 rfl rfl 4 (by decide) hw2 rfl rfl dX3_knownSize_4 ?_
  refine lv_iload_n hx hb dX3_knownSize_7 rfl (lv_at hl 1 rfl) ?_
  refine lz_iald (f := F 4) hx hb hK hP 3 rfl s (by omega) (Nat.le_of_ble_eq_true rfl) dX3_knownSize_8 ?_
  refine lv_iconst (v := 2) hx hb dX3_knownSize_9 (by decide) ?_
  refine lv_icmp_ne (tgt := 17) hx hb dX3_knownSize_10 (by decide) (fun c_10 => ?_) (fun c_10 => ?_)
  · skip
    refine lv_iconst (v := 0) hx hb dX3_knownSize_17 (by decide) ?_
    refine lv_istore_n (lv' := [(2, .int 0), (0, .ref x), (1, .int (nI s))]) hx hb dX3_knownSize_18 rfl hl (by decide) rfl (fun ls hl => ?_)
    refine lv_iload_n hx hb dX3_knownSize_19 rfl (lv_at hl 0 rfl) ?_
    refine lv_if_eq (tgt := 29) hx hb dX3_knownSize_20 (by decide) (fun c_20 => ?_) (fun c_20 => ?_)
    · skip
      refine lv_aload_n hx hb dX3_knownSize_29 rfl (lv_at hl 1 rfl) ?_
      refine lv_bipush (v := 11) hx hb dX3_knownSize_30 (by decide) ?_
      have hPc := hP.sub (ws' := (lzX x q S ++ lzI G (q 10) 16 t)) [0, 1] rfl
      have hDc := hD.sub (ws' := (lzX x q S ++ lzI G (q 10) 16 t)) [0, 1] (by decide) rfl
      have hFc : ∀ zz : Nat, lzA (lzX x q S ++ lzI G (q 10) 16 t) zz → A zz := lz_free hD [0, 1] rfl
      refine va_callv (va_runV (As := [.int 11]) (rest := []) ⟨hx, hb, hml, hown, hts⟩ (c_X3_begin l G x q S t T 11 (hT) (by omega)) (cwV 1 hts gX3_knownSize_X3_begin rfl rfl rfl (by decide +kernel) ⟨Nat.le_of_ble_eq_true rfl, Nat.le_of_ble_eq_true rfl⟩) (rw_preV hK hPc hDc hP (ci := 3) (q0 := 0) rfl rfl) rfl rfl hl.1 rfl (lv_room (Nat.le_of_ble_eq_true rfl)) dX3_knownSize_32 ⟨Nat.zero_le _, Nat.zero_le _⟩) hS (fun q _ h => hFc q h) hFc (fun u_2 t9 H1 locs ht hvm hr_1 hB hz1 hk1 hS => ?_)
      replace hB : va_P G.1 lzC _ t9.heap := hB
      rw [ht] at hB
      obtain ⟨hP, hD⟩ := lz_join (wc := (lzX x q S ++ lzI G (q 10) 16 t)) (wr := ([(q 6, .inr (1, [.int (D 0), .int (D 1), .int (D 2), .int (D 3), .ref (qh 4), .ref (qh 5), .ref (qh 6), .ref (qh 7), .ref (qh 8), .ref (qh 9), .ref (qh 10), .ref (qh 11), .ref (qh 12), .ref (qh 13)])), (qh 4, .inl (G.2 0, 8, .inl (F 4))), (qh 5, .inl (G.2 0, 8, .inl (F 5))), (qh 6, .inl (G.2 0, 8, .inl (F 6))), (qh 7, .inl (G.2 0, 8, .inl (F 7))), (qh 8, .inl (G.2 0, 8, .inl (F 8))), (qh 9, .inl (G.2 0, 5, .inl (F 9))), (qh 10, .inl (G.2 0, 5, .inl (F 10))), (qh 11, .inl (G.2 0, 5, .inl (F 11))), (qh 12, .inl (G.2 0, 5, .inl (F 12))), (qh 13, .inl (G.2 0, 5, .inl (F 13)))] : va_W)) (w1 := (lzX x q (upd S 11 (nI (T + 1))) ++ lzI G (q 10) 16 (upd t T 11))) hP hD [0, 1] [2, 3, 4, 5, 6, 7, 8, 9, 10, 11, 12] rfl rfl (by decide) (by decide) rfl hk1 hB
      replace hP := hP.sub (ws' := (lzX x q (upd S 11 (nI (T + 1))) ++ (lzI G (q 10) 16 (upd t T 11) ++ (lzDoor G (q 6) qh D F)))) [11, 12, 0, 1, 2, 3, 4, 5, 6, 7, 8, 9, 10] rfl
      replace hD := hD.sub (ws' := (lzX x q (upd S 11 (nI (T + 1))) ++ (lzI G (q 10) 16 (upd t T 11) ++ (lzDoor G (q 6) qh D F)))) [11, 12, 0, 1, 2, 3, 4, 5, 6, 7, 8, 9, 10] (by decide) rfl
      clear ht hvm hB hz1 hk1
      generalize H1 = H at hP hS ⊢
      refine lv_aload_n hx hb dX3_knownSize_35 rfl (lv_at hl 1 rfl) ?_
      refine lv_iload_n hx hb dX3_knownSize_36 rfl (lv_at hl 2 rfl) ?_
      have hFc : ∀ zz : Nat, lzA (lzX x q (upd S 11 (nI (T + 1))) ++ (lzI G (q 10) 16 (upd t T 11) ++ (lzDoor G (q 6) qh D F))) zz → A zz := lz_free hD [0, 1, 2, 3, 4, 5, 6, 7, 8, 9, 10, 11, 12] rfl
      refine va_calli (va_runV (As := [.int (nI s)]) (rest := []) ⟨hx, hb, hml, hown, hts⟩ (c_X3_lentSize l G x q (upd S 11 (nI (T + 1))) (upd t T 11) qh D F s (T + 1) (hs) (rfl) (by omega)) (cwV 1 hts gX3_knownSize_X3_lentSize rfl rfl rfl (by decide +kernel) ⟨Nat.le_of_ble_eq_true rfl, Nat.le_of_ble_eq_true rfl⟩) (rw_preV hK hP hD hP (ci := 3) (q0 := 0) rfl rfl) rfl rfl hl.1 rfl (lv_room (Nat.le_of_ble_eq_true rfl)) dX3_knownSize_37 ⟨Nat.zero_le _, Nat.zero_le _⟩) hS (fun q _ h => hFc q h) hFc (fun r_3 u_4 t9 H1 locs ht hvm hr_3 hB hz1 hk1 hS => ?_)
      replace hB : va_P G.1 lzC _ t9.heap := hB
      rw [ht] at hB
      obtain ⟨hP, hD⟩ := lz_join (wc := (lzX x q (upd S 11 (nI (T + 1))) ++ (lzI G (q 10) 16 (upd t T 11) ++ (lzDoor G (q 6) qh D F)))) (wr := ([] : va_W)) (w1 := (lzX x q (upd S 11 (nI ((T + 1) + 1))) ++ (lzI G (q 10) 16 (upd (upd t T 11) (T + 1) 10) ++ (lzDoor G (q 6) qh D F)))) hP hD [0, 1, 2, 3, 4, 5, 6, 7, 8, 9, 10, 11, 12] [] rfl rfl (by decide) (by decide) rfl hk1 hB
      replace hP := hP.sub (ws' := (lzX x q (upd S 11 (nI ((T + 1) + 1))) ++ (lzI G (q 10) 16 (upd (upd t T 11) (T + 1) 10) ++ (lzDoor G (q 6) qh D F)))) [0, 1, 2, 3, 4, 5, 6, 7, 8, 9, 10, 11, 12] rfl
      replace hD := hD.sub (ws' := (lzX x q (upd S 11 (nI ((T + 1) + 1))) ++ (lzI G (q 10) 16 (upd (upd t T 11) (T + 1) 10) ++ (lzDoor G (q 6) qh D F)))) [0, 1, 2, 3, 4, 5, 6, 7, 8, 9, 10, 11, 12] (by decide) rfl
      clear ht hvm hB hz1 hk1
      generalize H1 = H at hP hS ⊢
      refine lz_top (y := (F 5) s) hr_3 ?_
      refine lv_istore_n (lv' := [(3, .int ((F 5) s)), (2, .int 0), (0, .ref x), (1, .int (nI s))]) hx hb dX3_knownSize_40 rfl hl (by decide) rfl (fun ls hl => ?_)
      refine lv_iload_n hx hb dX3_knownSize_41 rfl (lv_at hl 0 rfl) ?_
      refine lv_aload_n hx hb dX3_knownSize_42 rfl (lv_at hl 2 rfl) ?_
      refine lv_iload_n hx hb dX3_knownSize_43 rfl (lv_at hl 3 rfl) ?_
      have hFc : ∀ zz : Nat, lzA (lzX x q (upd S 11 (nI ((T + 1) + 1))) ++ (lzI G (q 10) 16 (upd (upd t T 11) (T + 1) 10) ++ (lzDoor G (q 6) qh D F))) zz → A zz := lz_free hD [0, 1, 2, 3, 4, 5, 6, 7, 8, 9, 10, 11, 12] rfl
      refine va_calli (va_runV (As := [.int (nI s)]) (rest := [.int ((F 5) s)]) ⟨hx, hb, hml, hown, hts⟩ (c_X3_knownMark l G x q (upd S 11 (nI ((T + 1) + 1))) (upd (upd t T 11) (T + 1) 10) qh D F s N M ((T + 1) + 1) (hs) (hN) (hN8) (hM) (hM5) (rfl) (by omega)) (cwV 1 hts gX3_knownSize_X3_knownMark rfl rfl rfl (by decide +kernel) ⟨Nat.le_of_ble_eq_true rfl, Nat.le_of_ble_eq_true rfl⟩) (rw_preV hK hP hD hP (ci := 3) (q0 := 0) rfl rfl) rfl rfl hl.1 rfl (lv_room (Nat.le_of_ble_eq_true rfl)) dX3_knownSize_44 ⟨Nat.zero_le _, Nat.zero_le _⟩) hS (fun q _ h => hFc q h) hFc (fun r_5 u_6 t9 H1 locs ht hvm hr_5 hB hz1 hk1 hS => ?_)
      replace hB : va_P G.1 lzC _ t9.heap := hB
      rw [ht] at hB
      obtain ⟨hP, hD⟩ := lz_join (wc := (lzX x q (upd S 11 (nI ((T + 1) + 1))) ++ (lzI G (q 10) 16 (upd (upd t T 11) (T + 1) 10) ++ (lzDoor G (q 6) qh D F)))) (wr := ([] : va_W)) (w1 := (lzX x q (upd S 11 (nI (((T + 1) + 1) + (kmL ((F 4) s)).length))) ++ (lzI G (q 10) 16 (trL (upd (upd t T 11) (T + 1) 10) ((T + 1) + 1) (kmL ((F 4) s))) ++ (lzDoor G (q 6) qh D F)))) hP hD [0, 1, 2, 3, 4, 5, 6, 7, 8, 9, 10, 11, 12] [] rfl rfl (by decide) (by decide) rfl hk1 hB
      replace hP := hP.sub (ws' := (lzX x q (upd S 11 (nI (((T + 1) + 1) + (kmL ((F 4) s)).length))) ++ (lzI G (q 10) 16 (trL (upd (upd t T 11) (T + 1) 10) ((T + 1) + 1) (kmL ((F 4) s))) ++ (lzDoor G (q 6) qh D F)))) [0, 1, 2, 3, 4, 5, 6, 7, 8, 9, 10, 11, 12] rfl
      replace hD := hD.sub (ws' := (lzX x q (upd S 11 (nI (((T + 1) + 1) + (kmL ((F 4) s)).length))) ++ (lzI G (q 10) 16 (trL (upd (upd t T 11) (T + 1) 10) ((T + 1) + 1) (kmL ((F 4) s))) ++ (lzDoor G (q 6) qh D F)))) [0, 1, 2, 3, 4, 5, 6, 7, 8, 9, 10, 11, 12] (by decide) rfl
      clear ht hvm hB hz1 hk1
      generalize H1 = H at hP hS ⊢
      refine lz_top (y := kmV ((F 4) s) (nI s + (sumI (fun v => bitsI (clkD F v) N >>> (nI s &&& 31) &&& 1) M))) hr_5 ?_
      refine lv_iadd hx hb dX3_knownSize_47 ?_
      refine lv_istore (lv' := [(4, .int (((F 5) s) + (kmV ((F 4) s) (nI s + (sumI (fun v => bitsI (clkD F v) N >>> (nI s &&& 31) &&& 1) M))))), (3, .int ((F 5) s)), (2, .int 0), (0, .ref x), (1, .int (nI s))]) hx hb dX3_knownSize_48 hl (by decide) rfl (fun ls hl => ?_)
      refine lv_iload_n hx hb dX3_knownSize_50 rfl (lv_at hl 2 rfl) ?_
      refine lv_if_eq (tgt := 61) hx hb dX3_knownSize_51 (by decide) (fun c_51 => ?_) (fun c_51 => ?_)
      · skip
        refine lv_iload hx hb dX3_knownSize_61 (lv_at hl 0 rfl) ?_
        exact rw_iret (S := Unit) (G := G) (Wd := fun _ : Unit => (lzX x q (upd S 11 (nI (T + (ksL (F 4 s)).length))) ++ (lzI G (q 10) 16 (trL t T (ksL (F 4 s))) ++ (lzDoor G (q 6) qh D F)))) () hx hb hr hlk dX3_knownSize_63 hS (by show va_P G.1 lzC (lzX x q (upd S 11 (nI (T + (ksL (F 4 s)).length))) ++ (lzI G (q 10) 16 (trL t T (ksL (F 4 s))) ++ lzDoor G (q 6) qh D F)) H; unfold ksL; first | (rw [if_pos c_10, show T + (([12, 11, 10] : List Int32) ++ kmL (F 4 s)).length = T + 1 + 1 + 1 + (kmL (F 4 s)).length from by simp; omega]; exact hP) | (rw [if_neg c_10, show T + (([11, 10] : List Int32) ++ kmL (F 4 s)).length = T + 1 + 1 + (kmL (F 4 s)).length from by simp; omega]; exact hP)) (by unfold ksV; first | rw [if_pos c_10] | rw [if_neg c_10])
      · skip
        exact False.elim (by revert c_51; decide)
    · skip
      exact False.elim (by revert c_20; decide)
  · skip
    refine lv_iconst (v := 1) hx hb dX3_knownSize_13 (by decide) ?_
    refine lv_goto (tgt := 18) hx hb dX3_knownSize_14 (by decide) ?_
    refine lv_istore_n (lv' := [(2, .int 1), (0, .ref x), (1, .int (nI s))]) hx hb dX3_knownSize_18 rfl hl (by decide) rfl (fun ls hl => ?_)
    refine lv_iload_n hx hb dX3_knownSize_19 rfl (lv_at hl 0 rfl) ?_
    refine lv_if_eq (tgt := 29) hx hb dX3_knownSize_20 (by decide) (fun c_20 => ?_) (fun c_20 => ?_)
    · skip
      exact False.elim (by revert c_20; decide)
    · skip
      refine lv_aload_n hx hb dX3_knownSize_23 rfl (lv_at hl 1 rfl) ?_
      refine lv_bipush (v := 12) hx hb dX3_knownSize_24 (by decide) ?_
      have hPc := hP.sub (ws' := (lzX x q S ++ lzI G (q 10) 16 t)) [0, 1] rfl
      have hDc := hD.sub (ws' := (lzX x q S ++ lzI G (q 10) 16 t)) [0, 1] (by decide) rfl
      have hFc : ∀ zz : Nat, lzA (lzX x q S ++ lzI G (q 10) 16 t) zz → A zz := lz_free hD [0, 1] rfl
      refine va_callv (va_runV (As := [.int 12]) (rest := []) ⟨hx, hb, hml, hown, hts⟩ (c_X3_begin l G x q S t T 12 (hT) (by omega)) (cwV 1 hts gX3_knownSize_X3_begin rfl rfl rfl (by decide +kernel) ⟨Nat.le_of_ble_eq_true rfl, Nat.le_of_ble_eq_true rfl⟩) (rw_preV hK hPc hDc hP (ci := 3) (q0 := 0) rfl rfl) rfl rfl hl.1 rfl (lv_room (Nat.le_of_ble_eq_true rfl)) dX3_knownSize_26 ⟨Nat.zero_le _, Nat.zero_le _⟩) hS (fun q _ h => hFc q h) hFc (fun u_8 t9 H1 locs ht hvm hr_7 hB hz1 hk1 hS => ?_)
      replace hB : va_P G.1 lzC _ t9.heap := hB
      rw [ht] at hB
      obtain ⟨hP, hD⟩ := lz_join (wc := (lzX x q S ++ lzI G (q 10) 16 t)) (wr := ([(q 6, .inr (1, [.int (D 0), .int (D 1), .int (D 2), .int (D 3), .ref (qh 4), .ref (qh 5), .ref (qh 6), .ref (qh 7), .ref (qh 8), .ref (qh 9), .ref (qh 10), .ref (qh 11), .ref (qh 12), .ref (qh 13)])), (qh 4, .inl (G.2 0, 8, .inl (F 4))), (qh 5, .inl (G.2 0, 8, .inl (F 5))), (qh 6, .inl (G.2 0, 8, .inl (F 6))), (qh 7, .inl (G.2 0, 8, .inl (F 7))), (qh 8, .inl (G.2 0, 8, .inl (F 8))), (qh 9, .inl (G.2 0, 5, .inl (F 9))), (qh 10, .inl (G.2 0, 5, .inl (F 10))), (qh 11, .inl (G.2 0, 5, .inl (F 11))), (qh 12, .inl (G.2 0, 5, .inl (F 12))), (qh 13, .inl (G.2 0, 5, .inl (F 13)))] : va_W)) (w1 := (lzX x q (upd S 11 (nI (T + 1))) ++ lzI G (q 10) 16 (upd t T 12))) hP hD [0, 1] [2, 3, 4, 5, 6, 7, 8, 9, 10, 11, 12] rfl rfl (by decide) (by decide) rfl hk1 hB
      replace hP := hP.sub (ws' := (lzX x q (upd S 11 (nI (T + 1))) ++ (lzI G (q 10) 16 (upd t T 12) ++ (lzDoor G (q 6) qh D F)))) [11, 12, 0, 1, 2, 3, 4, 5, 6, 7, 8, 9, 10] rfl
      replace hD := hD.sub (ws' := (lzX x q (upd S 11 (nI (T + 1))) ++ (lzI G (q 10) 16 (upd t T 12) ++ (lzDoor G (q 6) qh D F)))) [11, 12, 0, 1, 2, 3, 4, 5, 6, 7, 8, 9, 10] (by decide) rfl
      clear ht hvm hB hz1 hk1
      generalize H1 = H at hP hS ⊢
      refine lv_aload_n hx hb dX3_knownSize_29 rfl (lv_at hl 1 rfl) ?_
      refine lv_bipush (v := 11) hx hb dX3_knownSize_30 (by decide) ?_
      have hPc := hP.sub (ws' := (lzX x q (upd S 11 (nI (T + 1))) ++ lzI G (q 10) 16 (upd t T 12))) [0, 1] rfl
      have hDc := hD.sub (ws' := (lzX x q (upd S 11 (nI (T + 1))) ++ lzI G (q 10) 16 (upd t T 12))) [0, 1] (by decide) rfl
      have hFc : ∀ zz : Nat, lzA (lzX x q (upd S 11 (nI (T + 1))) ++ lzI G (q 10) 16 (upd t T 12)) zz → A zz := lz_free hD [0, 1] rfl
      refine va_callv (va_runV (As := [.int 11]) (rest := []) ⟨hx, hb, hml, hown, hts⟩ (c_X3_begin l G x q (upd S 11 (nI (T + 1))) (upd t T 12) (T + 1) 11 (rfl) (by omega)) (cwV 1 hts gX3_knownSize_X3_begin rfl rfl rfl (by decide +kernel) ⟨Nat.le_of_ble_eq_true rfl, Nat.le_of_ble_eq_true rfl⟩) (rw_preV hK hPc hDc hP (ci := 3) (q0 := 0) rfl rfl) rfl rfl hl.1 rfl (lv_room (Nat.le_of_ble_eq_true rfl)) dX3_knownSize_32 ⟨Nat.zero_le _, Nat.zero_le _⟩) hS (fun q _ h => hFc q h) hFc (fun u_10 t9 H1 locs ht hvm hr_9 hB hz1 hk1 hS => ?_)
      replace hB : va_P G.1 lzC _ t9.heap := hB
      rw [ht] at hB
      obtain ⟨hP, hD⟩ := lz_join (wc := (lzX x q (upd S 11 (nI (T + 1))) ++ lzI G (q 10) 16 (upd t T 12))) (wr := ([(q 6, .inr (1, [.int (D 0), .int (D 1), .int (D 2), .int (D 3), .ref (qh 4), .ref (qh 5), .ref (qh 6), .ref (qh 7), .ref (qh 8), .ref (qh 9), .ref (qh 10), .ref (qh 11), .ref (qh 12), .ref (qh 13)])), (qh 4, .inl (G.2 0, 8, .inl (F 4))), (qh 5, .inl (G.2 0, 8, .inl (F 5))), (qh 6, .inl (G.2 0, 8, .inl (F 6))), (qh 7, .inl (G.2 0, 8, .inl (F 7))), (qh 8, .inl (G.2 0, 8, .inl (F 8))), (qh 9, .inl (G.2 0, 5, .inl (F 9))), (qh 10, .inl (G.2 0, 5, .inl (F 10))), (qh 11, .inl (G.2 0, 5, .inl (F 11))), (qh 12, .inl (G.2 0, 5, .inl (F 12))), (qh 13, .inl (G.2 0, 5, .inl (F 13)))] : va_W)) (w1 := (lzX x q (upd S 11 (nI ((T + 1) + 1))) ++ lzI G (q 10) 16 (upd (upd t T 12) (T + 1) 11))) hP hD [0, 1] [2, 3, 4, 5, 6, 7, 8, 9, 10, 11, 12] rfl rfl (by decide) (by decide) rfl hk1 hB
      replace hP := hP.sub (ws' := (lzX x q (upd S 11 (nI ((T + 1) + 1))) ++ (lzI G (q 10) 16 (upd (upd t T 12) (T + 1) 11) ++ (lzDoor G (q 6) qh D F)))) [11, 12, 0, 1, 2, 3, 4, 5, 6, 7, 8, 9, 10] rfl
      replace hD := hD.sub (ws' := (lzX x q (upd S 11 (nI ((T + 1) + 1))) ++ (lzI G (q 10) 16 (upd (upd t T 12) (T + 1) 11) ++ (lzDoor G (q 6) qh D F)))) [11, 12, 0, 1, 2, 3, 4, 5, 6, 7, 8, 9, 10] (by decide) rfl
      clear ht hvm hB hz1 hk1
      generalize H1 = H at hP hS ⊢
      refine lv_aload_n hx hb dX3_knownSize_35 rfl (lv_at hl 1 rfl) ?_
      refine lv_iload_n hx hb dX3_knownSize_36 rfl (lv_at hl 2 rfl) ?_
      have hFc : ∀ zz : Nat, lzA (lzX x q (upd S 11 (nI ((T + 1) + 1))) ++ (lzI G (q 10) 16 (upd (upd t T 12) (T + 1) 11) ++ (lzDoor G (q 6) qh D F))) zz → A zz := lz_free hD [0, 1, 2, 3, 4, 5, 6, 7, 8, 9, 10, 11, 12] rfl
      refine va_calli (va_runV (As := [.int (nI s)]) (rest := []) ⟨hx, hb, hml, hown, hts⟩ (c_X3_lentSize l G x q (upd S 11 (nI ((T + 1) + 1))) (upd (upd t T 12) (T + 1) 11) qh D F s ((T + 1) + 1) (hs) (rfl) (by omega)) (cwV 1 hts gX3_knownSize_X3_lentSize rfl rfl rfl (by decide +kernel) ⟨Nat.le_of_ble_eq_true rfl, Nat.le_of_ble_eq_true rfl⟩) (rw_preV hK hP hD hP (ci := 3) (q0 := 0) rfl rfl) rfl rfl hl.1 rfl (lv_room (Nat.le_of_ble_eq_true rfl)) dX3_knownSize_37 ⟨Nat.zero_le _, Nat.zero_le _⟩) hS (fun q _ h => hFc q h) hFc (fun r_11 u_12 t9 H1 locs ht hvm hr_11 hB hz1 hk1 hS => ?_)
      replace hB : va_P G.1 lzC _ t9.heap := hB
      rw [ht] at hB
      obtain ⟨hP, hD⟩ := lz_join (wc := (lzX x q (upd S 11 (nI ((T + 1) + 1))) ++ (lzI G (q 10) 16 (upd (upd t T 12) (T + 1) 11) ++ (lzDoor G (q 6) qh D F)))) (wr := ([] : va_W)) (w1 := (lzX x q (upd S 11 (nI (((T + 1) + 1) + 1))) ++ (lzI G (q 10) 16 (upd (upd (upd t T 12) (T + 1) 11) ((T + 1) + 1) 10) ++ (lzDoor G (q 6) qh D F)))) hP hD [0, 1, 2, 3, 4, 5, 6, 7, 8, 9, 10, 11, 12] [] rfl rfl (by decide) (by decide) rfl hk1 hB
      replace hP := hP.sub (ws' := (lzX x q (upd S 11 (nI (((T + 1) + 1) + 1))) ++ (lzI G (q 10) 16 (upd (upd (upd t T 12) (T + 1) 11) ((T + 1) + 1) 10) ++ (lzDoor G (q 6) qh D F)))) [0, 1, 2, 3, 4, 5, 6, 7, 8, 9, 10, 11, 12] rfl
      replace hD := hD.sub (ws' := (lzX x q (upd S 11 (nI (((T + 1) + 1) + 1))) ++ (lzI G (q 10) 16 (upd (upd (upd t T 12) (T + 1) 11) ((T + 1) + 1) 10) ++ (lzDoor G (q 6) qh D F)))) [0, 1, 2, 3, 4, 5, 6, 7, 8, 9, 10, 11, 12] (by decide) rfl
      clear ht hvm hB hz1 hk1
      generalize H1 = H at hP hS ⊢
      refine lz_top (y := (F 5) s) hr_11 ?_
      refine lv_istore_n (lv' := [(3, .int ((F 5) s)), (2, .int 1), (0, .ref x), (1, .int (nI s))]) hx hb dX3_knownSize_40 rfl hl (by decide) rfl (fun ls hl => ?_)
      refine lv_iload_n hx hb dX3_knownSize_41 rfl (lv_at hl 0 rfl) ?_
      refine lv_aload_n hx hb dX3_knownSize_42 rfl (lv_at hl 2 rfl) ?_
      refine lv_iload_n hx hb dX3_knownSize_43 rfl (lv_at hl 3 rfl) ?_
      have hFc : ∀ zz : Nat, lzA (lzX x q (upd S 11 (nI (((T + 1) + 1) + 1))) ++ (lzI G (q 10) 16 (upd (upd (upd t T 12) (T + 1) 11) ((T + 1) + 1) 10) ++ (lzDoor G (q 6) qh D F))) zz → A zz := lz_free hD [0, 1, 2, 3, 4, 5, 6, 7, 8, 9, 10, 11, 12] rfl
      refine va_calli (va_runV (As := [.int (nI s)]) (rest := [.int ((F 5) s)]) ⟨hx, hb, hml, hown, hts⟩ (c_X3_knownMark l G x q (upd S 11 (nI (((T + 1) + 1) + 1))) (upd (upd (upd t T 12) (T + 1) 11) ((T + 1) + 1) 10) qh D F s N M (((T + 1) + 1) + 1) (hs) (hN) (hN8) (hM) (hM5) (rfl) (by omega)) (cwV 1 hts gX3_knownSize_X3_knownMark rfl rfl rfl (by decide +kernel) ⟨Nat.le_of_ble_eq_true rfl, Nat.le_of_ble_eq_true rfl⟩) (rw_preV hK hP hD hP (ci := 3) (q0 := 0) rfl rfl) rfl rfl hl.1 rfl (lv_room (Nat.le_of_ble_eq_true rfl)) dX3_knownSize_44 ⟨Nat.zero_le _, Nat.zero_le _⟩) hS (fun q _ h => hFc q h) hFc (fun r_13 u_14 t9 H1 locs ht hvm hr_13 hB hz1 hk1 hS => ?_)
      replace hB : va_P G.1 lzC _ t9.heap := hB
      rw [ht] at hB
      obtain ⟨hP, hD⟩ := lz_join (wc := (lzX x q (upd S 11 (nI (((T + 1) + 1) + 1))) ++ (lzI G (q 10) 16 (upd (upd (upd t T 12) (T + 1) 11) ((T + 1) + 1) 10) ++ (lzDoor G (q 6) qh D F)))) (wr := ([] : va_W)) (w1 := (lzX x q (upd S 11 (nI ((((T + 1) + 1) + 1) + (kmL ((F 4) s)).length))) ++ (lzI G (q 10) 16 (trL (upd (upd (upd t T 12) (T + 1) 11) ((T + 1) + 1) 10) (((T + 1) + 1) + 1) (kmL ((F 4) s))) ++ (lzDoor G (q 6) qh D F)))) hP hD [0, 1, 2, 3, 4, 5, 6, 7, 8, 9, 10, 11, 12] [] rfl rfl (by decide) (by decide) rfl hk1 hB
      replace hP := hP.sub (ws' := (lzX x q (upd S 11 (nI ((((T + 1) + 1) + 1) + (kmL ((F 4) s)).length))) ++ (lzI G (q 10) 16 (trL (upd (upd (upd t T 12) (T + 1) 11) ((T + 1) + 1) 10) (((T + 1) + 1) + 1) (kmL ((F 4) s))) ++ (lzDoor G (q 6) qh D F)))) [0, 1, 2, 3, 4, 5, 6, 7, 8, 9, 10, 11, 12] rfl
      replace hD := hD.sub (ws' := (lzX x q (upd S 11 (nI ((((T + 1) + 1) + 1) + (kmL ((F 4) s)).length))) ++ (lzI G (q 10) 16 (trL (upd (upd (upd t T 12) (T + 1) 11) ((T + 1) + 1) 10) (((T + 1) + 1) + 1) (kmL ((F 4) s))) ++ (lzDoor G (q 6) qh D F)))) [0, 1, 2, 3, 4, 5, 6, 7, 8, 9, 10, 11, 12] (by decide) rfl
      clear ht hvm hB hz1 hk1
      generalize H1 = H at hP hS ⊢
      refine lz_top (y := kmV ((F 4) s) (nI s + (sumI (fun v => bitsI (clkD F v) N >>> (nI s &&& 31) &&& 1) M))) hr_13 ?_
      refine lv_iadd hx hb dX3_knownSize_47 ?_
      refine lv_istore (lv' := [(4, .int (((F 5) s) + (kmV ((F 4) s) (nI s + (sumI (fun v => bitsI (clkD F v) N >>> (nI s &&& 31) &&& 1) M))))), (3, .int ((F 5) s)), (2, .int 1), (0, .ref x), (1, .int (nI s))]) hx hb dX3_knownSize_48 hl (by decide) rfl (fun ls hl => ?_)
      refine lv_iload_n hx hb dX3_knownSize_50 rfl (lv_at hl 2 rfl) ?_
      refine lv_if_eq (tgt := 61) hx hb dX3_knownSize_51 (by decide) (fun c_51 => ?_) (fun c_51 => ?_)
      · skip
        exact False.elim (by revert c_51; decide)
      · skip
        refine lv_iconst (v := 0) hx hb dX3_knownSize_54 (by decide) ?_
        refine lv_iload hx hb dX3_knownSize_55 (lv_at hl 0 rfl) ?_
        refine lv_isub hx hb dX3_knownSize_57 ?_
        refine lv_goto (tgt := 63) hx hb dX3_knownSize_58 (by decide) ?_
        exact rw_iret (S := Unit) (G := G) (Wd := fun _ : Unit => (lzX x q (upd S 11 (nI (T + (ksL (F 4 s)).length))) ++ (lzI G (q 10) 16 (trL t T (ksL (F 4 s))) ++ (lzDoor G (q 6) qh D F)))) () hx hb hr hlk dX3_knownSize_63 hS (by show va_P G.1 lzC (lzX x q (upd S 11 (nI (T + (ksL (F 4 s)).length))) ++ (lzI G (q 10) 16 (trL t T (ksL (F 4 s))) ++ lzDoor G (q 6) qh D F)) H; unfold ksL; first | (rw [if_pos c_10, show T + (([12, 11, 10] : List Int32) ++ kmL (F 4 s)).length = T + 1 + 1 + 1 + (kmL (F 4 s)).length from by simp; omega]; exact hP) | (rw [if_neg c_10, show T + (([11, 10] : List Int32) ++ kmL (F 4 s)).length = T + 1 + 1 + (kmL (F 4 s)).length from by simp; omega]; exact hP)) (by unfold ksV; first | rw [if_pos c_10] | rw [if_neg c_10])
set_option maxHeartbeats 4000000 in
set_option maxRecDepth 100000 in
theorem c_X3_unknownSize (l : Launch) (G : lzG) (x : Nat) (q : Nat → Nat) (S : Nat → Int32) (t : Nat → Int32) (qh : Nat → Nat) (D : Nat → Int32) (F : Nat → Nat → Int32) (s T : Nat) (hs : s < 8) (hT : S 11 = nI T) (hT16 : T + 3 ≤ 16) : Met l yX3_unknownSize wsX3_unknownSize ({ frames := 2, cells := 0, slots := 0, locals := 42 }) (va_Pc [.ref x, .int (nI s)] (rwP G (lzX x q S ++ (lzI G (q 10) 16 t ++ (lzDoor G (q 6) qh D F))))) (va_Qi (S := Unit) (fun (r : Int32) (_ : Unit) => r = usV (F 4 s) (F 5 s)) (rwB G (fun _ : Unit => (lzX x q (upd S 11 (nI (T + (usL (F 4 s)).length))) ++ (lzI G (q 10) 16 (trL t T (usL (F 4 s))) ++ (lzDoor G (q 6) qh D F))))) (lzA (lzX x q S ++ (lzI G (q 10) 16 t ++ (lzDoor G (q 6) qh D F))))) 0 0 (lzA (lzX x q S ++ (lzI G (q 10) 16 t ++ (lzDoor G (q 6) qh D F)))) := by
  refine rw_start (S := Unit) (cc := cX3_unknownSize) (maxL := 4) (ret := (some .int)) (by decide) rfl (Nat.le_of_ble_eq_true rfl) ?_
  intro pp ee ss mm bl me cd A hx hb hr hlk hml hts hown hP hK hD hAe hS ls hl
  have hA0 : ∀ zz : Nat, lzA (lzX x q S ++ (lzI G (q 10) 16 t ++ (lzDoor G (q 6) qh D F))) zz → A zz := fun zz h9 => by rw [hAe]; exact h9
  rw [← hAe]
  clear hAe
  have hown : ss.vm.findClass RX3 = some mm.cls := hown
  have hw1 := hts (.fieldLink RX3 38 "LampSquares" "here" "LLampSquares$Door;") (List.mem_of_getElem? (i := 1) rfl)
  have hw2 := hts (.fieldLink RX3 197 "LampSquares$Door" "kindOf" "[I") (List.mem_of_getElem? (i := 2) rfl)
  have hu_wsX10 : ∀ w ∈ wsX10, w.before ([.ref x, .int (nI s)] : List Value).toArray ss = true := fun w h9 => hts w (List.mem_cons_of_mem _ (List.mem_append_right _ h9))
  have hu_wsX30 : ∀ w ∈ wsX30, w.before ([.ref x, .int (nI s)] : List Value).toArray ss = true := fun w h9 => hts w (List.mem_cons_of_mem _ (List.mem_append_left _ (List.mem_append_right _ h9)))
  have hl : lv_has ls 4 [(0, .ref x), (1, .int (nI s))] := hl
  refine lv_aload_n hx hb dX3_unknownSize_0 rfl (lv_at hl 0 rfl) ?_
  refine lz_get (G := G) (ci := 3) (v := .ref (q 6)) (C := RX3) (T := TX3) (N := 13) hx hb hu_wsX30 (fun _ h9 => h9) hown hK hP 0 rfl rfl 6 (by decide) hw1 rfl rfl dX3_unknownSize_1 ?_
  refine lz_get (G := G) (ci := 1) (v := .ref (qh 4)) (C := RX1) (T := TX1) (N := 14) hx hb hu_wsX10 (fun _ h9 => h9) hown hK hP 2 rfl rfl 4 (by decide) hw2 rfl rfl dX3_unknownSize_4 ?_
  refine lv_iload_n hx hb dX3_unknownSize_7 rfl (lv_at hl 1 rfl) ?_
  refine lz_iald (f := F 4) hx hb hK hP 3 rfl s (by omega) (Nat.le_of_ble_eq_true rfl) dX3_unknownSize_8 ?_
  refine lv_iconst (v := 5) hx hb dX3_unknownSize_9 (by decide) ?_
  refine lv_icmp_ne (tgt := 17) hx hb dX3_unknownSize_10 (by decide) (fun c_10 => ?_) (fun c_10 => ?_)
  · skip
    refine lv_iconst (v := 0) hx hb dX3_unknownSize_17 (by decide) ?_
    refine lv_istore_n (lv' := [(2, .int 0), (0, .ref x), (1, .int (nI s))]) hx hb dX3_unknownSize_18 rfl hl (by decide) rfl (fun ls hl => ?_)
    refine lv_iload_n hx hb dX3_unknownSize_19 rfl (lv_at hl 0 rfl) ?_
    refine lv_if_eq (tgt := 29) hx hb dX3_unknownSize_20 (by decide) (fun c_20 => ?_) (fun c_20 => ?_)
    · skip
      refine lv_aload_n hx hb dX3_unknownSize_29 rfl (lv_at hl 1 rfl) ?_
      refine lv_bipush (v := 13) hx hb dX3_unknownSize_30 (by decide) ?_
      have hPc := hP.sub (ws' := (lzX x q S ++ lzI G (q 10) 16 t)) [0, 1] rfl
      have hDc := hD.sub (ws' := (lzX x q S ++ lzI G (q 10) 16 t)) [0, 1] (by decide) rfl
      have hFc : ∀ zz : Nat, lzA (lzX x q S ++ lzI G (q 10) 16 t) zz → A zz := lz_free hD [0, 1] rfl
      refine va_callv (va_runV (As := [.int 13]) (rest := []) ⟨hx, hb, hml, hown, hts⟩ (c_X3_begin l G x q S t T 13 (hT) (by omega)) (cwV 1 hts gX3_unknownSize_X3_begin rfl rfl rfl (by decide +kernel) ⟨Nat.le_of_ble_eq_true rfl, Nat.le_of_ble_eq_true rfl⟩) (rw_preV hK hPc hDc hP (ci := 3) (q0 := 0) rfl rfl) rfl rfl hl.1 rfl (lv_room (Nat.le_of_ble_eq_true rfl)) dX3_unknownSize_32 ⟨Nat.zero_le _, Nat.zero_le _⟩) hS (fun q _ h => hFc q h) hFc (fun u_2 t9 H1 locs ht hvm hr_1 hB hz1 hk1 hS => ?_)
      replace hB : va_P G.1 lzC _ t9.heap := hB
      rw [ht] at hB
      obtain ⟨hP, hD⟩ := lz_join (wc := (lzX x q S ++ lzI G (q 10) 16 t)) (wr := ([(q 6, .inr (1, [.int (D 0), .int (D 1), .int (D 2), .int (D 3), .ref (qh 4), .ref (qh 5), .ref (qh 6), .ref (qh 7), .ref (qh 8), .ref (qh 9), .ref (qh 10), .ref (qh 11), .ref (qh 12), .ref (qh 13)])), (qh 4, .inl (G.2 0, 8, .inl (F 4))), (qh 5, .inl (G.2 0, 8, .inl (F 5))), (qh 6, .inl (G.2 0, 8, .inl (F 6))), (qh 7, .inl (G.2 0, 8, .inl (F 7))), (qh 8, .inl (G.2 0, 8, .inl (F 8))), (qh 9, .inl (G.2 0, 5, .inl (F 9))), (qh 10, .inl (G.2 0, 5, .inl (F 10))), (qh 11, .inl (G.2 0, 5, .inl (F 11))), (qh 12, .inl (G.2 0, 5, .inl (F 12))), (qh 13, .inl (G.2 0, 5, .inl (F 13)))] : va_W)) (w1 := (lzX x q (upd S 11 (nI (T + 1))) ++ lzI G (q 10) 16 (upd t T 13))) hP hD [0, 1] [2, 3, 4, 5, 6, 7, 8, 9, 10, 11, 12] rfl rfl (by decide) (by decide) rfl hk1 hB
      replace hP := hP.sub (ws' := (lzX x q (upd S 11 (nI (T + 1))) ++ (lzI G (q 10) 16 (upd t T 13) ++ (lzDoor G (q 6) qh D F)))) [11, 12, 0, 1, 2, 3, 4, 5, 6, 7, 8, 9, 10] rfl
      replace hD := hD.sub (ws' := (lzX x q (upd S 11 (nI (T + 1))) ++ (lzI G (q 10) 16 (upd t T 13) ++ (lzDoor G (q 6) qh D F)))) [11, 12, 0, 1, 2, 3, 4, 5, 6, 7, 8, 9, 10] (by decide) rfl
      clear ht hvm hB hz1 hk1
      generalize H1 = H at hP hS ⊢
      refine lv_aload_n hx hb dX3_unknownSize_35 rfl (lv_at hl 1 rfl) ?_
      refine lv_iload_n hx hb dX3_unknownSize_36 rfl (lv_at hl 2 rfl) ?_
      have hFc : ∀ zz : Nat, lzA (lzX x q (upd S 11 (nI (T + 1))) ++ (lzI G (q 10) 16 (upd t T 13) ++ (lzDoor G (q 6) qh D F))) zz → A zz := lz_free hD [0, 1, 2, 3, 4, 5, 6, 7, 8, 9, 10, 11, 12] rfl
      refine va_calli (va_runV (As := [.int (nI s)]) (rest := []) ⟨hx, hb, hml, hown, hts⟩ (c_X3_lentSize l G x q (upd S 11 (nI (T + 1))) (upd t T 13) qh D F s (T + 1) (hs) (rfl) (by omega)) (cwV 1 hts gX3_unknownSize_X3_lentSize rfl rfl rfl (by decide +kernel) ⟨Nat.le_of_ble_eq_true rfl, Nat.le_of_ble_eq_true rfl⟩) (rw_preV hK hP hD hP (ci := 3) (q0 := 0) rfl rfl) rfl rfl hl.1 rfl (lv_room (Nat.le_of_ble_eq_true rfl)) dX3_unknownSize_37 ⟨Nat.zero_le _, Nat.zero_le _⟩) hS (fun q _ h => hFc q h) hFc (fun r_3 u_4 t9 H1 locs ht hvm hr_3 hB hz1 hk1 hS => ?_)
      replace hB : va_P G.1 lzC _ t9.heap := hB
      rw [ht] at hB
      obtain ⟨hP, hD⟩ := lz_join (wc := (lzX x q (upd S 11 (nI (T + 1))) ++ (lzI G (q 10) 16 (upd t T 13) ++ (lzDoor G (q 6) qh D F)))) (wr := ([] : va_W)) (w1 := (lzX x q (upd S 11 (nI ((T + 1) + 1))) ++ (lzI G (q 10) 16 (upd (upd t T 13) (T + 1) 10) ++ (lzDoor G (q 6) qh D F)))) hP hD [0, 1, 2, 3, 4, 5, 6, 7, 8, 9, 10, 11, 12] [] rfl rfl (by decide) (by decide) rfl hk1 hB
      replace hP := hP.sub (ws' := (lzX x q (upd S 11 (nI ((T + 1) + 1))) ++ (lzI G (q 10) 16 (upd (upd t T 13) (T + 1) 10) ++ (lzDoor G (q 6) qh D F)))) [0, 1, 2, 3, 4, 5, 6, 7, 8, 9, 10, 11, 12] rfl
      replace hD := hD.sub (ws' := (lzX x q (upd S 11 (nI ((T + 1) + 1))) ++ (lzI G (q 10) 16 (upd (upd t T 13) (T + 1) 10) ++ (lzDoor G (q 6) qh D F)))) [0, 1, 2, 3, 4, 5, 6, 7, 8, 9, 10, 11, 12] (by decide) rfl
      clear ht hvm hB hz1 hk1
      generalize H1 = H at hP hS ⊢
      refine lz_top (y := (F 5) s) hr_3 ?_
      refine lv_bipush (v := 100) hx hb dX3_unknownSize_40 (by decide) ?_
      refine lv_isub hx hb dX3_unknownSize_42 ?_
      refine lv_istore_n (lv' := [(3, .int (((F 5) s) - 100)), (2, .int 0), (0, .ref x), (1, .int (nI s))]) hx hb dX3_unknownSize_43 rfl hl (by decide) rfl (fun ls hl => ?_)
      refine lv_iload_n hx hb dX3_unknownSize_44 rfl (lv_at hl 1 rfl) ?_
      refine lv_if_eq (tgt := 54) hx hb dX3_unknownSize_45 (by decide) (fun c_45 => ?_) (fun c_45 => ?_)
      · skip
        refine lv_iload_n hx hb dX3_unknownSize_54 rfl (lv_at hl 0 rfl) ?_
        exact rw_iret (S := Unit) (G := G) (Wd := fun _ : Unit => (lzX x q (upd S 11 (nI (T + (usL (F 4 s)).length))) ++ (lzI G (q 10) 16 (trL t T (usL (F 4 s))) ++ (lzDoor G (q 6) qh D F)))) () hx hb hr hlk dX3_unknownSize_55 hS (by show va_P G.1 lzC (lzX x q (upd S 11 (nI (T + (usL (F 4 s)).length))) ++ (lzI G (q 10) 16 (trL t T (usL (F 4 s))) ++ lzDoor G (q 6) qh D F)) H; unfold usL; first | (rw [if_pos c_10]; exact hP) | (rw [if_neg c_10]; exact hP)) (by unfold usV; first | rw [if_pos c_10] | rw [if_neg c_10])
      · skip
        exact False.elim (by revert c_45; decide)
    · skip
      exact False.elim (by revert c_20; decide)
  · skip
    refine lv_iconst (v := 1) hx hb dX3_unknownSize_13 (by decide) ?_
    refine lv_goto (tgt := 18) hx hb dX3_unknownSize_14 (by decide) ?_
    refine lv_istore_n (lv' := [(2, .int 1), (0, .ref x), (1, .int (nI s))]) hx hb dX3_unknownSize_18 rfl hl (by decide) rfl (fun ls hl => ?_)
    refine lv_iload_n hx hb dX3_unknownSize_19 rfl (lv_at hl 0 rfl) ?_
    refine lv_if_eq (tgt := 29) hx hb dX3_unknownSize_20 (by decide) (fun c_20 => ?_) (fun c_20 => ?_)
    · skip
      exact False.elim (by revert c_20; decide)
    · skip
      refine lv_aload_n hx hb dX3_unknownSize_23 rfl (lv_at hl 1 rfl) ?_
      refine lv_bipush (v := 14) hx hb dX3_unknownSize_24 (by decide) ?_
      have hPc := hP.sub (ws' := (lzX x q S ++ lzI G (q 10) 16 t)) [0, 1] rfl
      have hDc := hD.sub (ws' := (lzX x q S ++ lzI G (q 10) 16 t)) [0, 1] (by decide) rfl
      have hFc : ∀ zz : Nat, lzA (lzX x q S ++ lzI G (q 10) 16 t) zz → A zz := lz_free hD [0, 1] rfl
      refine va_callv (va_runV (As := [.int 14]) (rest := []) ⟨hx, hb, hml, hown, hts⟩ (c_X3_begin l G x q S t T 14 (hT) (by omega)) (cwV 1 hts gX3_unknownSize_X3_begin rfl rfl rfl (by decide +kernel) ⟨Nat.le_of_ble_eq_true rfl, Nat.le_of_ble_eq_true rfl⟩) (rw_preV hK hPc hDc hP (ci := 3) (q0 := 0) rfl rfl) rfl rfl hl.1 rfl (lv_room (Nat.le_of_ble_eq_true rfl)) dX3_unknownSize_26 ⟨Nat.zero_le _, Nat.zero_le _⟩) hS (fun q _ h => hFc q h) hFc (fun u_6 t9 H1 locs ht hvm hr_5 hB hz1 hk1 hS => ?_)
      replace hB : va_P G.1 lzC _ t9.heap := hB
      rw [ht] at hB
      obtain ⟨hP, hD⟩ := lz_join (wc := (lzX x q S ++ lzI G (q 10) 16 t)) (wr := ([(q 6, .inr (1, [.int (D 0), .int (D 1), .int (D 2), .int (D 3), .ref (qh 4), .ref (qh 5), .ref (qh 6), .ref (qh 7), .ref (qh 8), .ref (qh 9), .ref (qh 10), .ref (qh 11), .ref (qh 12), .ref (qh 13)])), (qh 4, .inl (G.2 0, 8, .inl (F 4))), (qh 5, .inl (G.2 0, 8, .inl (F 5))), (qh 6, .inl (G.2 0, 8, .inl (F 6))), (qh 7, .inl (G.2 0, 8, .inl (F 7))), (qh 8, .inl (G.2 0, 8, .inl (F 8))), (qh 9, .inl (G.2 0, 5, .inl (F 9))), (qh 10, .inl (G.2 0, 5, .inl (F 10))), (qh 11, .inl (G.2 0, 5, .inl (F 11))), (qh 12, .inl (G.2 0, 5, .inl (F 12))), (qh 13, .inl (G.2 0, 5, .inl (F 13)))] : va_W)) (w1 := (lzX x q (upd S 11 (nI (T + 1))) ++ lzI G (q 10) 16 (upd t T 14))) hP hD [0, 1] [2, 3, 4, 5, 6, 7, 8, 9, 10, 11, 12] rfl rfl (by decide) (by decide) rfl hk1 hB
      replace hP := hP.sub (ws' := (lzX x q (upd S 11 (nI (T + 1))) ++ (lzI G (q 10) 16 (upd t T 14) ++ (lzDoor G (q 6) qh D F)))) [11, 12, 0, 1, 2, 3, 4, 5, 6, 7, 8, 9, 10] rfl
      replace hD := hD.sub (ws' := (lzX x q (upd S 11 (nI (T + 1))) ++ (lzI G (q 10) 16 (upd t T 14) ++ (lzDoor G (q 6) qh D F)))) [11, 12, 0, 1, 2, 3, 4, 5, 6, 7, 8, 9, 10] (by decide) rfl
      clear ht hvm hB hz1 hk1
      generalize H1 = H at hP hS ⊢
      refine lv_aload_n hx hb dX3_unknownSize_29 rfl (lv_at hl 1 rfl) ?_
      refine lv_bipush (v := 13) hx hb dX3_unknownSize_30 (by decide) ?_
      have hPc := hP.sub (ws' := (lzX x q (upd S 11 (nI (T + 1))) ++ lzI G (q 10) 16 (upd t T 14))) [0, 1] rfl
      have hDc := hD.sub (ws' := (lzX x q (upd S 11 (nI (T + 1))) ++ lzI G (q 10) 16 (upd t T 14))) [0, 1] (by decide) rfl
      have hFc : ∀ zz : Nat, lzA (lzX x q (upd S 11 (nI (T + 1))) ++ lzI G (q 10) 16 (upd t T 14)) zz → A zz := lz_free hD [0, 1] rfl
      refine va_callv (va_runV (As := [.int 13]) (rest := []) ⟨hx, hb, hml, hown, hts⟩ (c_X3_begin l G x q (upd S 11 (nI (T + 1))) (upd t T 14) (T + 1) 13 (rfl) (by omega)) (cwV 1 hts gX3_unknownSize_X3_begin rfl rfl rfl (by decide +kernel) ⟨Nat.le_of_ble_eq_true rfl, Nat.le_of_ble_eq_true rfl⟩) (rw_preV hK hPc hDc hP (ci := 3) (q0 := 0) rfl rfl) rfl rfl hl.1 rfl (lv_room (Nat.le_of_ble_eq_true rfl)) dX3_unknownSize_32 ⟨Nat.zero_le _, Nat.zero_le _⟩) hS (fun q _ h => hFc q h) hFc (fun u_8 t9 H1 locs ht hvm hr_7 hB hz1 hk1 hS => ?_)
      replace hB : va_P G.1 lzC _ t9.heap := hB
      rw [ht] at hB
      obtain ⟨hP, hD⟩ := lz_join (wc := (lzX x q (upd S 11 (nI (T + 1))) ++ lzI G (q 10) 16 (upd t T 14))) (wr := ([(q 6, .inr (1, [.int (D 0), .int (D 1), .int (D 2), .int (D 3), .ref (qh 4), .ref (qh 5), .ref (qh 6), .ref (qh 7), .ref (qh 8), .ref (qh 9), .ref (qh 10), .ref (qh 11), .ref (qh 12), .ref (qh 13)])), (qh 4, .inl (G.2 0, 8, .inl (F 4))), (qh 5, .inl (G.2 0, 8, .inl (F 5))), (qh 6, .inl (G.2 0, 8, .inl (F 6))), (qh 7, .inl (G.2 0, 8, .inl (F 7))), (qh 8, .inl (G.2 0, 8, .inl (F 8))), (qh 9, .inl (G.2 0, 5, .inl (F 9))), (qh 10, .inl (G.2 0, 5, .inl (F 10))), (qh 11, .inl (G.2 0, 5, .inl (F 11))), (qh 12, .inl (G.2 0, 5, .inl (F 12))), (qh 13, .inl (G.2 0, 5, .inl (F 13)))] : va_W)) (w1 := (lzX x q (upd S 11 (nI ((T + 1) + 1))) ++ lzI G (q 10) 16 (upd (upd t T 14) (T + 1) 13))) hP hD [0, 1] [2, 3, 4, 5, 6, 7, 8, 9, 10, 11, 12] rfl rfl (by decide) (by decide) rfl hk1 hB
      replace hP := hP.sub (ws' := (lzX x q (upd S 11 (nI ((T + 1) + 1))) ++ (lzI G (q 10) 16 (upd (upd t T 14) (T + 1) 13) ++ (lzDoor G (q 6) qh D F)))) [11, 12, 0, 1, 2, 3, 4, 5, 6, 7, 8, 9, 10] rfl
      replace hD := hD.sub (ws' := (lzX x q (upd S 11 (nI ((T + 1) + 1))) ++ (lzI G (q 10) 16 (upd (upd t T 14) (T + 1) 13) ++ (lzDoor G (q 6) qh D F)))) [11, 12, 0, 1, 2, 3, 4, 5, 6, 7, 8, 9, 10] (by decide) rfl
      clear ht hvm hB hz1 hk1
      generalize H1 = H at hP hS ⊢
      refine lv_aload_n hx hb dX3_unknownSize_35 rfl (lv_at hl 1 rfl) ?_
      refine lv_iload_n hx hb dX3_unknownSize_36 rfl (lv_at hl 2 rfl) ?_
      have hFc : ∀ zz : Nat, lzA (lzX x q (upd S 11 (nI ((T + 1) + 1))) ++ (lzI G (q 10) 16 (upd (upd t T 14) (T + 1) 13) ++ (lzDoor G (q 6) qh D F))) zz → A zz := lz_free hD [0, 1, 2, 3, 4, 5, 6, 7, 8, 9, 10, 11, 12] rfl
      refine va_calli (va_runV (As := [.int (nI s)]) (rest := []) ⟨hx, hb, hml, hown, hts⟩ (c_X3_lentSize l G x q (upd S 11 (nI ((T + 1) + 1))) (upd (upd t T 14) (T + 1) 13) qh D F s ((T + 1) + 1) (hs) (rfl) (by omega)) (cwV 1 hts gX3_unknownSize_X3_lentSize rfl rfl rfl (by decide +kernel) ⟨Nat.le_of_ble_eq_true rfl, Nat.le_of_ble_eq_true rfl⟩) (rw_preV hK hP hD hP (ci := 3) (q0 := 0) rfl rfl) rfl rfl hl.1 rfl (lv_room (Nat.le_of_ble_eq_true rfl)) dX3_unknownSize_37 ⟨Nat.zero_le _, Nat.zero_le _⟩) hS (fun q _ h => hFc q h) hFc (fun r_9 u_10 t9 H1 locs ht hvm hr_9 hB hz1 hk1 hS => ?_)
      replace hB : va_P G.1 lzC _ t9.heap := hB
      rw [ht] at hB
      obtain ⟨hP, hD⟩ := lz_join (wc := (lzX x q (upd S 11 (nI ((T + 1) + 1))) ++ (lzI G (q 10) 16 (upd (upd t T 14) (T + 1) 13) ++ (lzDoor G (q 6) qh D F)))) (wr := ([] : va_W)) (w1 := (lzX x q (upd S 11 (nI (((T + 1) + 1) + 1))) ++ (lzI G (q 10) 16 (upd (upd (upd t T 14) (T + 1) 13) ((T + 1) + 1) 10) ++ (lzDoor G (q 6) qh D F)))) hP hD [0, 1, 2, 3, 4, 5, 6, 7, 8, 9, 10, 11, 12] [] rfl rfl (by decide) (by decide) rfl hk1 hB
      replace hP := hP.sub (ws' := (lzX x q (upd S 11 (nI (((T + 1) + 1) + 1))) ++ (lzI G (q 10) 16 (upd (upd (upd t T 14) (T + 1) 13) ((T + 1) + 1) 10) ++ (lzDoor G (q 6) qh D F)))) [0, 1, 2, 3, 4, 5, 6, 7, 8, 9, 10, 11, 12] rfl
      replace hD := hD.sub (ws' := (lzX x q (upd S 11 (nI (((T + 1) + 1) + 1))) ++ (lzI G (q 10) 16 (upd (upd (upd t T 14) (T + 1) 13) ((T + 1) + 1) 10) ++ (lzDoor G (q 6) qh D F)))) [0, 1, 2, 3, 4, 5, 6, 7, 8, 9, 10, 11, 12] (by decide) rfl
      clear ht hvm hB hz1 hk1
      generalize H1 = H at hP hS ⊢
      refine lz_top (y := (F 5) s) hr_9 ?_
      refine lv_bipush (v := 100) hx hb dX3_unknownSize_40 (by decide) ?_
      refine lv_isub hx hb dX3_unknownSize_42 ?_
      refine lv_istore_n (lv' := [(3, .int (((F 5) s) - 100)), (2, .int 1), (0, .ref x), (1, .int (nI s))]) hx hb dX3_unknownSize_43 rfl hl (by decide) rfl (fun ls hl => ?_)
      refine lv_iload_n hx hb dX3_unknownSize_44 rfl (lv_at hl 1 rfl) ?_
      refine lv_if_eq (tgt := 54) hx hb dX3_unknownSize_45 (by decide) (fun c_45 => ?_) (fun c_45 => ?_)
      · skip
        exact False.elim (by revert c_45; decide)
      · skip
        refine lv_iconst (v := 2) hx hb dX3_unknownSize_48 (by decide) ?_
        refine lv_iload_n hx hb dX3_unknownSize_49 rfl (lv_at hl 0 rfl) ?_
        refine lv_imul hx hb dX3_unknownSize_50 ?_
        refine lv_goto (tgt := 55) hx hb dX3_unknownSize_51 (by decide) ?_
        exact rw_iret (S := Unit) (G := G) (Wd := fun _ : Unit => (lzX x q (upd S 11 (nI (T + (usL (F 4 s)).length))) ++ (lzI G (q 10) 16 (trL t T (usL (F 4 s))) ++ (lzDoor G (q 6) qh D F)))) () hx hb hr hlk dX3_unknownSize_55 hS (by show va_P G.1 lzC (lzX x q (upd S 11 (nI (T + (usL (F 4 s)).length))) ++ (lzI G (q 10) 16 (trL t T (usL (F 4 s))) ++ lzDoor G (q 6) qh D F)) H; unfold usL; first | (rw [if_pos c_10]; exact hP) | (rw [if_neg c_10]; exact hP)) (by unfold usV; first | rw [if_pos c_10] | rw [if_neg c_10])
set_option maxHeartbeats 4000000 in
set_option maxRecDepth 100000 in
theorem c_X3_unknownMark (l : Launch) (G : lzG) (x : Nat) (q : Nat → Nat) (S : Nat → Int32) (t : Nat → Int32) (qh : Nat → Nat) (D : Nat → Int32) (F : Nat → Nat → Int32) (s T : Nat) (hs : s < 8) (hT : S 11 = nI T) (hT16 : T + 5 ≤ 16) : Met l yX3_unknownMark wsX3_unknownMark ({ frames := 3, cells := 0, slots := 0, locals := 65 }) (va_Pc [.ref x, .int (nI s)] (rwP G (lzX x q S ++ (lzI G (q 10) 16 t ++ (lzDoor G (q 6) qh D F))))) (va_Qi (S := Unit) (fun (r : Int32) (_ : Unit) => r = nI s - usV (F 4 s) (F 5 s)) (rwB G (fun _ : Unit => (lzX x q (upd S 11 (nI (T + (umL (F 4 s)).length))) ++ (lzI G (q 10) 16 (trL t T (umL (F 4 s))) ++ (lzDoor G (q 6) qh D F))))) (lzA (lzX x q S ++ (lzI G (q 10) 16 t ++ (lzDoor G (q 6) qh D F))))) 0 0 (lzA (lzX x q S ++ (lzI G (q 10) 16 t ++ (lzDoor G (q 6) qh D F)))) := by
  refine rw_start (S := Unit) (cc := cX3_unknownMark) (maxL := 3) (ret := (some .int)) (by decide) rfl (Nat.le_of_ble_eq_true rfl) ?_
  intro pp ee ss mm bl me cd A hx hb hr hlk hml hts hown hP hK hD hAe hS ls hl
  have hA0 : ∀ zz : Nat, lzA (lzX x q S ++ (lzI G (q 10) 16 t ++ (lzDoor G (q 6) qh D F))) zz → A zz := fun zz h9 => by rw [hAe]; exact h9
  rw [← hAe]
  clear hAe
  have hown : ss.vm.findClass RX3 = some mm.cls := hown
  have hl : lv_has ls 3 [(0, .ref x), (1, .int (nI s))] := hl
  refine lv_aload_n hx hb dX3_unknownMark_0 rfl (lv_at hl 0 rfl) ?_
  refine lv_bipush (v := 23) hx hb dX3_unknownMark_1 (by decide) ?_
  have hPc := hP.sub (ws' := (lzX x q S ++ lzI G (q 10) 16 t)) [0, 1] rfl
  have hDc := hD.sub (ws' := (lzX x q S ++ lzI G (q 10) 16 t)) [0, 1] (by decide) rfl
  have hFc : ∀ zz : Nat, lzA (lzX x q S ++ lzI G (q 10) 16 t) zz → A zz := lz_free hD [0, 1] rfl
  refine va_callv (va_runV (As := [.int 23]) (rest := []) ⟨hx, hb, hml, hown, hts⟩ (c_X3_begin l G x q S t T 23 (hT) (by omega)) (cwV 1 hts gX3_unknownMark_X3_begin rfl rfl rfl (by decide +kernel) ⟨Nat.le_of_ble_eq_true rfl, Nat.le_of_ble_eq_true rfl⟩) (rw_preV hK hPc hDc hP (ci := 3) (q0 := 0) rfl rfl) rfl rfl hl.1 rfl (lv_room (Nat.le_of_ble_eq_true rfl)) dX3_unknownMark_3 ⟨Nat.zero_le _, Nat.zero_le _⟩) hS (fun q _ h => hFc q h) hFc (fun u_2 t9 H1 locs ht hvm hr_1 hB hz1 hk1 hS => ?_)
  replace hB : va_P G.1 lzC _ t9.heap := hB
  rw [ht] at hB
  obtain ⟨hP, hD⟩ := lz_join (wc := (lzX x q S ++ lzI G (q 10) 16 t)) (wr := ([(q 6, .inr (1, [.int (D 0), .int (D 1), .int (D 2), .int (D 3), .ref (qh 4), .ref (qh 5), .ref (qh 6), .ref (qh 7), .ref (qh 8), .ref (qh 9), .ref (qh 10), .ref (qh 11), .ref (qh 12), .ref (qh 13)])), (qh 4, .inl (G.2 0, 8, .inl (F 4))), (qh 5, .inl (G.2 0, 8, .inl (F 5))), (qh 6, .inl (G.2 0, 8, .inl (F 6))), (qh 7, .inl (G.2 0, 8, .inl (F 7))), (qh 8, .inl (G.2 0, 8, .inl (F 8))), (qh 9, .inl (G.2 0, 5, .inl (F 9))), (qh 10, .inl (G.2 0, 5, .inl (F 10))), (qh 11, .inl (G.2 0, 5, .inl (F 11))), (qh 12, .inl (G.2 0, 5, .inl (F 12))), (qh 13, .inl (G.2 0, 5, .inl (F 13)))] : va_W)) (w1 := (lzX x q (upd S 11 (nI (T + 1))) ++ lzI G (q 10) 16 (upd t T 23))) hP hD [0, 1] [2, 3, 4, 5, 6, 7, 8, 9, 10, 11, 12] rfl rfl (by decide) (by decide) rfl hk1 hB
  replace hP := hP.sub (ws' := (lzX x q (upd S 11 (nI (T + 1))) ++ (lzI G (q 10) 16 (upd t T 23) ++ (lzDoor G (q 6) qh D F)))) [11, 12, 0, 1, 2, 3, 4, 5, 6, 7, 8, 9, 10] rfl
  replace hD := hD.sub (ws' := (lzX x q (upd S 11 (nI (T + 1))) ++ (lzI G (q 10) 16 (upd t T 23) ++ (lzDoor G (q 6) qh D F)))) [11, 12, 0, 1, 2, 3, 4, 5, 6, 7, 8, 9, 10] (by decide) rfl
  clear ht hvm hB hz1 hk1
  generalize H1 = H at hP hS ⊢
  refine lv_aload_n hx hb dX3_unknownMark_6 rfl (lv_at hl 0 rfl) ?_
  refine lv_iload_n hx hb dX3_unknownMark_7 rfl (lv_at hl 1 rfl) ?_
  have hPc := hP.sub (ws' := (lzX x q (upd S 11 (nI (T + 1))) ++ lzI G (q 10) 16 (upd t T 23))) [0, 1] rfl
  have hDc := hD.sub (ws' := (lzX x q (upd S 11 (nI (T + 1))) ++ lzI G (q 10) 16 (upd t T 23))) [0, 1] (by decide) rfl
  have hFc : ∀ zz : Nat, lzA (lzX x q (upd S 11 (nI (T + 1))) ++ lzI G (q 10) 16 (upd t T 23)) zz → A zz := lz_free hD [0, 1] rfl
  refine va_calli (va_runV (As := [.int (nI s)]) (rest := []) ⟨hx, hb, hml, hown, hts⟩ (c_X3_lentMark l G x q (upd S 11 (nI (T + 1))) (upd t T 23) s (T + 1) (rfl) (by omega)) (cwV 1 hts gX3_unknownMark_X3_lentMark rfl rfl rfl (by decide +kernel) ⟨Nat.le_of_ble_eq_true rfl, Nat.le_of_ble_eq_true rfl⟩) (rw_preV hK hPc hDc hP (ci := 3) (q0 := 0) rfl rfl) rfl rfl hl.1 rfl (lv_room (Nat.le_of_ble_eq_true rfl)) dX3_unknownMark_8 ⟨Nat.zero_le _, Nat.zero_le _⟩) hS (fun q _ h => hFc q h) hFc (fun r_3 u_4 t9 H1 locs ht hvm hr_3 hB hz1 hk1 hS => ?_)
  replace hB : va_P G.1 lzC _ t9.heap := hB
  rw [ht] at hB
  obtain ⟨hP, hD⟩ := lz_join (wc := (lzX x q (upd S 11 (nI (T + 1))) ++ lzI G (q 10) 16 (upd t T 23))) (wr := ([(q 6, .inr (1, [.int (D 0), .int (D 1), .int (D 2), .int (D 3), .ref (qh 4), .ref (qh 5), .ref (qh 6), .ref (qh 7), .ref (qh 8), .ref (qh 9), .ref (qh 10), .ref (qh 11), .ref (qh 12), .ref (qh 13)])), (qh 4, .inl (G.2 0, 8, .inl (F 4))), (qh 5, .inl (G.2 0, 8, .inl (F 5))), (qh 6, .inl (G.2 0, 8, .inl (F 6))), (qh 7, .inl (G.2 0, 8, .inl (F 7))), (qh 8, .inl (G.2 0, 8, .inl (F 8))), (qh 9, .inl (G.2 0, 5, .inl (F 9))), (qh 10, .inl (G.2 0, 5, .inl (F 10))), (qh 11, .inl (G.2 0, 5, .inl (F 11))), (qh 12, .inl (G.2 0, 5, .inl (F 12))), (qh 13, .inl (G.2 0, 5, .inl (F 13)))] : va_W)) (w1 := (lzX x q (upd S 11 (nI ((T + 1) + 1))) ++ lzI G (q 10) 16 (upd (upd t T 23) (T + 1) 20))) hP hD [0, 1] [2, 3, 4, 5, 6, 7, 8, 9, 10, 11, 12] rfl rfl (by decide) (by decide) rfl hk1 hB
  replace hP := hP.sub (ws' := (lzX x q (upd S 11 (nI ((T + 1) + 1))) ++ (lzI G (q 10) 16 (upd (upd t T 23) (T + 1) 20) ++ (lzDoor G (q 6) qh D F)))) [11, 12, 0, 1, 2, 3, 4, 5, 6, 7, 8, 9, 10] rfl
  replace hD := hD.sub (ws' := (lzX x q (upd S 11 (nI ((T + 1) + 1))) ++ (lzI G (q 10) 16 (upd (upd t T 23) (T + 1) 20) ++ (lzDoor G (q 6) qh D F)))) [11, 12, 0, 1, 2, 3, 4, 5, 6, 7, 8, 9, 10] (by decide) rfl
  clear ht hvm hB hz1 hk1
  generalize H1 = H at hP hS ⊢
  refine lz_top (y := nI s) hr_3 ?_
  refine lv_istore_n (lv' := [(2, .int (nI s)), (0, .ref x), (1, .int (nI s))]) hx hb dX3_unknownMark_11 rfl hl (by decide) rfl (fun ls hl => ?_)
  refine lv_iload_n hx hb dX3_unknownMark_12 rfl (lv_at hl 0 rfl) ?_
  refine lv_aload_n hx hb dX3_unknownMark_13 rfl (lv_at hl 1 rfl) ?_
  refine lv_iload_n hx hb dX3_unknownMark_14 rfl (lv_at hl 2 rfl) ?_
  have hFc : ∀ zz : Nat, lzA (lzX x q (upd S 11 (nI ((T + 1) + 1))) ++ (lzI G (q 10) 16 (upd (upd t T 23) (T + 1) 20) ++ (lzDoor G (q 6) qh D F))) zz → A zz := lz_free hD [0, 1, 2, 3, 4, 5, 6, 7, 8, 9, 10, 11, 12] rfl
  refine va_calli (va_runV (As := [.int (nI s)]) (rest := [.int (nI s)]) ⟨hx, hb, hml, hown, hts⟩ (c_X3_unknownSize l G x q (upd S 11 (nI ((T + 1) + 1))) (upd (upd t T 23) (T + 1) 20) qh D F s ((T + 1) + 1) (hs) (rfl) (by omega)) (cwV 1 hts gX3_unknownMark_X3_unknownSize rfl rfl rfl (by decide +kernel) ⟨Nat.le_of_ble_eq_true rfl, Nat.le_of_ble_eq_true rfl⟩) (rw_preV hK hP hD hP (ci := 3) (q0 := 0) rfl rfl) rfl rfl hl.1 rfl (lv_room (Nat.le_of_ble_eq_true rfl)) dX3_unknownMark_15 ⟨Nat.zero_le _, Nat.zero_le _⟩) hS (fun q _ h => hFc q h) hFc (fun r_5 u_6 t9 H1 locs ht hvm hr_5 hB hz1 hk1 hS => ?_)
  replace hB : va_P G.1 lzC _ t9.heap := hB
  rw [ht] at hB
  obtain ⟨hP, hD⟩ := lz_join (wc := (lzX x q (upd S 11 (nI ((T + 1) + 1))) ++ (lzI G (q 10) 16 (upd (upd t T 23) (T + 1) 20) ++ (lzDoor G (q 6) qh D F)))) (wr := ([] : va_W)) (w1 := (lzX x q (upd S 11 (nI (((T + 1) + 1) + (usL ((F 4) s)).length))) ++ (lzI G (q 10) 16 (trL (upd (upd t T 23) (T + 1) 20) ((T + 1) + 1) (usL ((F 4) s))) ++ (lzDoor G (q 6) qh D F)))) hP hD [0, 1, 2, 3, 4, 5, 6, 7, 8, 9, 10, 11, 12] [] rfl rfl (by decide) (by decide) rfl hk1 hB
  replace hP := hP.sub (ws' := (lzX x q (upd S 11 (nI (((T + 1) + 1) + (usL ((F 4) s)).length))) ++ (lzI G (q 10) 16 (trL (upd (upd t T 23) (T + 1) 20) ((T + 1) + 1) (usL ((F 4) s))) ++ (lzDoor G (q 6) qh D F)))) [0, 1, 2, 3, 4, 5, 6, 7, 8, 9, 10, 11, 12] rfl
  replace hD := hD.sub (ws' := (lzX x q (upd S 11 (nI (((T + 1) + 1) + (usL ((F 4) s)).length))) ++ (lzI G (q 10) 16 (trL (upd (upd t T 23) (T + 1) 20) ((T + 1) + 1) (usL ((F 4) s))) ++ (lzDoor G (q 6) qh D F)))) [0, 1, 2, 3, 4, 5, 6, 7, 8, 9, 10, 11, 12] (by decide) rfl
  clear ht hvm hB hz1 hk1
  generalize H1 = H at hP hS ⊢
  refine lz_top (y := usV ((F 4) s) ((F 5) s)) hr_5 ?_
  refine lv_isub hx hb dX3_unknownMark_18 ?_
  exact rw_iret (S := Unit) (G := G) (Wd := fun _ : Unit => (lzX x q (upd S 11 (nI (T + (umL (F 4 s)).length))) ++ (lzI G (q 10) 16 (trL t T (umL (F 4 s))) ++ (lzDoor G (q 6) qh D F)))) () hx hb hr hlk dX3_unknownMark_19 hS (by show va_P G.1 lzC (lzX x q (upd S 11 (nI (T + (umL (F 4 s)).length))) ++ (lzI G (q 10) 16 (trL t T (umL (F 4 s))) ++ lzDoor G (q 6) qh D F)) H; rw [show T + (umL (F 4 s)).length = T + 1 + 1 + (usL (F 4 s)).length from by simp [umL]; omega]; exact hP) (rfl)
set_option maxHeartbeats 4000000 in
set_option maxRecDepth 100000 in
theorem c_X4_plainSize (l : Launch) (G : lzG) (m : Nat) (q : Nat → Nat) (S : Nat → Int32) (t f : Nat → Int32) (s T : Nat) (hs : s < 8) (hT : S 23 = nI T) (hT16 : T + 1 ≤ 16) : Met l yX4_plainSize wsX4_plainSize ({ frames := 1, cells := 0, slots := 0, locals := 22 }) (va_Pc [.ref m, .int (nI s)] (rwP G (lzM m q S ++ (lzI G (q 22) 16 t ++ (lzI G (q 5) 64 f))))) (va_Qi (S := Unit) (fun (r : Int32) (_ : Unit) => r = f (4 + 5 * s + 1)) (rwB G (fun _ : Unit => (lzM m q (upd S 23 (nI (T + 1))) ++ (lzI G (q 22) 16 (upd t T 10) ++ (lzI G (q 5) 64 f))))) (lzA (lzM m q S ++ (lzI G (q 22) 16 t ++ (lzI G (q 5) 64 f))))) 0 0 (lzA (lzM m q S ++ (lzI G (q 22) 16 t ++ (lzI G (q 5) 64 f)))) := by
  refine rw_start (S := Unit) (cc := cX4_plainSize) (maxL := 2) (ret := (some .int)) (by decide) rfl (Nat.le_of_ble_eq_true rfl) ?_
  intro pp ee ss mm bl me cd A hx hb hr hlk hml hts hown hP hK hD hAe hS ls hl
  have hA0 : ∀ zz : Nat, lzA (lzM m q S ++ (lzI G (q 22) 16 t ++ (lzI G (q 5) 64 f))) zz → A zz := fun zz h9 => by rw [hAe]; exact h9
  rw [← hAe]
  clear hAe
  have hown : ss.vm.findClass RX4 = some mm.cls := hown
  have hw1 := hts (.fieldLink RX4 19 "LampSquaresModel" "door" "[I") (List.mem_of_getElem? (i := 1) rfl)
  have hu_wsX40 : ∀ w ∈ wsX40, w.before ([.ref m, .int (nI s)] : List Value).toArray ss = true := fun w h9 => hts w (List.mem_cons_of_mem _ (List.mem_append_right _ h9))
  have hl : lv_has ls 2 [(0, .ref m), (1, .int (nI s))] := hl
  refine lv_aload_n hx hb dX4_plainSize_0 rfl (lv_at hl 0 rfl) ?_
  refine lv_bipush (v := 10) hx hb dX4_plainSize_1 (by decide) ?_
  have hPc := hP.sub (ws' := (lzM m q S ++ lzI G (q 22) 16 t)) [0, 1] rfl
  have hDc := hD.sub (ws' := (lzM m q S ++ lzI G (q 22) 16 t)) [0, 1] (by decide) rfl
  have hFc : ∀ zz : Nat, lzA (lzM m q S ++ lzI G (q 22) 16 t) zz → A zz := lz_free hD [0, 1] rfl
  refine va_callv (va_runV (As := [.int 10]) (rest := []) ⟨hx, hb, hml, hown, hts⟩ (c_X4_began l G m q S t T 10 (hT) (by omega)) (cwV 1 hts gX4_plainSize_X4_began rfl rfl rfl (by decide +kernel) ⟨Nat.le_of_ble_eq_true rfl, Nat.le_of_ble_eq_true rfl⟩) (rw_preV hK hPc hDc hP (ci := 4) (q0 := 0) rfl rfl) rfl rfl hl.1 rfl (lv_room (Nat.le_of_ble_eq_true rfl)) dX4_plainSize_3 ⟨Nat.zero_le _, Nat.zero_le _⟩) hS (fun q _ h => hFc q h) hFc (fun u_2 t9 H1 locs ht hvm hr_1 hB hz1 hk1 hS => ?_)
  replace hB : va_P G.1 lzC _ t9.heap := hB
  rw [ht] at hB
  obtain ⟨hP, hD⟩ := lz_join (wc := (lzM m q S ++ lzI G (q 22) 16 t)) (wr := ([(q 5, .inl (G.2 0, 64, .inl f))] : va_W)) (w1 := (lzM m q (upd S 23 (nI (T + 1))) ++ lzI G (q 22) 16 (upd t T 10))) hP hD [0, 1] [2] rfl rfl (by decide) (by decide) rfl hk1 hB
  replace hP := hP.sub (ws' := (lzM m q (upd S 23 (nI (T + 1))) ++ (lzI G (q 22) 16 (upd t T 10) ++ (lzI G (q 5) 64 f)))) [1, 2, 0] rfl
  replace hD := hD.sub (ws' := (lzM m q (upd S 23 (nI (T + 1))) ++ (lzI G (q 22) 16 (upd t T 10) ++ (lzI G (q 5) 64 f)))) [1, 2, 0] (by decide) rfl
  clear ht hvm hB hz1 hk1
  generalize H1 = H at hP hS ⊢
  refine lv_aload_n hx hb dX4_plainSize_6 rfl (lv_at hl 0 rfl) ?_
  refine lz_get (G := G) (ci := 4) (v := .ref (q 5)) (C := RX4) (T := TX4) (N := 24) hx hb hu_wsX40 (fun _ h9 => h9) hown hK hP 0 rfl rfl 5 (by decide) hw1 rfl rfl dX4_plainSize_7 ?_
  refine lv_iload_n hx hb dX4_plainSize_10 rfl (lv_at hl 1 rfl) ?_
  refine lv_iconst (v := 1) hx hb dX4_plainSize_11 (by decide) ?_
  have hPc := hP.sub (ws' := lzI G (q 5) 64 f) [2] rfl
  refine ro_calli (va_runS (As := [.ref (q 5), .int (nI s), .int 1]) (rest := []) ⟨hx, hb, hml, hown, hts⟩ (c_X4_of l G (q 5) f s 1 (by omega) (by decide)) (cwS 3 hts gX4_plainSize_X4_of rfl rfl rfl (by decide +kernel) ⟨Nat.le_of_ble_eq_true rfl, Nat.le_of_ble_eq_true rfl⟩) (ro_pre hK hPc) rfl rfl hl.1 rfl (lv_room (Nat.le_of_ble_eq_true rfl)) dX4_plainSize_12 ⟨Nat.zero_le _, Nat.zero_le _⟩) (fun r_3 hr_3 => ?_)
  refine lz_top (y := f (4 + 5 * s + 1)) hr_3 ?_
  exact rw_iret (S := Unit) (G := G) (Wd := fun _ : Unit => (lzM m q (upd S 23 (nI (T + 1))) ++ (lzI G (q 22) 16 (upd t T 10) ++ (lzI G (q 5) 64 f)))) () hx hb hr hlk dX4_plainSize_15 hS (hP) (rfl)
set_option maxHeartbeats 4000000 in
set_option maxRecDepth 100000 in
theorem c_X4_unknownSize (l : Launch) (G : lzG) (m : Nat) (q : Nat → Nat) (S : Nat → Int32) (t f : Nat → Int32) (s T : Nat) (hs : s < 8) (hT : S 23 = nI T) (hT16 : T + 3 ≤ 16) : Met l yX4_unknownSize wsX4_unknownSize ({ frames := 2, cells := 0, slots := 0, locals := 43 }) (va_Pc [.ref m, .int (nI s)] (rwP G (lzM m q S ++ (lzI G (q 22) 16 t ++ (lzI G (q 5) 64 f))))) (va_Qi (S := Unit) (fun (r : Int32) (_ : Unit) => r = usV (f (4 + 5 * s)) (f (4 + 5 * s + 1))) (rwB G (fun _ : Unit => (lzM m q (upd S 23 (nI (T + (usL (f (4 + 5 * s))).length))) ++ (lzI G (q 22) 16 (trL t T (usL (f (4 + 5 * s)))) ++ (lzI G (q 5) 64 f))))) (lzA (lzM m q S ++ (lzI G (q 22) 16 t ++ (lzI G (q 5) 64 f))))) 0 0 (lzA (lzM m q S ++ (lzI G (q 22) 16 t ++ (lzI G (q 5) 64 f)))) := by
  refine rw_start (S := Unit) (cc := cX4_unknownSize) (maxL := 4) (ret := (some .int)) (by decide) rfl (Nat.le_of_ble_eq_true rfl) ?_
  intro pp ee ss mm bl me cd A hx hb hr hlk hml hts hown hP hK hD hAe hS ls hl
  have hA0 : ∀ zz : Nat, lzA (lzM m q S ++ (lzI G (q 22) 16 t ++ (lzI G (q 5) 64 f))) zz → A zz := fun zz h9 => by rw [hAe]; exact h9
  rw [← hAe]
  clear hAe
  have hown : ss.vm.findClass RX4 = some mm.cls := hown
  have hw1 := hts (.fieldLink RX4 19 "LampSquaresModel" "door" "[I") (List.mem_of_getElem? (i := 1) rfl)
  have hu_wsX40 : ∀ w ∈ wsX40, w.before ([.ref m, .int (nI s)] : List Value).toArray ss = true := fun w h9 => hts w (List.mem_cons_of_mem _ (List.mem_append_right _ h9))
  have hl : lv_has ls 4 [(0, .ref m), (1, .int (nI s))] := hl
  refine lv_aload_n hx hb dX4_unknownSize_0 rfl (lv_at hl 0 rfl) ?_
  refine lz_get (G := G) (ci := 4) (v := .ref (q 5)) (C := RX4) (T := TX4) (N := 24) hx hb hu_wsX40 (fun _ h9 => h9) hown hK hP 0 rfl rfl 5 (by decide) hw1 rfl rfl dX4_unknownSize_1 ?_
  refine lv_iload_n hx hb dX4_unknownSize_4 rfl (lv_at hl 1 rfl) ?_
  refine lv_iconst (v := 0) hx hb dX4_unknownSize_5 (by decide) ?_
  have hPc := hP.sub (ws' := lzI G (q 5) 64 f) [2] rfl
  refine ro_calli (va_runS (As := [.ref (q 5), .int (nI s), .int 0]) (rest := []) ⟨hx, hb, hml, hown, hts⟩ (c_X4_of l G (q 5) f s 0 (by omega) (by decide)) (cwS 3 hts gX4_unknownSize_X4_of rfl rfl rfl (by decide +kernel) ⟨Nat.le_of_ble_eq_true rfl, Nat.le_of_ble_eq_true rfl⟩) (ro_pre hK hPc) rfl rfl hl.1 rfl (lv_room (Nat.le_of_ble_eq_true rfl)) dX4_unknownSize_6 ⟨Nat.zero_le _, Nat.zero_le _⟩) (fun r_1 hr_1 => ?_)
  refine lz_top (y := f (4 + 5 * s)) hr_1 ?_
  refine lv_iconst (v := 5) hx hb dX4_unknownSize_9 (by decide) ?_
  refine lv_icmp_ne (tgt := 17) hx hb dX4_unknownSize_10 (by decide) (fun c_10 => ?_) (fun c_10 => ?_)
  · skip
    refine lv_iconst (v := 0) hx hb dX4_unknownSize_17 (by decide) ?_
    refine lv_istore_n (lv' := [(2, .int 0), (0, .ref m), (1, .int (nI s))]) hx hb dX4_unknownSize_18 rfl hl (by decide) rfl (fun ls hl => ?_)
    refine lv_iload_n hx hb dX4_unknownSize_19 rfl (lv_at hl 0 rfl) ?_
    refine lv_if_eq (tgt := 29) hx hb dX4_unknownSize_20 (by decide) (fun c_20 => ?_) (fun c_20 => ?_)
    · skip
      refine lv_aload_n hx hb dX4_unknownSize_29 rfl (lv_at hl 1 rfl) ?_
      refine lv_bipush (v := 13) hx hb dX4_unknownSize_30 (by decide) ?_
      have hPc := hP.sub (ws' := (lzM m q S ++ lzI G (q 22) 16 t)) [0, 1] rfl
      have hDc := hD.sub (ws' := (lzM m q S ++ lzI G (q 22) 16 t)) [0, 1] (by decide) rfl
      have hFc : ∀ zz : Nat, lzA (lzM m q S ++ lzI G (q 22) 16 t) zz → A zz := lz_free hD [0, 1] rfl
      refine va_callv (va_runV (As := [.int 13]) (rest := []) ⟨hx, hb, hml, hown, hts⟩ (c_X4_began l G m q S t T 13 (hT) (by omega)) (cwV 1 hts gX4_unknownSize_X4_began rfl rfl rfl (by decide +kernel) ⟨Nat.le_of_ble_eq_true rfl, Nat.le_of_ble_eq_true rfl⟩) (rw_preV hK hPc hDc hP (ci := 4) (q0 := 0) rfl rfl) rfl rfl hl.1 rfl (lv_room (Nat.le_of_ble_eq_true rfl)) dX4_unknownSize_32 ⟨Nat.zero_le _, Nat.zero_le _⟩) hS (fun q _ h => hFc q h) hFc (fun u_3 t9 H1 locs ht hvm hr_2 hB hz1 hk1 hS => ?_)
      replace hB : va_P G.1 lzC _ t9.heap := hB
      rw [ht] at hB
      obtain ⟨hP, hD⟩ := lz_join (wc := (lzM m q S ++ lzI G (q 22) 16 t)) (wr := ([(q 5, .inl (G.2 0, 64, .inl f))] : va_W)) (w1 := (lzM m q (upd S 23 (nI (T + 1))) ++ lzI G (q 22) 16 (upd t T 13))) hP hD [0, 1] [2] rfl rfl (by decide) (by decide) rfl hk1 hB
      replace hP := hP.sub (ws' := (lzM m q (upd S 23 (nI (T + 1))) ++ (lzI G (q 22) 16 (upd t T 13) ++ (lzI G (q 5) 64 f)))) [1, 2, 0] rfl
      replace hD := hD.sub (ws' := (lzM m q (upd S 23 (nI (T + 1))) ++ (lzI G (q 22) 16 (upd t T 13) ++ (lzI G (q 5) 64 f)))) [1, 2, 0] (by decide) rfl
      clear ht hvm hB hz1 hk1
      generalize H1 = H at hP hS ⊢
      refine lv_aload_n hx hb dX4_unknownSize_35 rfl (lv_at hl 1 rfl) ?_
      refine lv_iload_n hx hb dX4_unknownSize_36 rfl (lv_at hl 2 rfl) ?_
      have hFc : ∀ zz : Nat, lzA (lzM m q (upd S 23 (nI (T + 1))) ++ (lzI G (q 22) 16 (upd t T 13) ++ (lzI G (q 5) 64 f))) zz → A zz := lz_free hD [0, 1, 2] rfl
      refine va_calli (va_runV (As := [.int (nI s)]) (rest := []) ⟨hx, hb, hml, hown, hts⟩ (c_X4_plainSize l G m q (upd S 23 (nI (T + 1))) (upd t T 13) f s (T + 1) (hs) (rfl) (by omega)) (cwV 1 hts gX4_unknownSize_X4_plainSize rfl rfl rfl (by decide +kernel) ⟨Nat.le_of_ble_eq_true rfl, Nat.le_of_ble_eq_true rfl⟩) (rw_preV hK hP hD hP (ci := 4) (q0 := 0) rfl rfl) rfl rfl hl.1 rfl (lv_room (Nat.le_of_ble_eq_true rfl)) dX4_unknownSize_37 ⟨Nat.zero_le _, Nat.zero_le _⟩) hS (fun q _ h => hFc q h) hFc (fun r_4 u_5 t9 H1 locs ht hvm hr_4 hB hz1 hk1 hS => ?_)
      replace hB : va_P G.1 lzC _ t9.heap := hB
      rw [ht] at hB
      obtain ⟨hP, hD⟩ := lz_join (wc := (lzM m q (upd S 23 (nI (T + 1))) ++ (lzI G (q 22) 16 (upd t T 13) ++ (lzI G (q 5) 64 f)))) (wr := ([] : va_W)) (w1 := (lzM m q (upd S 23 (nI ((T + 1) + 1))) ++ (lzI G (q 22) 16 (upd (upd t T 13) (T + 1) 10) ++ (lzI G (q 5) 64 f)))) hP hD [0, 1, 2] [] rfl rfl (by decide) (by decide) rfl hk1 hB
      replace hP := hP.sub (ws' := (lzM m q (upd S 23 (nI ((T + 1) + 1))) ++ (lzI G (q 22) 16 (upd (upd t T 13) (T + 1) 10) ++ (lzI G (q 5) 64 f)))) [0, 1, 2] rfl
      replace hD := hD.sub (ws' := (lzM m q (upd S 23 (nI ((T + 1) + 1))) ++ (lzI G (q 22) 16 (upd (upd t T 13) (T + 1) 10) ++ (lzI G (q 5) 64 f)))) [0, 1, 2] (by decide) rfl
      clear ht hvm hB hz1 hk1
      generalize H1 = H at hP hS ⊢
      refine lz_top (y := f (4 + 5 * s + 1)) hr_4 ?_
      refine lv_bipush (v := 100) hx hb dX4_unknownSize_40 (by decide) ?_
      refine lv_isub hx hb dX4_unknownSize_42 ?_
      refine lv_istore_n (lv' := [(3, .int ((f (4 + 5 * s + 1)) - 100)), (2, .int 0), (0, .ref m), (1, .int (nI s))]) hx hb dX4_unknownSize_43 rfl hl (by decide) rfl (fun ls hl => ?_)
      refine lv_iload_n hx hb dX4_unknownSize_44 rfl (lv_at hl 1 rfl) ?_
      refine lv_if_eq (tgt := 54) hx hb dX4_unknownSize_45 (by decide) (fun c_45 => ?_) (fun c_45 => ?_)
      · skip
        refine lv_iload_n hx hb dX4_unknownSize_54 rfl (lv_at hl 0 rfl) ?_
        exact rw_iret (S := Unit) (G := G) (Wd := fun _ : Unit => (lzM m q (upd S 23 (nI (T + (usL (f (4 + 5 * s))).length))) ++ (lzI G (q 22) 16 (trL t T (usL (f (4 + 5 * s)))) ++ (lzI G (q 5) 64 f)))) () hx hb hr hlk dX4_unknownSize_55 hS (by show va_P G.1 lzC (lzM m q (upd S 23 (nI (T + (usL (f (4 + 5 * s))).length))) ++ (lzI G (q 22) 16 (trL t T (usL (f (4 + 5 * s)))) ++ lzI G (q 5) 64 f)) H; unfold usL; first | (rw [if_pos c_10]; exact hP) | (rw [if_neg c_10]; exact hP)) (by unfold usV; first | rw [if_pos c_10] | rw [if_neg c_10])
      · skip
        exact False.elim (by revert c_45; decide)
    · skip
      exact False.elim (by revert c_20; decide)
  · skip
    refine lv_iconst (v := 1) hx hb dX4_unknownSize_13 (by decide) ?_
    refine lv_goto (tgt := 18) hx hb dX4_unknownSize_14 (by decide) ?_
    refine lv_istore_n (lv' := [(2, .int 1), (0, .ref m), (1, .int (nI s))]) hx hb dX4_unknownSize_18 rfl hl (by decide) rfl (fun ls hl => ?_)
    refine lv_iload_n hx hb dX4_unknownSize_19 rfl (lv_at hl 0 rfl) ?_
    refine lv_if_eq (tgt := 29) hx hb dX4_unknownSize_20 (by decide) (fun c_20 => ?_) (fun c_20 => ?_)
    · skip
      exact False.elim (by revert c_20; decide)
    · skip
      refine lv_aload_n hx hb dX4_unknownSize_23 rfl (lv_at hl 1 rfl) ?_
      refine lv_bipush (v := 14) hx hb dX4_unknownSize_24 (by decide) ?_
      have hPc := hP.sub (ws' := (lzM m q S ++ lzI G (q 22) 16 t)) [0, 1] rfl
      have hDc := hD.sub (ws' := (lzM m q S ++ lzI G (q 22) 16 t)) [0, 1] (by decide) rfl
      have hFc : ∀ zz : Nat, lzA (lzM m q S ++ lzI G (q 22) 16 t) zz → A zz := lz_free hD [0, 1] rfl
      refine va_callv (va_runV (As := [.int 14]) (rest := []) ⟨hx, hb, hml, hown, hts⟩ (c_X4_began l G m q S t T 14 (hT) (by omega)) (cwV 1 hts gX4_unknownSize_X4_began rfl rfl rfl (by decide +kernel) ⟨Nat.le_of_ble_eq_true rfl, Nat.le_of_ble_eq_true rfl⟩) (rw_preV hK hPc hDc hP (ci := 4) (q0 := 0) rfl rfl) rfl rfl hl.1 rfl (lv_room (Nat.le_of_ble_eq_true rfl)) dX4_unknownSize_26 ⟨Nat.zero_le _, Nat.zero_le _⟩) hS (fun q _ h => hFc q h) hFc (fun u_7 t9 H1 locs ht hvm hr_6 hB hz1 hk1 hS => ?_)
      replace hB : va_P G.1 lzC _ t9.heap := hB
      rw [ht] at hB
      obtain ⟨hP, hD⟩ := lz_join (wc := (lzM m q S ++ lzI G (q 22) 16 t)) (wr := ([(q 5, .inl (G.2 0, 64, .inl f))] : va_W)) (w1 := (lzM m q (upd S 23 (nI (T + 1))) ++ lzI G (q 22) 16 (upd t T 14))) hP hD [0, 1] [2] rfl rfl (by decide) (by decide) rfl hk1 hB
      replace hP := hP.sub (ws' := (lzM m q (upd S 23 (nI (T + 1))) ++ (lzI G (q 22) 16 (upd t T 14) ++ (lzI G (q 5) 64 f)))) [1, 2, 0] rfl
      replace hD := hD.sub (ws' := (lzM m q (upd S 23 (nI (T + 1))) ++ (lzI G (q 22) 16 (upd t T 14) ++ (lzI G (q 5) 64 f)))) [1, 2, 0] (by decide) rfl
      clear ht hvm hB hz1 hk1
      generalize H1 = H at hP hS ⊢
      refine lv_aload_n hx hb dX4_unknownSize_29 rfl (lv_at hl 1 rfl) ?_
      refine lv_bipush (v := 13) hx hb dX4_unknownSize_30 (by decide) ?_
      have hPc := hP.sub (ws' := (lzM m q (upd S 23 (nI (T + 1))) ++ lzI G (q 22) 16 (upd t T 14))) [0, 1] rfl
      have hDc := hD.sub (ws' := (lzM m q (upd S 23 (nI (T + 1))) ++ lzI G (q 22) 16 (upd t T 14))) [0, 1] (by decide) rfl
      have hFc : ∀ zz : Nat, lzA (lzM m q (upd S 23 (nI (T + 1))) ++ lzI G (q 22) 16 (upd t T 14)) zz → A zz := lz_free hD [0, 1] rfl
      refine va_callv (va_runV (As := [.int 13]) (rest := []) ⟨hx, hb, hml, hown, hts⟩ (c_X4_began l G m q (upd S 23 (nI (T + 1))) (upd t T 14) (T + 1) 13 (rfl) (by omega)) (cwV 1 hts gX4_unknownSize_X4_began rfl rfl rfl (by decide +kernel) ⟨Nat.le_of_ble_eq_true rfl, Nat.le_of_ble_eq_true rfl⟩) (rw_preV hK hPc hDc hP (ci := 4) (q0 := 0) rfl rfl) rfl rfl hl.1 rfl (lv_room (Nat.le_of_ble_eq_true rfl)) dX4_unknownSize_32 ⟨Nat.zero_le _, Nat.zero_le _⟩) hS (fun q _ h => hFc q h) hFc (fun u_9 t9 H1 locs ht hvm hr_8 hB hz1 hk1 hS => ?_)
      replace hB : va_P G.1 lzC _ t9.heap := hB
      rw [ht] at hB
      obtain ⟨hP, hD⟩ := lz_join (wc := (lzM m q (upd S 23 (nI (T + 1))) ++ lzI G (q 22) 16 (upd t T 14))) (wr := ([(q 5, .inl (G.2 0, 64, .inl f))] : va_W)) (w1 := (lzM m q (upd S 23 (nI ((T + 1) + 1))) ++ lzI G (q 22) 16 (upd (upd t T 14) (T + 1) 13))) hP hD [0, 1] [2] rfl rfl (by decide) (by decide) rfl hk1 hB
      replace hP := hP.sub (ws' := (lzM m q (upd S 23 (nI ((T + 1) + 1))) ++ (lzI G (q 22) 16 (upd (upd t T 14) (T + 1) 13) ++ (lzI G (q 5) 64 f)))) [1, 2, 0] rfl
      replace hD := hD.sub (ws' := (lzM m q (upd S 23 (nI ((T + 1) + 1))) ++ (lzI G (q 22) 16 (upd (upd t T 14) (T + 1) 13) ++ (lzI G (q 5) 64 f)))) [1, 2, 0] (by decide) rfl
      clear ht hvm hB hz1 hk1
      generalize H1 = H at hP hS ⊢
      refine lv_aload_n hx hb dX4_unknownSize_35 rfl (lv_at hl 1 rfl) ?_
      refine lv_iload_n hx hb dX4_unknownSize_36 rfl (lv_at hl 2 rfl) ?_
      have hFc : ∀ zz : Nat, lzA (lzM m q (upd S 23 (nI ((T + 1) + 1))) ++ (lzI G (q 22) 16 (upd (upd t T 14) (T + 1) 13) ++ (lzI G (q 5) 64 f))) zz → A zz := lz_free hD [0, 1, 2] rfl
      refine va_calli (va_runV (As := [.int (nI s)]) (rest := []) ⟨hx, hb, hml, hown, hts⟩ (c_X4_plainSize l G m q (upd S 23 (nI ((T + 1) + 1))) (upd (upd t T 14) (T + 1) 13) f s ((T + 1) + 1) (hs) (rfl) (by omega)) (cwV 1 hts gX4_unknownSize_X4_plainSize rfl rfl rfl (by decide +kernel) ⟨Nat.le_of_ble_eq_true rfl, Nat.le_of_ble_eq_true rfl⟩) (rw_preV hK hP hD hP (ci := 4) (q0 := 0) rfl rfl) rfl rfl hl.1 rfl (lv_room (Nat.le_of_ble_eq_true rfl)) dX4_unknownSize_37 ⟨Nat.zero_le _, Nat.zero_le _⟩) hS (fun q _ h => hFc q h) hFc (fun r_10 u_11 t9 H1 locs ht hvm hr_10 hB hz1 hk1 hS => ?_)
      replace hB : va_P G.1 lzC _ t9.heap := hB
      rw [ht] at hB
      obtain ⟨hP, hD⟩ := lz_join (wc := (lzM m q (upd S 23 (nI ((T + 1) + 1))) ++ (lzI G (q 22) 16 (upd (upd t T 14) (T + 1) 13) ++ (lzI G (q 5) 64 f)))) (wr := ([] : va_W)) (w1 := (lzM m q (upd S 23 (nI (((T + 1) + 1) + 1))) ++ (lzI G (q 22) 16 (upd (upd (upd t T 14) (T + 1) 13) ((T + 1) + 1) 10) ++ (lzI G (q 5) 64 f)))) hP hD [0, 1, 2] [] rfl rfl (by decide) (by decide) rfl hk1 hB
      replace hP := hP.sub (ws' := (lzM m q (upd S 23 (nI (((T + 1) + 1) + 1))) ++ (lzI G (q 22) 16 (upd (upd (upd t T 14) (T + 1) 13) ((T + 1) + 1) 10) ++ (lzI G (q 5) 64 f)))) [0, 1, 2] rfl
      replace hD := hD.sub (ws' := (lzM m q (upd S 23 (nI (((T + 1) + 1) + 1))) ++ (lzI G (q 22) 16 (upd (upd (upd t T 14) (T + 1) 13) ((T + 1) + 1) 10) ++ (lzI G (q 5) 64 f)))) [0, 1, 2] (by decide) rfl
      clear ht hvm hB hz1 hk1
      generalize H1 = H at hP hS ⊢
      refine lz_top (y := f (4 + 5 * s + 1)) hr_10 ?_
      refine lv_bipush (v := 100) hx hb dX4_unknownSize_40 (by decide) ?_
      refine lv_isub hx hb dX4_unknownSize_42 ?_
      refine lv_istore_n (lv' := [(3, .int ((f (4 + 5 * s + 1)) - 100)), (2, .int 1), (0, .ref m), (1, .int (nI s))]) hx hb dX4_unknownSize_43 rfl hl (by decide) rfl (fun ls hl => ?_)
      refine lv_iload_n hx hb dX4_unknownSize_44 rfl (lv_at hl 1 rfl) ?_
      refine lv_if_eq (tgt := 54) hx hb dX4_unknownSize_45 (by decide) (fun c_45 => ?_) (fun c_45 => ?_)
      · skip
        exact False.elim (by revert c_45; decide)
      · skip
        refine lv_iconst (v := 2) hx hb dX4_unknownSize_48 (by decide) ?_
        refine lv_iload_n hx hb dX4_unknownSize_49 rfl (lv_at hl 0 rfl) ?_
        refine lv_imul hx hb dX4_unknownSize_50 ?_
        refine lv_goto (tgt := 55) hx hb dX4_unknownSize_51 (by decide) ?_
        exact rw_iret (S := Unit) (G := G) (Wd := fun _ : Unit => (lzM m q (upd S 23 (nI (T + (usL (f (4 + 5 * s))).length))) ++ (lzI G (q 22) 16 (trL t T (usL (f (4 + 5 * s)))) ++ (lzI G (q 5) 64 f)))) () hx hb hr hlk dX4_unknownSize_55 hS (by show va_P G.1 lzC (lzM m q (upd S 23 (nI (T + (usL (f (4 + 5 * s))).length))) ++ (lzI G (q 22) 16 (trL t T (usL (f (4 + 5 * s)))) ++ lzI G (q 5) 64 f)) H; unfold usL; first | (rw [if_pos c_10]; exact hP) | (rw [if_neg c_10]; exact hP)) (by unfold usV; first | rw [if_pos c_10] | rw [if_neg c_10])
set_option maxHeartbeats 4000000 in
set_option maxRecDepth 100000 in
theorem c_X4_markOf (l : Launch) (G : lzG) (m : Nat) (q : Nat → Nat) (S : Nat → Int32) (t f : Nat → Int32) (s N M T : Nat) (hs : s < 8) (hM : f 3 = nI M) (hM5 : M ≤ 5) (hT : S 23 = nI T) (hT16 : T + 5 ≤ 16) : Met l yX4_markOf wsX4_markOf ({ frames := 3, cells := 0, slots := 0, locals := 68 }) (va_Pc [.ref m, .int (nI s)] (rwP G (lzM m q S ++ (lzI G (q 22) 16 t ++ (lzI G (q 5) 64 f))))) (va_Qi (S := Unit) (fun (r : Int32) (_ : Unit) => r = mmV (f (4 + 5 * s)) (nI s) (f (4 + 5 * s + 1)) (nI s + cntI (fun z => clkR f z s) M)) (rwB G (fun _ : Unit => (lzM m q (upd S 23 (nI (T + (mmL (f (4 + 5 * s))).length))) ++ (lzI G (q 22) 16 (trL t T (mmL (f (4 + 5 * s)))) ++ (lzI G (q 5) 64 f))))) (lzA (lzM m q S ++ (lzI G (q 22) 16 t ++ (lzI G (q 5) 64 f))))) 0 0 (lzA (lzM m q S ++ (lzI G (q 22) 16 t ++ (lzI G (q 5) 64 f)))) := by
  refine rw_start (S := Unit) (cc := cX4_markOf) (maxL := 5) (ret := (some .int)) (by decide) rfl (Nat.le_of_ble_eq_true rfl) ?_
  intro pp ee ss mm bl me cd A hx hb hr hlk hml hts hown hP hK hD hAe hS ls hl
  have hA0 : ∀ zz : Nat, lzA (lzM m q S ++ (lzI G (q 22) 16 t ++ (lzI G (q 5) 64 f))) zz → A zz := fun zz h9 => by rw [hAe]; exact h9
  rw [← hAe]
  clear hAe
  have hown : ss.vm.findClass RX4 = some mm.cls := hown
  have hw1 := hts (.fieldLink RX4 19 "LampSquaresModel" "door" "[I") (List.mem_of_getElem? (i := 1) rfl)
  have hu_wsX40 : ∀ w ∈ wsX40, w.before ([.ref m, .int (nI s)] : List Value).toArray ss = true := fun w h9 => hts w (List.mem_cons_of_mem _ (List.mem_append_right _ h9))
  have hl : lv_has ls 5 [(0, .ref m), (1, .int (nI s))] := hl
  refine lv_aload_n hx hb dX4_markOf_0 rfl (lv_at hl 0 rfl) ?_
  refine lz_get (G := G) (ci := 4) (v := .ref (q 5)) (C := RX4) (T := TX4) (N := 24) hx hb hu_wsX40 (fun _ h9 => h9) hown hK hP 0 rfl rfl 5 (by decide) hw1 rfl rfl dX4_markOf_1 ?_
  refine lv_iload_n hx hb dX4_markOf_4 rfl (lv_at hl 1 rfl) ?_
  refine lv_iconst (v := 0) hx hb dX4_markOf_5 (by decide) ?_
  have hPc := hP.sub (ws' := lzI G (q 5) 64 f) [2] rfl
  refine ro_calli (va_runS (As := [.ref (q 5), .int (nI s), .int 0]) (rest := []) ⟨hx, hb, hml, hown, hts⟩ (c_X4_of l G (q 5) f s 0 (by omega) (by decide)) (cwS 3 hts gX4_markOf_X4_of rfl rfl rfl (by decide +kernel) ⟨Nat.le_of_ble_eq_true rfl, Nat.le_of_ble_eq_true rfl⟩) (ro_pre hK hPc) rfl rfl hl.1 rfl (lv_room (Nat.le_of_ble_eq_true rfl)) dX4_markOf_6 ⟨Nat.zero_le _, Nat.zero_le _⟩) (fun r_1 hr_1 => ?_)
  refine lz_top (y := f (4 + 5 * s)) hr_1 ?_
  refine lv_istore_n (lv' := [(2, .int (f (4 + 5 * s))), (0, .ref m), (1, .int (nI s))]) hx hb dX4_markOf_9 rfl hl (by decide) rfl (fun ls hl => ?_)
  refine lv_iload_n hx hb dX4_markOf_10 rfl (lv_at hl 0 rfl) ?_
  refine lv_iconst (v := 4) hx hb dX4_markOf_11 (by decide) ?_
  refine lv_icmp_lt (tgt := 35) hx hb dX4_markOf_12 (by decide) (fun c_12 => ?_) (fun c_12 => ?_)
  · skip
    have c_12' := Int32.not_le.mpr c_12
    refine lv_iload_n hx hb dX4_markOf_35 rfl (lv_at hl 0 rfl) ?_
    refine lv_iconst (v := 1) hx hb dX4_markOf_36 (by decide) ?_
    refine lv_icmp_eq (tgt := 56) hx hb dX4_markOf_37 (by decide) (fun c_37 => ?_) (fun c_37 => ?_)
    · skip
      refine lv_aload_n hx hb dX4_markOf_56 rfl (lv_at hl 1 rfl) ?_
      refine lv_bipush (v := 21) hx hb dX4_markOf_57 (by decide) ?_
      have hPc := hP.sub (ws' := (lzM m q S ++ lzI G (q 22) 16 t)) [0, 1] rfl
      have hDc := hD.sub (ws' := (lzM m q S ++ lzI G (q 22) 16 t)) [0, 1] (by decide) rfl
      have hFc : ∀ zz : Nat, lzA (lzM m q S ++ lzI G (q 22) 16 t) zz → A zz := lz_free hD [0, 1] rfl
      refine va_callv (va_runV (As := [.int 21]) (rest := []) ⟨hx, hb, hml, hown, hts⟩ (c_X4_began l G m q S t T 21 (hT) (by omega)) (cwV 1 hts gX4_markOf_X4_began rfl rfl rfl (by decide +kernel) ⟨Nat.le_of_ble_eq_true rfl, Nat.le_of_ble_eq_true rfl⟩) (rw_preV hK hPc hDc hP (ci := 4) (q0 := 0) rfl rfl) rfl rfl hl.1 rfl (lv_room (Nat.le_of_ble_eq_true rfl)) dX4_markOf_59 ⟨Nat.zero_le _, Nat.zero_le _⟩) hS (fun q _ h => hFc q h) hFc (fun u_3 t9 H1 locs ht hvm hr_2 hB hz1 hk1 hS => ?_)
      replace hB : va_P G.1 lzC _ t9.heap := hB
      rw [ht] at hB
      obtain ⟨hP, hD⟩ := lz_join (wc := (lzM m q S ++ lzI G (q 22) 16 t)) (wr := ([(q 5, .inl (G.2 0, 64, .inl f))] : va_W)) (w1 := (lzM m q (upd S 23 (nI (T + 1))) ++ lzI G (q 22) 16 (upd t T 21))) hP hD [0, 1] [2] rfl rfl (by decide) (by decide) rfl hk1 hB
      replace hP := hP.sub (ws' := (lzM m q (upd S 23 (nI (T + 1))) ++ (lzI G (q 22) 16 (upd t T 21) ++ (lzI G (q 5) 64 f)))) [1, 2, 0] rfl
      replace hD := hD.sub (ws' := (lzM m q (upd S 23 (nI (T + 1))) ++ (lzI G (q 22) 16 (upd t T 21) ++ (lzI G (q 5) 64 f)))) [1, 2, 0] (by decide) rfl
      clear ht hvm hB hz1 hk1
      generalize H1 = H at hP hS ⊢
      refine lv_aload_n hx hb dX4_markOf_62 rfl (lv_at hl 1 rfl) ?_
      refine lv_bipush (v := 20) hx hb dX4_markOf_63 (by decide) ?_
      have hPc := hP.sub (ws' := (lzM m q (upd S 23 (nI (T + 1))) ++ lzI G (q 22) 16 (upd t T 21))) [0, 1] rfl
      have hDc := hD.sub (ws' := (lzM m q (upd S 23 (nI (T + 1))) ++ lzI G (q 22) 16 (upd t T 21))) [0, 1] (by decide) rfl
      have hFc : ∀ zz : Nat, lzA (lzM m q (upd S 23 (nI (T + 1))) ++ lzI G (q 22) 16 (upd t T 21)) zz → A zz := lz_free hD [0, 1] rfl
      refine va_callv (va_runV (As := [.int 20]) (rest := []) ⟨hx, hb, hml, hown, hts⟩ (c_X4_began l G m q (upd S 23 (nI (T + 1))) (upd t T 21) (T + 1) 20 (rfl) (by omega)) (cwV 1 hts gX4_markOf_X4_began rfl rfl rfl (by decide +kernel) ⟨Nat.le_of_ble_eq_true rfl, Nat.le_of_ble_eq_true rfl⟩) (rw_preV hK hPc hDc hP (ci := 4) (q0 := 0) rfl rfl) rfl rfl hl.1 rfl (lv_room (Nat.le_of_ble_eq_true rfl)) dX4_markOf_65 ⟨Nat.zero_le _, Nat.zero_le _⟩) hS (fun q _ h => hFc q h) hFc (fun u_5 t9 H1 locs ht hvm hr_4 hB hz1 hk1 hS => ?_)
      replace hB : va_P G.1 lzC _ t9.heap := hB
      rw [ht] at hB
      obtain ⟨hP, hD⟩ := lz_join (wc := (lzM m q (upd S 23 (nI (T + 1))) ++ lzI G (q 22) 16 (upd t T 21))) (wr := ([(q 5, .inl (G.2 0, 64, .inl f))] : va_W)) (w1 := (lzM m q (upd S 23 (nI ((T + 1) + 1))) ++ lzI G (q 22) 16 (upd (upd t T 21) (T + 1) 20))) hP hD [0, 1] [2] rfl rfl (by decide) (by decide) rfl hk1 hB
      replace hP := hP.sub (ws' := (lzM m q (upd S 23 (nI ((T + 1) + 1))) ++ (lzI G (q 22) 16 (upd (upd t T 21) (T + 1) 20) ++ (lzI G (q 5) 64 f)))) [1, 2, 0] rfl
      replace hD := hD.sub (ws' := (lzM m q (upd S 23 (nI ((T + 1) + 1))) ++ (lzI G (q 22) 16 (upd (upd t T 21) (T + 1) 20) ++ (lzI G (q 5) 64 f)))) [1, 2, 0] (by decide) rfl
      clear ht hvm hB hz1 hk1
      generalize H1 = H at hP hS ⊢
      refine lv_iload_n hx hb dX4_markOf_68 rfl (lv_at hl 2 rfl) ?_
      refine lv_topi (fun x_6 ex_6 => ?_)
      refine lv_istore_n (lv' := [(3, .int x_6), (2, .int (f (4 + 5 * s))), (0, .ref m), (1, .int (nI s))]) hx hb dX4_markOf_69 rfl hl (by decide) rfl (fun ls hl => ?_)
      refine lv_iconst (v := 0) hx hb dX4_markOf_70 (by decide) ?_
      refine lv_istore (lv' := [(4, .int 0), (3, .int x_6), (2, .int (f (4 + 5 * s))), (0, .ref m), (1, .int (nI s))]) hx hb dX4_markOf_71 hl (by decide) rfl (fun ls hl => ?_)
      have J_73 : ∀ (n9 : Nat), ∀ (k : Nat), (k ≤ M) → M - k < n9 → ∀ (H : Heap) (locs : List Loc), va_P G.1 lzC (lzM m q (upd S 23 (nI ((T + 1) + 1))) ++ (lzI G (q 22) 16 (upd (upd t T 21) (T + 1) 20) ++ (lzI G (q 5) 64 f))) H → va_D A (lzM m q (upd S 23 (nI ((T + 1) + 1))) ++ (lzI G (q 22) 16 (upd (upd t T 21) (T + 1) 20) ++ (lzI G (q 5) 64 f))) → va_S A ss.heap H locs → ∀ ls : Array Slot, lv_has ls 5 [(3, .int (nI s + cntI (fun z => clkR f z s) k)), (4, .int (nI k)), (2, .int (f (4 + 5 * s))), (0, .ref m), (1, .int (nI s))] → W pp l ee ({ frames := 3, cells := 0, slots := 0, locals := 68 }) ss mm ([.ref m, .int (nI s)] : List Value).toArray bl me cd H locs 0 0 (MQ bl (va_Qi (S := Unit) (fun (r : Int32) (_ : Unit) => r = mmV (f (4 + 5 * s)) (nI s) (f (4 + 5 * s + 1)) (nI s + cntI (fun z => clkR f z s) M)) (rwB G (fun _ : Unit => (lzM m q (upd S 23 (nI (T + (mmL (f (4 + 5 * s))).length))) ++ (lzI G (q 22) 16 (trL t T (mmL (f (4 + 5 * s)))) ++ (lzI G (q 5) 64 f))))) A) ([.ref m, .int (nI s)] : List Value).toArray ss 0 0 A) (F0 mm 73 ls []) := by
        intro n9
        induction n9 with
        | zero => intro k hk hn; exact absurd hn (Nat.not_lt_zero _)
        | succ n9 ih_73 =>
          intro k hk hn_73 H locs hP hD hS ls hl
          refine lv_iload hx hb dX4_markOf_73 (lv_at hl 1 rfl) ?_
          refine lv_aload_n hx hb dX4_markOf_75 rfl (lv_at hl 3 rfl) ?_
          refine lz_get (G := G) (ci := 4) (v := .ref (q 5)) (C := RX4) (T := TX4) (N := 24) hx hb hu_wsX40 (fun _ h9 => h9) hown hK hP 0 rfl rfl 5 (by decide) hw1 rfl rfl dX4_markOf_76 ?_
          refine lv_iconst (v := 3) hx hb dX4_markOf_79 (by decide) ?_
          refine lz_iald (f := f) hx hb hK hP 2 rfl 3 (by omega) (Nat.le_of_ble_eq_true rfl) dX4_markOf_80 ?_
          refine lv_icmp_ge (tgt := 111) hx hb dX4_markOf_81 (by decide) (fun c_81 => ?_) (fun c_81 => ?_)
          · skip
            have c_81' := Int32.not_lt.mpr c_81
            have hk2 : M ≤ k := lz_ge hM c_81 (by omega) (by omega)
            have hk3 : k = M := by omega
            refine lv_iload_n hx hb dX4_markOf_111 rfl (lv_at hl 2 rfl) ?_
            refine lv_iconst (v := 1) hx hb dX4_markOf_112 (by decide) ?_
            refine lv_icmp_ne (tgt := 120) hx hb dX4_markOf_113 (by decide) (fun c_113 => ?_) (fun c_113 => ?_)
            · skip
              exact absurd c_37 c_113
            · skip
              refine lv_iload_n hx hb dX4_markOf_116 rfl (lv_at hl 0 rfl) ?_
              refine lv_goto (tgt := 136) hx hb dX4_markOf_117 (by decide) ?_
              exact rw_iret (S := Unit) (G := G) (Wd := fun _ : Unit => (lzM m q (upd S 23 (nI (T + (mmL (f (4 + 5 * s))).length))) ++ (lzI G (q 22) 16 (trL t T (mmL (f (4 + 5 * s)))) ++ (lzI G (q 5) 64 f)))) () hx hb hr hlk dX4_markOf_136 hS (by show va_P G.1 lzC (lzM m q (upd S 23 (nI (T + (mmL (f (4 + 5 * s))).length))) ++ (lzI G (q 22) 16 (trL t T (mmL (f (4 + 5 * s)))) ++ lzI G (q 5) 64 f)) H; unfold mmL; rw [if_neg (Int32.not_le.mpr c_12)]; first | (rw [if_pos c_37]; exact hP) | (rw [if_neg c_37, if_pos c_43]; exact hP) | (rw [if_neg c_37, if_neg c_43]; exact hP)) (by rw [hk3]; unfold mmV; rw [if_neg (Int32.not_le.mpr c_12)]; first | rw [if_pos c_37] | rw [if_neg c_37, if_pos c_43] | rw [if_neg c_37, if_neg c_43])
          · skip
            have c_81' := Int32.not_le.mp c_81
            have hk2 : k < M := lz_lt hM c_81 (by omega) (by omega)
            refine lv_iload_n hx hb dX4_markOf_84 rfl (lv_at hl 0 rfl) ?_
            refine lv_aload_n hx hb dX4_markOf_85 rfl (lv_at hl 3 rfl) ?_
            refine lz_get (G := G) (ci := 4) (v := .ref (q 5)) (C := RX4) (T := TX4) (N := 24) hx hb hu_wsX40 (fun _ h9 => h9) hown hK hP 0 rfl rfl 5 (by decide) hw1 rfl rfl dX4_markOf_86 ?_
            refine lv_iload hx hb dX4_markOf_89 (lv_at hl 1 rfl) ?_
            refine lv_iload_n hx hb dX4_markOf_91 rfl (lv_at hl 4 rfl) ?_
            have hPc := hP.sub (ws' := lzI G (q 5) 64 f) [2] rfl
            refine ro_calli (va_runS (As := [.ref (q 5), .int (nI k), .int (nI s)]) (rest := [.int (nI s + cntI (fun z => clkR f z s) k)]) ⟨hx, hb, hml, hown, hts⟩ (c_X4_clicksIt l G (q 5) f k s (by omega) (hs)) (cwS 3 hts gX4_markOf_X4_clicksIt rfl rfl rfl (by decide +kernel) ⟨Nat.le_of_ble_eq_true rfl, Nat.le_of_ble_eq_true rfl⟩) (ro_pre hK hPc) rfl rfl hl.1 rfl (lv_room (Nat.le_of_ble_eq_true rfl)) dX4_markOf_92 ⟨Nat.zero_le _, Nat.zero_le _⟩) (fun r_7 hr_7 => ?_)
            refine lv_if_eq (tgt := 102) hx hb dX4_markOf_95 (by decide) (fun c_95 => ?_) (fun c_95 => ?_)
            · skip
              have c_95 := b2_z hr_7 c_95
              refine lv_iconst (v := 0) hx hb dX4_markOf_102 (by decide) ?_
              refine lv_iadd hx hb dX4_markOf_103 ?_
              refine lv_topi (fun x_8 ex_8 => ?_)
              refine lv_istore_n (lv' := [(3, .int x_8), (4, .int (nI k)), (2, .int (f (4 + 5 * s))), (0, .ref m), (1, .int (nI s))]) hx hb dX4_markOf_104 rfl hl (by decide) rfl (fun ls hl => ?_)
              refine lv_iinc (v := nI (k + 1)) (lv' := [(4, .int (nI (k + 1))), (3, .int x_8), (2, .int (f (4 + 5 * s))), (0, .ref m), (1, .int (nI s))]) hx hb dX4_markOf_105 hl (k := 1) rfl (nI_1 _) (by decide) rfl (fun ls hl => ?_)
              refine lv_goto (tgt := 73) hx hb dX4_markOf_108 (by decide) ?_
              obtain rfl : x_8 = nI s + cntI (fun z => clkR f z s) (k + 1) := by rw [ex_8]; simp [cntI, b2, c_12, c_12', c_37, c_81, c_81', c_95, Int32.add_assoc]
              exact ih_73 (k + 1) (by omega) (by omega) _ _ hP hD hS _ (lv_sub hl [1, 0, 2, 3, 4] rfl)
            · skip
              have c_95 := b2_n hr_7 c_95
              refine lv_iconst (v := 1) hx hb dX4_markOf_98 (by decide) ?_
              refine lv_goto (tgt := 103) hx hb dX4_markOf_99 (by decide) ?_
              refine lv_iadd hx hb dX4_markOf_103 ?_
              refine lv_topi (fun x_9 ex_9 => ?_)
              refine lv_istore_n (lv' := [(3, .int x_9), (4, .int (nI k)), (2, .int (f (4 + 5 * s))), (0, .ref m), (1, .int (nI s))]) hx hb dX4_markOf_104 rfl hl (by decide) rfl (fun ls hl => ?_)
              refine lv_iinc (v := nI (k + 1)) (lv' := [(4, .int (nI (k + 1))), (3, .int x_9), (2, .int (f (4 + 5 * s))), (0, .ref m), (1, .int (nI s))]) hx hb dX4_markOf_105 hl (k := 1) rfl (nI_1 _) (by decide) rfl (fun ls hl => ?_)
              refine lv_goto (tgt := 73) hx hb dX4_markOf_108 (by decide) ?_
              obtain rfl : x_9 = nI s + cntI (fun z => clkR f z s) (k + 1) := by rw [ex_9]; simp [cntI, b2, c_12, c_12', c_37, c_81, c_81', c_95, Int32.add_assoc]
              exact ih_73 (k + 1) (by omega) (by omega) _ _ hP hD hS _ (lv_sub hl [1, 0, 2, 3, 4] rfl)
      obtain rfl : x_6 = nI s + cntI (fun z => clkR f z s) 0 := by rw [ex_6]; simp [cntI]
      exact J_73 _ 0 (by omega) (Nat.lt_succ_self _) _ _ hP hD hS _ (lv_sub hl [1, 0, 2, 3, 4] rfl)
    · skip
      refine lv_aload_n hx hb dX4_markOf_40 rfl (lv_at hl 1 rfl) ?_
      refine lv_iload_n hx hb dX4_markOf_41 rfl (lv_at hl 0 rfl) ?_
      refine lv_iconst (v := 3) hx hb dX4_markOf_42 (by decide) ?_
      refine lv_icmp_ne (tgt := 51) hx hb dX4_markOf_43 (by decide) (fun c_43 => ?_) (fun c_43 => ?_)
      · skip
        refine lv_bipush (v := 24) hx hb dX4_markOf_51 (by decide) ?_
        have hPc := hP.sub (ws' := (lzM m q S ++ lzI G (q 22) 16 t)) [0, 1] rfl
        have hDc := hD.sub (ws' := (lzM m q S ++ lzI G (q 22) 16 t)) [0, 1] (by decide) rfl
        have hFc : ∀ zz : Nat, lzA (lzM m q S ++ lzI G (q 22) 16 t) zz → A zz := lz_free hD [0, 1] rfl
        refine va_callv (va_runV (As := [.int 24]) (rest := []) ⟨hx, hb, hml, hown, hts⟩ (c_X4_began l G m q S t T 24 (hT) (by omega)) (cwV 1 hts gX4_markOf_X4_began rfl rfl rfl (by decide +kernel) ⟨Nat.le_of_ble_eq_true rfl, Nat.le_of_ble_eq_true rfl⟩) (rw_preV hK hPc hDc hP (ci := 4) (q0 := 0) rfl rfl) rfl rfl hl.1 rfl (lv_room (Nat.le_of_ble_eq_true rfl)) dX4_markOf_53 ⟨Nat.zero_le _, Nat.zero_le _⟩) hS (fun q _ h => hFc q h) hFc (fun u_11 t9 H1 locs ht hvm hr_10 hB hz1 hk1 hS => ?_)
        replace hB : va_P G.1 lzC _ t9.heap := hB
        rw [ht] at hB
        obtain ⟨hP, hD⟩ := lz_join (wc := (lzM m q S ++ lzI G (q 22) 16 t)) (wr := ([(q 5, .inl (G.2 0, 64, .inl f))] : va_W)) (w1 := (lzM m q (upd S 23 (nI (T + 1))) ++ lzI G (q 22) 16 (upd t T 24))) hP hD [0, 1] [2] rfl rfl (by decide) (by decide) rfl hk1 hB
        replace hP := hP.sub (ws' := (lzM m q (upd S 23 (nI (T + 1))) ++ (lzI G (q 22) 16 (upd t T 24) ++ (lzI G (q 5) 64 f)))) [1, 2, 0] rfl
        replace hD := hD.sub (ws' := (lzM m q (upd S 23 (nI (T + 1))) ++ (lzI G (q 22) 16 (upd t T 24) ++ (lzI G (q 5) 64 f)))) [1, 2, 0] (by decide) rfl
        clear ht hvm hB hz1 hk1
        generalize H1 = H at hP hS ⊢
        refine lv_aload_n hx hb dX4_markOf_56 rfl (lv_at hl 1 rfl) ?_
        refine lv_bipush (v := 21) hx hb dX4_markOf_57 (by decide) ?_
        have hPc := hP.sub (ws' := (lzM m q (upd S 23 (nI (T + 1))) ++ lzI G (q 22) 16 (upd t T 24))) [0, 1] rfl
        have hDc := hD.sub (ws' := (lzM m q (upd S 23 (nI (T + 1))) ++ lzI G (q 22) 16 (upd t T 24))) [0, 1] (by decide) rfl
        have hFc : ∀ zz : Nat, lzA (lzM m q (upd S 23 (nI (T + 1))) ++ lzI G (q 22) 16 (upd t T 24)) zz → A zz := lz_free hD [0, 1] rfl
        refine va_callv (va_runV (As := [.int 21]) (rest := []) ⟨hx, hb, hml, hown, hts⟩ (c_X4_began l G m q (upd S 23 (nI (T + 1))) (upd t T 24) (T + 1) 21 (rfl) (by omega)) (cwV 1 hts gX4_markOf_X4_began rfl rfl rfl (by decide +kernel) ⟨Nat.le_of_ble_eq_true rfl, Nat.le_of_ble_eq_true rfl⟩) (rw_preV hK hPc hDc hP (ci := 4) (q0 := 0) rfl rfl) rfl rfl hl.1 rfl (lv_room (Nat.le_of_ble_eq_true rfl)) dX4_markOf_59 ⟨Nat.zero_le _, Nat.zero_le _⟩) hS (fun q _ h => hFc q h) hFc (fun u_13 t9 H1 locs ht hvm hr_12 hB hz1 hk1 hS => ?_)
        replace hB : va_P G.1 lzC _ t9.heap := hB
        rw [ht] at hB
        obtain ⟨hP, hD⟩ := lz_join (wc := (lzM m q (upd S 23 (nI (T + 1))) ++ lzI G (q 22) 16 (upd t T 24))) (wr := ([(q 5, .inl (G.2 0, 64, .inl f))] : va_W)) (w1 := (lzM m q (upd S 23 (nI ((T + 1) + 1))) ++ lzI G (q 22) 16 (upd (upd t T 24) (T + 1) 21))) hP hD [0, 1] [2] rfl rfl (by decide) (by decide) rfl hk1 hB
        replace hP := hP.sub (ws' := (lzM m q (upd S 23 (nI ((T + 1) + 1))) ++ (lzI G (q 22) 16 (upd (upd t T 24) (T + 1) 21) ++ (lzI G (q 5) 64 f)))) [1, 2, 0] rfl
        replace hD := hD.sub (ws' := (lzM m q (upd S 23 (nI ((T + 1) + 1))) ++ (lzI G (q 22) 16 (upd (upd t T 24) (T + 1) 21) ++ (lzI G (q 5) 64 f)))) [1, 2, 0] (by decide) rfl
        clear ht hvm hB hz1 hk1
        generalize H1 = H at hP hS ⊢
        refine lv_aload_n hx hb dX4_markOf_62 rfl (lv_at hl 1 rfl) ?_
        refine lv_bipush (v := 20) hx hb dX4_markOf_63 (by decide) ?_
        have hPc := hP.sub (ws' := (lzM m q (upd S 23 (nI ((T + 1) + 1))) ++ lzI G (q 22) 16 (upd (upd t T 24) (T + 1) 21))) [0, 1] rfl
        have hDc := hD.sub (ws' := (lzM m q (upd S 23 (nI ((T + 1) + 1))) ++ lzI G (q 22) 16 (upd (upd t T 24) (T + 1) 21))) [0, 1] (by decide) rfl
        have hFc : ∀ zz : Nat, lzA (lzM m q (upd S 23 (nI ((T + 1) + 1))) ++ lzI G (q 22) 16 (upd (upd t T 24) (T + 1) 21)) zz → A zz := lz_free hD [0, 1] rfl
        refine va_callv (va_runV (As := [.int 20]) (rest := []) ⟨hx, hb, hml, hown, hts⟩ (c_X4_began l G m q (upd S 23 (nI ((T + 1) + 1))) (upd (upd t T 24) (T + 1) 21) ((T + 1) + 1) 20 (rfl) (by omega)) (cwV 1 hts gX4_markOf_X4_began rfl rfl rfl (by decide +kernel) ⟨Nat.le_of_ble_eq_true rfl, Nat.le_of_ble_eq_true rfl⟩) (rw_preV hK hPc hDc hP (ci := 4) (q0 := 0) rfl rfl) rfl rfl hl.1 rfl (lv_room (Nat.le_of_ble_eq_true rfl)) dX4_markOf_65 ⟨Nat.zero_le _, Nat.zero_le _⟩) hS (fun q _ h => hFc q h) hFc (fun u_15 t9 H1 locs ht hvm hr_14 hB hz1 hk1 hS => ?_)
        replace hB : va_P G.1 lzC _ t9.heap := hB
        rw [ht] at hB
        obtain ⟨hP, hD⟩ := lz_join (wc := (lzM m q (upd S 23 (nI ((T + 1) + 1))) ++ lzI G (q 22) 16 (upd (upd t T 24) (T + 1) 21))) (wr := ([(q 5, .inl (G.2 0, 64, .inl f))] : va_W)) (w1 := (lzM m q (upd S 23 (nI (((T + 1) + 1) + 1))) ++ lzI G (q 22) 16 (upd (upd (upd t T 24) (T + 1) 21) ((T + 1) + 1) 20))) hP hD [0, 1] [2] rfl rfl (by decide) (by decide) rfl hk1 hB
        replace hP := hP.sub (ws' := (lzM m q (upd S 23 (nI (((T + 1) + 1) + 1))) ++ (lzI G (q 22) 16 (upd (upd (upd t T 24) (T + 1) 21) ((T + 1) + 1) 20) ++ (lzI G (q 5) 64 f)))) [1, 2, 0] rfl
        replace hD := hD.sub (ws' := (lzM m q (upd S 23 (nI (((T + 1) + 1) + 1))) ++ (lzI G (q 22) 16 (upd (upd (upd t T 24) (T + 1) 21) ((T + 1) + 1) 20) ++ (lzI G (q 5) 64 f)))) [1, 2, 0] (by decide) rfl
        clear ht hvm hB hz1 hk1
        generalize H1 = H at hP hS ⊢
        refine lv_iload_n hx hb dX4_markOf_68 rfl (lv_at hl 2 rfl) ?_
        refine lv_topi (fun x_16 ex_16 => ?_)
        refine lv_istore_n (lv' := [(3, .int x_16), (2, .int (f (4 + 5 * s))), (0, .ref m), (1, .int (nI s))]) hx hb dX4_markOf_69 rfl hl (by decide) rfl (fun ls hl => ?_)
        refine lv_iconst (v := 0) hx hb dX4_markOf_70 (by decide) ?_
        refine lv_istore (lv' := [(4, .int 0), (3, .int x_16), (2, .int (f (4 + 5 * s))), (0, .ref m), (1, .int (nI s))]) hx hb dX4_markOf_71 hl (by decide) rfl (fun ls hl => ?_)
        have J_73 : ∀ (n9 : Nat), ∀ (k : Nat), (k ≤ M) → M - k < n9 → ∀ (H : Heap) (locs : List Loc), va_P G.1 lzC (lzM m q (upd S 23 (nI (((T + 1) + 1) + 1))) ++ (lzI G (q 22) 16 (upd (upd (upd t T 24) (T + 1) 21) ((T + 1) + 1) 20) ++ (lzI G (q 5) 64 f))) H → va_D A (lzM m q (upd S 23 (nI (((T + 1) + 1) + 1))) ++ (lzI G (q 22) 16 (upd (upd (upd t T 24) (T + 1) 21) ((T + 1) + 1) 20) ++ (lzI G (q 5) 64 f))) → va_S A ss.heap H locs → ∀ ls : Array Slot, lv_has ls 5 [(3, .int (nI s + cntI (fun z => clkR f z s) k)), (4, .int (nI k)), (2, .int (f (4 + 5 * s))), (0, .ref m), (1, .int (nI s))] → W pp l ee ({ frames := 3, cells := 0, slots := 0, locals := 68 }) ss mm ([.ref m, .int (nI s)] : List Value).toArray bl me cd H locs 0 0 (MQ bl (va_Qi (S := Unit) (fun (r : Int32) (_ : Unit) => r = mmV (f (4 + 5 * s)) (nI s) (f (4 + 5 * s + 1)) (nI s + cntI (fun z => clkR f z s) M)) (rwB G (fun _ : Unit => (lzM m q (upd S 23 (nI (T + (mmL (f (4 + 5 * s))).length))) ++ (lzI G (q 22) 16 (trL t T (mmL (f (4 + 5 * s)))) ++ (lzI G (q 5) 64 f))))) A) ([.ref m, .int (nI s)] : List Value).toArray ss 0 0 A) (F0 mm 73 ls []) := by
          intro n9
          induction n9 with
          | zero => intro k hk hn; exact absurd hn (Nat.not_lt_zero _)
          | succ n9 ih_73 =>
            intro k hk hn_73 H locs hP hD hS ls hl
            refine lv_iload hx hb dX4_markOf_73 (lv_at hl 1 rfl) ?_
            refine lv_aload_n hx hb dX4_markOf_75 rfl (lv_at hl 3 rfl) ?_
            refine lz_get (G := G) (ci := 4) (v := .ref (q 5)) (C := RX4) (T := TX4) (N := 24) hx hb hu_wsX40 (fun _ h9 => h9) hown hK hP 0 rfl rfl 5 (by decide) hw1 rfl rfl dX4_markOf_76 ?_
            refine lv_iconst (v := 3) hx hb dX4_markOf_79 (by decide) ?_
            refine lz_iald (f := f) hx hb hK hP 2 rfl 3 (by omega) (Nat.le_of_ble_eq_true rfl) dX4_markOf_80 ?_
            refine lv_icmp_ge (tgt := 111) hx hb dX4_markOf_81 (by decide) (fun c_81 => ?_) (fun c_81 => ?_)
            · skip
              have c_81' := Int32.not_lt.mpr c_81
              have hk2 : M ≤ k := lz_ge hM c_81 (by omega) (by omega)
              have hk3 : k = M := by omega
              refine lv_iload_n hx hb dX4_markOf_111 rfl (lv_at hl 2 rfl) ?_
              refine lv_iconst (v := 1) hx hb dX4_markOf_112 (by decide) ?_
              refine lv_icmp_ne (tgt := 120) hx hb dX4_markOf_113 (by decide) (fun c_113 => ?_) (fun c_113 => ?_)
              · skip
                refine lv_iload_n hx hb dX4_markOf_120 rfl (lv_at hl 2 rfl) ?_
                refine lv_iconst (v := 3) hx hb dX4_markOf_121 (by decide) ?_
                refine lv_icmp_ne (tgt := 133) hx hb dX4_markOf_122 (by decide) (fun c_122 => ?_) (fun c_122 => ?_)
                · skip
                  refine lv_iconst (v := 2) hx hb dX4_markOf_133 (by decide) ?_
                  refine lv_iload_n hx hb dX4_markOf_134 rfl (lv_at hl 0 rfl) ?_
                  refine lv_imul hx hb dX4_markOf_135 ?_
                  exact rw_iret (S := Unit) (G := G) (Wd := fun _ : Unit => (lzM m q (upd S 23 (nI (T + (mmL (f (4 + 5 * s))).length))) ++ (lzI G (q 22) 16 (trL t T (mmL (f (4 + 5 * s)))) ++ (lzI G (q 5) 64 f)))) () hx hb hr hlk dX4_markOf_136 hS (by show va_P G.1 lzC (lzM m q (upd S 23 (nI (T + (mmL (f (4 + 5 * s))).length))) ++ (lzI G (q 22) 16 (trL t T (mmL (f (4 + 5 * s)))) ++ lzI G (q 5) 64 f)) H; unfold mmL; rw [if_neg (Int32.not_le.mpr c_12)]; first | (rw [if_pos c_37]; exact hP) | (rw [if_neg c_37, if_pos c_43]; exact hP) | (rw [if_neg c_37, if_neg c_43]; exact hP)) (by rw [hk3]; unfold mmV; rw [if_neg (Int32.not_le.mpr c_12)]; first | rw [if_pos c_37] | rw [if_neg c_37, if_pos c_43] | rw [if_neg c_37, if_neg c_43])
                · skip
                  exact absurd c_122 c_43
              · skip
                exact absurd c_113 c_37
            · skip
              have c_81' := Int32.not_le.mp c_81
              have hk2 : k < M := lz_lt hM c_81 (by omega) (by omega)
              refine lv_iload_n hx hb dX4_markOf_84 rfl (lv_at hl 0 rfl) ?_
              refine lv_aload_n hx hb dX4_markOf_85 rfl (lv_at hl 3 rfl) ?_
              refine lz_get (G := G) (ci := 4) (v := .ref (q 5)) (C := RX4) (T := TX4) (N := 24) hx hb hu_wsX40 (fun _ h9 => h9) hown hK hP 0 rfl rfl 5 (by decide) hw1 rfl rfl dX4_markOf_86 ?_
              refine lv_iload hx hb dX4_markOf_89 (lv_at hl 1 rfl) ?_
              refine lv_iload_n hx hb dX4_markOf_91 rfl (lv_at hl 4 rfl) ?_
              have hPc := hP.sub (ws' := lzI G (q 5) 64 f) [2] rfl
              refine ro_calli (va_runS (As := [.ref (q 5), .int (nI k), .int (nI s)]) (rest := [.int (nI s + cntI (fun z => clkR f z s) k)]) ⟨hx, hb, hml, hown, hts⟩ (c_X4_clicksIt l G (q 5) f k s (by omega) (hs)) (cwS 3 hts gX4_markOf_X4_clicksIt rfl rfl rfl (by decide +kernel) ⟨Nat.le_of_ble_eq_true rfl, Nat.le_of_ble_eq_true rfl⟩) (ro_pre hK hPc) rfl rfl hl.1 rfl (lv_room (Nat.le_of_ble_eq_true rfl)) dX4_markOf_92 ⟨Nat.zero_le _, Nat.zero_le _⟩) (fun r_17 hr_17 => ?_)
              refine lv_if_eq (tgt := 102) hx hb dX4_markOf_95 (by decide) (fun c_95 => ?_) (fun c_95 => ?_)
              · skip
                have c_95 := b2_z hr_17 c_95
                refine lv_iconst (v := 0) hx hb dX4_markOf_102 (by decide) ?_
                refine lv_iadd hx hb dX4_markOf_103 ?_
                refine lv_topi (fun x_18 ex_18 => ?_)
                refine lv_istore_n (lv' := [(3, .int x_18), (4, .int (nI k)), (2, .int (f (4 + 5 * s))), (0, .ref m), (1, .int (nI s))]) hx hb dX4_markOf_104 rfl hl (by decide) rfl (fun ls hl => ?_)
                refine lv_iinc (v := nI (k + 1)) (lv' := [(4, .int (nI (k + 1))), (3, .int x_18), (2, .int (f (4 + 5 * s))), (0, .ref m), (1, .int (nI s))]) hx hb dX4_markOf_105 hl (k := 1) rfl (nI_1 _) (by decide) rfl (fun ls hl => ?_)
                refine lv_goto (tgt := 73) hx hb dX4_markOf_108 (by decide) ?_
                obtain rfl : x_18 = nI s + cntI (fun z => clkR f z s) (k + 1) := by rw [ex_18]; simp [cntI, b2, c_12, c_12', c_37, c_43, c_81, c_81', c_95, Int32.add_assoc]
                exact ih_73 (k + 1) (by omega) (by omega) _ _ hP hD hS _ (lv_sub hl [1, 0, 2, 3, 4] rfl)
              · skip
                have c_95 := b2_n hr_17 c_95
                refine lv_iconst (v := 1) hx hb dX4_markOf_98 (by decide) ?_
                refine lv_goto (tgt := 103) hx hb dX4_markOf_99 (by decide) ?_
                refine lv_iadd hx hb dX4_markOf_103 ?_
                refine lv_topi (fun x_19 ex_19 => ?_)
                refine lv_istore_n (lv' := [(3, .int x_19), (4, .int (nI k)), (2, .int (f (4 + 5 * s))), (0, .ref m), (1, .int (nI s))]) hx hb dX4_markOf_104 rfl hl (by decide) rfl (fun ls hl => ?_)
                refine lv_iinc (v := nI (k + 1)) (lv' := [(4, .int (nI (k + 1))), (3, .int x_19), (2, .int (f (4 + 5 * s))), (0, .ref m), (1, .int (nI s))]) hx hb dX4_markOf_105 hl (k := 1) rfl (nI_1 _) (by decide) rfl (fun ls hl => ?_)
                refine lv_goto (tgt := 73) hx hb dX4_markOf_108 (by decide) ?_
                obtain rfl : x_19 = nI s + cntI (fun z => clkR f z s) (k + 1) := by rw [ex_19]; simp [cntI, b2, c_12, c_12', c_37, c_43, c_81, c_81', c_95, Int32.add_assoc]
                exact ih_73 (k + 1) (by omega) (by omega) _ _ hP hD hS _ (lv_sub hl [1, 0, 2, 3, 4] rfl)
        obtain rfl : x_16 = nI s + cntI (fun z => clkR f z s) 0 := by rw [ex_16]; simp [cntI]
        exact J_73 _ 0 (by omega) (Nat.lt_succ_self _) _ _ hP hD hS _ (lv_sub hl [1, 0, 2, 3, 4] rfl)
      · skip
        refine lv_bipush (v := 22) hx hb dX4_markOf_46 (by decide) ?_
        refine lv_goto (tgt := 53) hx hb dX4_markOf_48 (by decide) ?_
        have hPc := hP.sub (ws' := (lzM m q S ++ lzI G (q 22) 16 t)) [0, 1] rfl
        have hDc := hD.sub (ws' := (lzM m q S ++ lzI G (q 22) 16 t)) [0, 1] (by decide) rfl
        have hFc : ∀ zz : Nat, lzA (lzM m q S ++ lzI G (q 22) 16 t) zz → A zz := lz_free hD [0, 1] rfl
        refine va_callv (va_runV (As := [.int 22]) (rest := []) ⟨hx, hb, hml, hown, hts⟩ (c_X4_began l G m q S t T 22 (hT) (by omega)) (cwV 1 hts gX4_markOf_X4_began rfl rfl rfl (by decide +kernel) ⟨Nat.le_of_ble_eq_true rfl, Nat.le_of_ble_eq_true rfl⟩) (rw_preV hK hPc hDc hP (ci := 4) (q0 := 0) rfl rfl) rfl rfl hl.1 rfl (lv_room (Nat.le_of_ble_eq_true rfl)) dX4_markOf_53 ⟨Nat.zero_le _, Nat.zero_le _⟩) hS (fun q _ h => hFc q h) hFc (fun u_21 t9 H1 locs ht hvm hr_20 hB hz1 hk1 hS => ?_)
        replace hB : va_P G.1 lzC _ t9.heap := hB
        rw [ht] at hB
        obtain ⟨hP, hD⟩ := lz_join (wc := (lzM m q S ++ lzI G (q 22) 16 t)) (wr := ([(q 5, .inl (G.2 0, 64, .inl f))] : va_W)) (w1 := (lzM m q (upd S 23 (nI (T + 1))) ++ lzI G (q 22) 16 (upd t T 22))) hP hD [0, 1] [2] rfl rfl (by decide) (by decide) rfl hk1 hB
        replace hP := hP.sub (ws' := (lzM m q (upd S 23 (nI (T + 1))) ++ (lzI G (q 22) 16 (upd t T 22) ++ (lzI G (q 5) 64 f)))) [1, 2, 0] rfl
        replace hD := hD.sub (ws' := (lzM m q (upd S 23 (nI (T + 1))) ++ (lzI G (q 22) 16 (upd t T 22) ++ (lzI G (q 5) 64 f)))) [1, 2, 0] (by decide) rfl
        clear ht hvm hB hz1 hk1
        generalize H1 = H at hP hS ⊢
        refine lv_aload_n hx hb dX4_markOf_56 rfl (lv_at hl 1 rfl) ?_
        refine lv_bipush (v := 21) hx hb dX4_markOf_57 (by decide) ?_
        have hPc := hP.sub (ws' := (lzM m q (upd S 23 (nI (T + 1))) ++ lzI G (q 22) 16 (upd t T 22))) [0, 1] rfl
        have hDc := hD.sub (ws' := (lzM m q (upd S 23 (nI (T + 1))) ++ lzI G (q 22) 16 (upd t T 22))) [0, 1] (by decide) rfl
        have hFc : ∀ zz : Nat, lzA (lzM m q (upd S 23 (nI (T + 1))) ++ lzI G (q 22) 16 (upd t T 22)) zz → A zz := lz_free hD [0, 1] rfl
        refine va_callv (va_runV (As := [.int 21]) (rest := []) ⟨hx, hb, hml, hown, hts⟩ (c_X4_began l G m q (upd S 23 (nI (T + 1))) (upd t T 22) (T + 1) 21 (rfl) (by omega)) (cwV 1 hts gX4_markOf_X4_began rfl rfl rfl (by decide +kernel) ⟨Nat.le_of_ble_eq_true rfl, Nat.le_of_ble_eq_true rfl⟩) (rw_preV hK hPc hDc hP (ci := 4) (q0 := 0) rfl rfl) rfl rfl hl.1 rfl (lv_room (Nat.le_of_ble_eq_true rfl)) dX4_markOf_59 ⟨Nat.zero_le _, Nat.zero_le _⟩) hS (fun q _ h => hFc q h) hFc (fun u_23 t9 H1 locs ht hvm hr_22 hB hz1 hk1 hS => ?_)
        replace hB : va_P G.1 lzC _ t9.heap := hB
        rw [ht] at hB
        obtain ⟨hP, hD⟩ := lz_join (wc := (lzM m q (upd S 23 (nI (T + 1))) ++ lzI G (q 22) 16 (upd t T 22))) (wr := ([(q 5, .inl (G.2 0, 64, .inl f))] : va_W)) (w1 := (lzM m q (upd S 23 (nI ((T + 1) + 1))) ++ lzI G (q 22) 16 (upd (upd t T 22) (T + 1) 21))) hP hD [0, 1] [2] rfl rfl (by decide) (by decide) rfl hk1 hB
        replace hP := hP.sub (ws' := (lzM m q (upd S 23 (nI ((T + 1) + 1))) ++ (lzI G (q 22) 16 (upd (upd t T 22) (T + 1) 21) ++ (lzI G (q 5) 64 f)))) [1, 2, 0] rfl
        replace hD := hD.sub (ws' := (lzM m q (upd S 23 (nI ((T + 1) + 1))) ++ (lzI G (q 22) 16 (upd (upd t T 22) (T + 1) 21) ++ (lzI G (q 5) 64 f)))) [1, 2, 0] (by decide) rfl
        clear ht hvm hB hz1 hk1
        generalize H1 = H at hP hS ⊢
        refine lv_aload_n hx hb dX4_markOf_62 rfl (lv_at hl 1 rfl) ?_
        refine lv_bipush (v := 20) hx hb dX4_markOf_63 (by decide) ?_
        have hPc := hP.sub (ws' := (lzM m q (upd S 23 (nI ((T + 1) + 1))) ++ lzI G (q 22) 16 (upd (upd t T 22) (T + 1) 21))) [0, 1] rfl
        have hDc := hD.sub (ws' := (lzM m q (upd S 23 (nI ((T + 1) + 1))) ++ lzI G (q 22) 16 (upd (upd t T 22) (T + 1) 21))) [0, 1] (by decide) rfl
        have hFc : ∀ zz : Nat, lzA (lzM m q (upd S 23 (nI ((T + 1) + 1))) ++ lzI G (q 22) 16 (upd (upd t T 22) (T + 1) 21)) zz → A zz := lz_free hD [0, 1] rfl
        refine va_callv (va_runV (As := [.int 20]) (rest := []) ⟨hx, hb, hml, hown, hts⟩ (c_X4_began l G m q (upd S 23 (nI ((T + 1) + 1))) (upd (upd t T 22) (T + 1) 21) ((T + 1) + 1) 20 (rfl) (by omega)) (cwV 1 hts gX4_markOf_X4_began rfl rfl rfl (by decide +kernel) ⟨Nat.le_of_ble_eq_true rfl, Nat.le_of_ble_eq_true rfl⟩) (rw_preV hK hPc hDc hP (ci := 4) (q0 := 0) rfl rfl) rfl rfl hl.1 rfl (lv_room (Nat.le_of_ble_eq_true rfl)) dX4_markOf_65 ⟨Nat.zero_le _, Nat.zero_le _⟩) hS (fun q _ h => hFc q h) hFc (fun u_25 t9 H1 locs ht hvm hr_24 hB hz1 hk1 hS => ?_)
        replace hB : va_P G.1 lzC _ t9.heap := hB
        rw [ht] at hB
        obtain ⟨hP, hD⟩ := lz_join (wc := (lzM m q (upd S 23 (nI ((T + 1) + 1))) ++ lzI G (q 22) 16 (upd (upd t T 22) (T + 1) 21))) (wr := ([(q 5, .inl (G.2 0, 64, .inl f))] : va_W)) (w1 := (lzM m q (upd S 23 (nI (((T + 1) + 1) + 1))) ++ lzI G (q 22) 16 (upd (upd (upd t T 22) (T + 1) 21) ((T + 1) + 1) 20))) hP hD [0, 1] [2] rfl rfl (by decide) (by decide) rfl hk1 hB
        replace hP := hP.sub (ws' := (lzM m q (upd S 23 (nI (((T + 1) + 1) + 1))) ++ (lzI G (q 22) 16 (upd (upd (upd t T 22) (T + 1) 21) ((T + 1) + 1) 20) ++ (lzI G (q 5) 64 f)))) [1, 2, 0] rfl
        replace hD := hD.sub (ws' := (lzM m q (upd S 23 (nI (((T + 1) + 1) + 1))) ++ (lzI G (q 22) 16 (upd (upd (upd t T 22) (T + 1) 21) ((T + 1) + 1) 20) ++ (lzI G (q 5) 64 f)))) [1, 2, 0] (by decide) rfl
        clear ht hvm hB hz1 hk1
        generalize H1 = H at hP hS ⊢
        refine lv_iload_n hx hb dX4_markOf_68 rfl (lv_at hl 2 rfl) ?_
        refine lv_topi (fun x_26 ex_26 => ?_)
        refine lv_istore_n (lv' := [(3, .int x_26), (2, .int (f (4 + 5 * s))), (0, .ref m), (1, .int (nI s))]) hx hb dX4_markOf_69 rfl hl (by decide) rfl (fun ls hl => ?_)
        refine lv_iconst (v := 0) hx hb dX4_markOf_70 (by decide) ?_
        refine lv_istore (lv' := [(4, .int 0), (3, .int x_26), (2, .int (f (4 + 5 * s))), (0, .ref m), (1, .int (nI s))]) hx hb dX4_markOf_71 hl (by decide) rfl (fun ls hl => ?_)
        have J_73 : ∀ (n9 : Nat), ∀ (k : Nat), (k ≤ M) → M - k < n9 → ∀ (H : Heap) (locs : List Loc), va_P G.1 lzC (lzM m q (upd S 23 (nI (((T + 1) + 1) + 1))) ++ (lzI G (q 22) 16 (upd (upd (upd t T 22) (T + 1) 21) ((T + 1) + 1) 20) ++ (lzI G (q 5) 64 f))) H → va_D A (lzM m q (upd S 23 (nI (((T + 1) + 1) + 1))) ++ (lzI G (q 22) 16 (upd (upd (upd t T 22) (T + 1) 21) ((T + 1) + 1) 20) ++ (lzI G (q 5) 64 f))) → va_S A ss.heap H locs → ∀ ls : Array Slot, lv_has ls 5 [(3, .int (nI s + cntI (fun z => clkR f z s) k)), (4, .int (nI k)), (2, .int (f (4 + 5 * s))), (0, .ref m), (1, .int (nI s))] → W pp l ee ({ frames := 3, cells := 0, slots := 0, locals := 68 }) ss mm ([.ref m, .int (nI s)] : List Value).toArray bl me cd H locs 0 0 (MQ bl (va_Qi (S := Unit) (fun (r : Int32) (_ : Unit) => r = mmV (f (4 + 5 * s)) (nI s) (f (4 + 5 * s + 1)) (nI s + cntI (fun z => clkR f z s) M)) (rwB G (fun _ : Unit => (lzM m q (upd S 23 (nI (T + (mmL (f (4 + 5 * s))).length))) ++ (lzI G (q 22) 16 (trL t T (mmL (f (4 + 5 * s)))) ++ (lzI G (q 5) 64 f))))) A) ([.ref m, .int (nI s)] : List Value).toArray ss 0 0 A) (F0 mm 73 ls []) := by
          intro n9
          induction n9 with
          | zero => intro k hk hn; exact absurd hn (Nat.not_lt_zero _)
          | succ n9 ih_73 =>
            intro k hk hn_73 H locs hP hD hS ls hl
            refine lv_iload hx hb dX4_markOf_73 (lv_at hl 1 rfl) ?_
            refine lv_aload_n hx hb dX4_markOf_75 rfl (lv_at hl 3 rfl) ?_
            refine lz_get (G := G) (ci := 4) (v := .ref (q 5)) (C := RX4) (T := TX4) (N := 24) hx hb hu_wsX40 (fun _ h9 => h9) hown hK hP 0 rfl rfl 5 (by decide) hw1 rfl rfl dX4_markOf_76 ?_
            refine lv_iconst (v := 3) hx hb dX4_markOf_79 (by decide) ?_
            refine lz_iald (f := f) hx hb hK hP 2 rfl 3 (by omega) (Nat.le_of_ble_eq_true rfl) dX4_markOf_80 ?_
            refine lv_icmp_ge (tgt := 111) hx hb dX4_markOf_81 (by decide) (fun c_81 => ?_) (fun c_81 => ?_)
            · skip
              have c_81' := Int32.not_lt.mpr c_81
              have hk2 : M ≤ k := lz_ge hM c_81 (by omega) (by omega)
              have hk3 : k = M := by omega
              refine lv_iload_n hx hb dX4_markOf_111 rfl (lv_at hl 2 rfl) ?_
              refine lv_iconst (v := 1) hx hb dX4_markOf_112 (by decide) ?_
              refine lv_icmp_ne (tgt := 120) hx hb dX4_markOf_113 (by decide) (fun c_113 => ?_) (fun c_113 => ?_)
              · skip
                refine lv_iload_n hx hb dX4_markOf_120 rfl (lv_at hl 2 rfl) ?_
                refine lv_iconst (v := 3) hx hb dX4_markOf_121 (by decide) ?_
                refine lv_icmp_ne (tgt := 133) hx hb dX4_markOf_122 (by decide) (fun c_122 => ?_) (fun c_122 => ?_)
                · skip
                  exact absurd c_43 c_122
                · skip
                  refine lv_iload_n hx hb dX4_markOf_125 rfl (lv_at hl 0 rfl) ?_
                  refine lv_sipush (v := 1000) hx hb dX4_markOf_126 (by decide) ?_
                  refine lv_isub hx hb dX4_markOf_129 ?_
                  refine lv_goto (tgt := 136) hx hb dX4_markOf_130 (by decide) ?_
                  exact rw_iret (S := Unit) (G := G) (Wd := fun _ : Unit => (lzM m q (upd S 23 (nI (T + (mmL (f (4 + 5 * s))).length))) ++ (lzI G (q 22) 16 (trL t T (mmL (f (4 + 5 * s)))) ++ (lzI G (q 5) 64 f)))) () hx hb hr hlk dX4_markOf_136 hS (by show va_P G.1 lzC (lzM m q (upd S 23 (nI (T + (mmL (f (4 + 5 * s))).length))) ++ (lzI G (q 22) 16 (trL t T (mmL (f (4 + 5 * s)))) ++ lzI G (q 5) 64 f)) H; unfold mmL; rw [if_neg (Int32.not_le.mpr c_12)]; first | (rw [if_pos c_37]; exact hP) | (rw [if_neg c_37, if_pos c_43]; exact hP) | (rw [if_neg c_37, if_neg c_43]; exact hP)) (by rw [hk3]; unfold mmV; rw [if_neg (Int32.not_le.mpr c_12)]; first | rw [if_pos c_37] | rw [if_neg c_37, if_pos c_43] | rw [if_neg c_37, if_neg c_43])
              · skip
                exact absurd c_113 c_37
            · skip
              have c_81' := Int32.not_le.mp c_81
              have hk2 : k < M := lz_lt hM c_81 (by omega) (by omega)
              refine lv_iload_n hx hb dX4_markOf_84 rfl (lv_at hl 0 rfl) ?_
              refine lv_aload_n hx hb dX4_markOf_85 rfl (lv_at hl 3 rfl) ?_
              refine lz_get (G := G) (ci := 4) (v := .ref (q 5)) (C := RX4) (T := TX4) (N := 24) hx hb hu_wsX40 (fun _ h9 => h9) hown hK hP 0 rfl rfl 5 (by decide) hw1 rfl rfl dX4_markOf_86 ?_
              refine lv_iload hx hb dX4_markOf_89 (lv_at hl 1 rfl) ?_
              refine lv_iload_n hx hb dX4_markOf_91 rfl (lv_at hl 4 rfl) ?_
              have hPc := hP.sub (ws' := lzI G (q 5) 64 f) [2] rfl
              refine ro_calli (va_runS (As := [.ref (q 5), .int (nI k), .int (nI s)]) (rest := [.int (nI s + cntI (fun z => clkR f z s) k)]) ⟨hx, hb, hml, hown, hts⟩ (c_X4_clicksIt l G (q 5) f k s (by omega) (hs)) (cwS 3 hts gX4_markOf_X4_clicksIt rfl rfl rfl (by decide +kernel) ⟨Nat.le_of_ble_eq_true rfl, Nat.le_of_ble_eq_true rfl⟩) (ro_pre hK hPc) rfl rfl hl.1 rfl (lv_room (Nat.le_of_ble_eq_true rfl)) dX4_markOf_92 ⟨Nat.zero_le _, Nat.zero_le _⟩) (fun r_27 hr_27 => ?_)
              refine lv_if_eq (tgt := 102) hx hb dX4_markOf_95 (by decide) (fun c_95 => ?_) (fun c_95 => ?_)
              · skip
                have c_95 := b2_z hr_27 c_95
                refine lv_iconst (v := 0) hx hb dX4_markOf_102 (by decide) ?_
                refine lv_iadd hx hb dX4_markOf_103 ?_
                refine lv_topi (fun x_28 ex_28 => ?_)
                refine lv_istore_n (lv' := [(3, .int x_28), (4, .int (nI k)), (2, .int (f (4 + 5 * s))), (0, .ref m), (1, .int (nI s))]) hx hb dX4_markOf_104 rfl hl (by decide) rfl (fun ls hl => ?_)
                refine lv_iinc (v := nI (k + 1)) (lv' := [(4, .int (nI (k + 1))), (3, .int x_28), (2, .int (f (4 + 5 * s))), (0, .ref m), (1, .int (nI s))]) hx hb dX4_markOf_105 hl (k := 1) rfl (nI_1 _) (by decide) rfl (fun ls hl => ?_)
                refine lv_goto (tgt := 73) hx hb dX4_markOf_108 (by decide) ?_
                obtain rfl : x_28 = nI s + cntI (fun z => clkR f z s) (k + 1) := by rw [ex_28]; simp [cntI, b2, c_12, c_12', c_37, c_43, c_81, c_81', c_95, Int32.add_assoc]
                exact ih_73 (k + 1) (by omega) (by omega) _ _ hP hD hS _ (lv_sub hl [1, 0, 2, 3, 4] rfl)
              · skip
                have c_95 := b2_n hr_27 c_95
                refine lv_iconst (v := 1) hx hb dX4_markOf_98 (by decide) ?_
                refine lv_goto (tgt := 103) hx hb dX4_markOf_99 (by decide) ?_
                refine lv_iadd hx hb dX4_markOf_103 ?_
                refine lv_topi (fun x_29 ex_29 => ?_)
                refine lv_istore_n (lv' := [(3, .int x_29), (4, .int (nI k)), (2, .int (f (4 + 5 * s))), (0, .ref m), (1, .int (nI s))]) hx hb dX4_markOf_104 rfl hl (by decide) rfl (fun ls hl => ?_)
                refine lv_iinc (v := nI (k + 1)) (lv' := [(4, .int (nI (k + 1))), (3, .int x_29), (2, .int (f (4 + 5 * s))), (0, .ref m), (1, .int (nI s))]) hx hb dX4_markOf_105 hl (k := 1) rfl (nI_1 _) (by decide) rfl (fun ls hl => ?_)
                refine lv_goto (tgt := 73) hx hb dX4_markOf_108 (by decide) ?_
                obtain rfl : x_29 = nI s + cntI (fun z => clkR f z s) (k + 1) := by rw [ex_29]; simp [cntI, b2, c_12, c_12', c_37, c_43, c_81, c_81', c_95, Int32.add_assoc]
                exact ih_73 (k + 1) (by omega) (by omega) _ _ hP hD hS _ (lv_sub hl [1, 0, 2, 3, 4] rfl)
        obtain rfl : x_26 = nI s + cntI (fun z => clkR f z s) 0 := by rw [ex_26]; simp [cntI]
        exact J_73 _ 0 (by omega) (Nat.lt_succ_self _) _ _ hP hD hS _ (lv_sub hl [1, 0, 2, 3, 4] rfl)
  · skip
    have c_12' := Int32.not_lt.mp c_12
    refine lv_aload_n hx hb dX4_markOf_15 rfl (lv_at hl 1 rfl) ?_
    refine lv_bipush (v := 23) hx hb dX4_markOf_16 (by decide) ?_
    have hPc := hP.sub (ws' := (lzM m q S ++ lzI G (q 22) 16 t)) [0, 1] rfl
    have hDc := hD.sub (ws' := (lzM m q S ++ lzI G (q 22) 16 t)) [0, 1] (by decide) rfl
    have hFc : ∀ zz : Nat, lzA (lzM m q S ++ lzI G (q 22) 16 t) zz → A zz := lz_free hD [0, 1] rfl
    refine va_callv (va_runV (As := [.int 23]) (rest := []) ⟨hx, hb, hml, hown, hts⟩ (c_X4_began l G m q S t T 23 (hT) (by omega)) (cwV 1 hts gX4_markOf_X4_began rfl rfl rfl (by decide +kernel) ⟨Nat.le_of_ble_eq_true rfl, Nat.le_of_ble_eq_true rfl⟩) (rw_preV hK hPc hDc hP (ci := 4) (q0 := 0) rfl rfl) rfl rfl hl.1 rfl (lv_room (Nat.le_of_ble_eq_true rfl)) dX4_markOf_18 ⟨Nat.zero_le _, Nat.zero_le _⟩) hS (fun q _ h => hFc q h) hFc (fun u_31 t9 H1 locs ht hvm hr_30 hB hz1 hk1 hS => ?_)
    replace hB : va_P G.1 lzC _ t9.heap := hB
    rw [ht] at hB
    obtain ⟨hP, hD⟩ := lz_join (wc := (lzM m q S ++ lzI G (q 22) 16 t)) (wr := ([(q 5, .inl (G.2 0, 64, .inl f))] : va_W)) (w1 := (lzM m q (upd S 23 (nI (T + 1))) ++ lzI G (q 22) 16 (upd t T 23))) hP hD [0, 1] [2] rfl rfl (by decide) (by decide) rfl hk1 hB
    replace hP := hP.sub (ws' := (lzM m q (upd S 23 (nI (T + 1))) ++ (lzI G (q 22) 16 (upd t T 23) ++ (lzI G (q 5) 64 f)))) [1, 2, 0] rfl
    replace hD := hD.sub (ws' := (lzM m q (upd S 23 (nI (T + 1))) ++ (lzI G (q 22) 16 (upd t T 23) ++ (lzI G (q 5) 64 f)))) [1, 2, 0] (by decide) rfl
    clear ht hvm hB hz1 hk1
    generalize H1 = H at hP hS ⊢
    refine lv_aload_n hx hb dX4_markOf_21 rfl (lv_at hl 1 rfl) ?_
    refine lv_bipush (v := 20) hx hb dX4_markOf_22 (by decide) ?_
    have hPc := hP.sub (ws' := (lzM m q (upd S 23 (nI (T + 1))) ++ lzI G (q 22) 16 (upd t T 23))) [0, 1] rfl
    have hDc := hD.sub (ws' := (lzM m q (upd S 23 (nI (T + 1))) ++ lzI G (q 22) 16 (upd t T 23))) [0, 1] (by decide) rfl
    have hFc : ∀ zz : Nat, lzA (lzM m q (upd S 23 (nI (T + 1))) ++ lzI G (q 22) 16 (upd t T 23)) zz → A zz := lz_free hD [0, 1] rfl
    refine va_callv (va_runV (As := [.int 20]) (rest := []) ⟨hx, hb, hml, hown, hts⟩ (c_X4_began l G m q (upd S 23 (nI (T + 1))) (upd t T 23) (T + 1) 20 (rfl) (by omega)) (cwV 1 hts gX4_markOf_X4_began rfl rfl rfl (by decide +kernel) ⟨Nat.le_of_ble_eq_true rfl, Nat.le_of_ble_eq_true rfl⟩) (rw_preV hK hPc hDc hP (ci := 4) (q0 := 0) rfl rfl) rfl rfl hl.1 rfl (lv_room (Nat.le_of_ble_eq_true rfl)) dX4_markOf_24 ⟨Nat.zero_le _, Nat.zero_le _⟩) hS (fun q _ h => hFc q h) hFc (fun u_33 t9 H1 locs ht hvm hr_32 hB hz1 hk1 hS => ?_)
    replace hB : va_P G.1 lzC _ t9.heap := hB
    rw [ht] at hB
    obtain ⟨hP, hD⟩ := lz_join (wc := (lzM m q (upd S 23 (nI (T + 1))) ++ lzI G (q 22) 16 (upd t T 23))) (wr := ([(q 5, .inl (G.2 0, 64, .inl f))] : va_W)) (w1 := (lzM m q (upd S 23 (nI ((T + 1) + 1))) ++ lzI G (q 22) 16 (upd (upd t T 23) (T + 1) 20))) hP hD [0, 1] [2] rfl rfl (by decide) (by decide) rfl hk1 hB
    replace hP := hP.sub (ws' := (lzM m q (upd S 23 (nI ((T + 1) + 1))) ++ (lzI G (q 22) 16 (upd (upd t T 23) (T + 1) 20) ++ (lzI G (q 5) 64 f)))) [1, 2, 0] rfl
    replace hD := hD.sub (ws' := (lzM m q (upd S 23 (nI ((T + 1) + 1))) ++ (lzI G (q 22) 16 (upd (upd t T 23) (T + 1) 20) ++ (lzI G (q 5) 64 f)))) [1, 2, 0] (by decide) rfl
    clear ht hvm hB hz1 hk1
    generalize H1 = H at hP hS ⊢
    refine lv_iload_n hx hb dX4_markOf_27 rfl (lv_at hl 2 rfl) ?_
    refine lv_aload_n hx hb dX4_markOf_28 rfl (lv_at hl 1 rfl) ?_
    refine lv_iload_n hx hb dX4_markOf_29 rfl (lv_at hl 2 rfl) ?_
    have hFc : ∀ zz : Nat, lzA (lzM m q (upd S 23 (nI ((T + 1) + 1))) ++ (lzI G (q 22) 16 (upd (upd t T 23) (T + 1) 20) ++ (lzI G (q 5) 64 f))) zz → A zz := lz_free hD [0, 1, 2] rfl
    refine va_calli (va_runV (As := [.int (nI s)]) (rest := [.int (nI s)]) ⟨hx, hb, hml, hown, hts⟩ (c_X4_unknownSize l G m q (upd S 23 (nI ((T + 1) + 1))) (upd (upd t T 23) (T + 1) 20) f s ((T + 1) + 1) (hs) (rfl) (by omega)) (cwV 1 hts gX4_markOf_X4_unknownSize rfl rfl rfl (by decide +kernel) ⟨Nat.le_of_ble_eq_true rfl, Nat.le_of_ble_eq_true rfl⟩) (rw_preV hK hP hD hP (ci := 4) (q0 := 0) rfl rfl) rfl rfl hl.1 rfl (lv_room (Nat.le_of_ble_eq_true rfl)) dX4_markOf_30 ⟨Nat.zero_le _, Nat.zero_le _⟩) hS (fun q _ h => hFc q h) hFc (fun r_34 u_35 t9 H1 locs ht hvm hr_34 hB hz1 hk1 hS => ?_)
    replace hB : va_P G.1 lzC _ t9.heap := hB
    rw [ht] at hB
    obtain ⟨hP, hD⟩ := lz_join (wc := (lzM m q (upd S 23 (nI ((T + 1) + 1))) ++ (lzI G (q 22) 16 (upd (upd t T 23) (T + 1) 20) ++ (lzI G (q 5) 64 f)))) (wr := ([] : va_W)) (w1 := (lzM m q (upd S 23 (nI (((T + 1) + 1) + (usL (f (4 + 5 * s))).length))) ++ (lzI G (q 22) 16 (trL (upd (upd t T 23) (T + 1) 20) ((T + 1) + 1) (usL (f (4 + 5 * s)))) ++ (lzI G (q 5) 64 f)))) hP hD [0, 1, 2] [] rfl rfl (by decide) (by decide) rfl hk1 hB
    replace hP := hP.sub (ws' := (lzM m q (upd S 23 (nI (((T + 1) + 1) + (usL (f (4 + 5 * s))).length))) ++ (lzI G (q 22) 16 (trL (upd (upd t T 23) (T + 1) 20) ((T + 1) + 1) (usL (f (4 + 5 * s)))) ++ (lzI G (q 5) 64 f)))) [0, 1, 2] rfl
    replace hD := hD.sub (ws' := (lzM m q (upd S 23 (nI (((T + 1) + 1) + (usL (f (4 + 5 * s))).length))) ++ (lzI G (q 22) 16 (trL (upd (upd t T 23) (T + 1) 20) ((T + 1) + 1) (usL (f (4 + 5 * s)))) ++ (lzI G (q 5) 64 f)))) [0, 1, 2] (by decide) rfl
    clear ht hvm hB hz1 hk1
    generalize H1 = H at hP hS ⊢
    refine lz_top (y := usV (f (4 + 5 * s)) (f (4 + 5 * s + 1))) hr_34 ?_
    refine lv_isub hx hb dX4_markOf_33 ?_
    exact rw_iret (S := Unit) (G := G) (Wd := fun _ : Unit => (lzM m q (upd S 23 (nI (T + (mmL (f (4 + 5 * s))).length))) ++ (lzI G (q 22) 16 (trL t T (mmL (f (4 + 5 * s)))) ++ (lzI G (q 5) 64 f)))) () hx hb hr hlk dX4_markOf_34 hS (by show va_P G.1 lzC (lzM m q (upd S 23 (nI (T + (mmL (f (4 + 5 * s))).length))) ++ (lzI G (q 22) 16 (trL t T (mmL (f (4 + 5 * s)))) ++ lzI G (q 5) 64 f)) H; unfold mmL; rw [if_pos c_12', show T + (23 :: 20 :: usL (f (4 + 5 * s))).length = T + 1 + 1 + (usL (f (4 + 5 * s))).length from by simp; omega]; exact hP) (by unfold mmV; rw [if_pos c_12'])
set_option maxHeartbeats 4000000 in
set_option maxRecDepth 100000 in
theorem c_X4_sizeOf (l : Launch) (G : lzG) (m : Nat) (q : Nat → Nat) (S : Nat → Int32) (t f : Nat → Int32) (s N M T : Nat) (hs : s < 8) (hM : f 3 = nI M) (hM5 : M ≤ 5) (hT : S 23 = nI T) (hT16 : T + 9 ≤ 16) : Met l yX4_sizeOf wsX4_sizeOf ({ frames := 4, cells := 0, slots := 0, locals := 92 }) (va_Pc [.ref m, .int (nI s)] (rwP G (lzM m q S ++ (lzI G (q 22) 16 t ++ (lzI G (q 5) 64 f))))) (va_Qi (S := Unit) (fun (r : Int32) (_ : Unit) => r = msV (f (4 + 5 * s)) (nI s) (f (4 + 5 * s + 1)) (nI s + cntI (fun z => clkR f z s) M)) (rwB G (fun _ : Unit => (lzM m q (upd S 23 (nI (T + (msL (f (4 + 5 * s))).length))) ++ (lzI G (q 22) 16 (trL t T (msL (f (4 + 5 * s)))) ++ (lzI G (q 5) 64 f))))) (lzA (lzM m q S ++ (lzI G (q 22) 16 t ++ (lzI G (q 5) 64 f))))) 0 0 (lzA (lzM m q S ++ (lzI G (q 22) 16 t ++ (lzI G (q 5) 64 f)))) := by
  refine rw_start (S := Unit) (cc := cX4_sizeOf) (maxL := 4) (ret := (some .int)) (by decide) rfl (Nat.le_of_ble_eq_true rfl) ?_
  intro pp ee ss mm bl me cd A hx hb hr hlk hml hts hown hP hK hD hAe hS ls hl
  have hA0 : ∀ zz : Nat, lzA (lzM m q S ++ (lzI G (q 22) 16 t ++ (lzI G (q 5) 64 f))) zz → A zz := fun zz h9 => by rw [hAe]; exact h9
  rw [← hAe]
  clear hAe
  have hown : ss.vm.findClass RX4 = some mm.cls := hown
  have hw1 := hts (.fieldLink RX4 19 "LampSquaresModel" "door" "[I") (List.mem_of_getElem? (i := 1) rfl)
  have hu_wsX40 : ∀ w ∈ wsX40, w.before ([.ref m, .int (nI s)] : List Value).toArray ss = true := fun w h9 => hts w (List.mem_cons_of_mem _ (List.mem_append_right _ h9))
  have hl : lv_has ls 4 [(0, .ref m), (1, .int (nI s))] := hl
  refine lv_aload_n hx hb dX4_sizeOf_0 rfl (lv_at hl 0 rfl) ?_
  refine lz_get (G := G) (ci := 4) (v := .ref (q 5)) (C := RX4) (T := TX4) (N := 24) hx hb hu_wsX40 (fun _ h9 => h9) hown hK hP 0 rfl rfl 5 (by decide) hw1 rfl rfl dX4_sizeOf_1 ?_
  refine lv_iload_n hx hb dX4_sizeOf_4 rfl (lv_at hl 1 rfl) ?_
  refine lv_iconst (v := 0) hx hb dX4_sizeOf_5 (by decide) ?_
  have hPc := hP.sub (ws' := lzI G (q 5) 64 f) [2] rfl
  refine ro_calli (va_runS (As := [.ref (q 5), .int (nI s), .int 0]) (rest := []) ⟨hx, hb, hml, hown, hts⟩ (c_X4_of l G (q 5) f s 0 (by omega) (by decide)) (cwS 3 hts gX4_sizeOf_X4_of rfl rfl rfl (by decide +kernel) ⟨Nat.le_of_ble_eq_true rfl, Nat.le_of_ble_eq_true rfl⟩) (ro_pre hK hPc) rfl rfl hl.1 rfl (lv_room (Nat.le_of_ble_eq_true rfl)) dX4_sizeOf_6 ⟨Nat.zero_le _, Nat.zero_le _⟩) (fun r_1 hr_1 => ?_)
  refine lz_top (y := f (4 + 5 * s)) hr_1 ?_
  refine lv_istore_n (lv' := [(2, .int (f (4 + 5 * s))), (0, .ref m), (1, .int (nI s))]) hx hb dX4_sizeOf_9 rfl hl (by decide) rfl (fun ls hl => ?_)
  refine lv_iload_n hx hb dX4_sizeOf_10 rfl (lv_at hl 0 rfl) ?_
  refine lv_iconst (v := 4) hx hb dX4_sizeOf_11 (by decide) ?_
  refine lv_icmp_lt (tgt := 21) hx hb dX4_sizeOf_12 (by decide) (fun c_12 => ?_) (fun c_12 => ?_)
  · skip
    have c_12' := Int32.not_le.mpr c_12
    refine lv_iload_n hx hb dX4_sizeOf_21 rfl (lv_at hl 0 rfl) ?_
    refine lv_iconst (v := 2) hx hb dX4_sizeOf_22 (by decide) ?_
    refine lv_icmp_ne (tgt := 32) hx hb dX4_sizeOf_23 (by decide) (fun c_23 => ?_) (fun c_23 => ?_)
    · skip
      refine lv_aload_n hx hb dX4_sizeOf_32 rfl (lv_at hl 1 rfl) ?_
      refine lv_bipush (v := 11) hx hb dX4_sizeOf_33 (by decide) ?_
      have hPc := hP.sub (ws' := (lzM m q S ++ lzI G (q 22) 16 t)) [0, 1] rfl
      have hDc := hD.sub (ws' := (lzM m q S ++ lzI G (q 22) 16 t)) [0, 1] (by decide) rfl
      have hFc : ∀ zz : Nat, lzA (lzM m q S ++ lzI G (q 22) 16 t) zz → A zz := lz_free hD [0, 1] rfl
      refine va_callv (va_runV (As := [.int 11]) (rest := []) ⟨hx, hb, hml, hown, hts⟩ (c_X4_began l G m q S t T 11 (hT) (by omega)) (cwV 1 hts gX4_sizeOf_X4_began rfl rfl rfl (by decide +kernel) ⟨Nat.le_of_ble_eq_true rfl, Nat.le_of_ble_eq_true rfl⟩) (rw_preV hK hPc hDc hP (ci := 4) (q0 := 0) rfl rfl) rfl rfl hl.1 rfl (lv_room (Nat.le_of_ble_eq_true rfl)) dX4_sizeOf_35 ⟨Nat.zero_le _, Nat.zero_le _⟩) hS (fun q _ h => hFc q h) hFc (fun u_3 t9 H1 locs ht hvm hr_2 hB hz1 hk1 hS => ?_)
      replace hB : va_P G.1 lzC _ t9.heap := hB
      rw [ht] at hB
      obtain ⟨hP, hD⟩ := lz_join (wc := (lzM m q S ++ lzI G (q 22) 16 t)) (wr := ([(q 5, .inl (G.2 0, 64, .inl f))] : va_W)) (w1 := (lzM m q (upd S 23 (nI (T + 1))) ++ lzI G (q 22) 16 (upd t T 11))) hP hD [0, 1] [2] rfl rfl (by decide) (by decide) rfl hk1 hB
      replace hP := hP.sub (ws' := (lzM m q (upd S 23 (nI (T + 1))) ++ (lzI G (q 22) 16 (upd t T 11) ++ (lzI G (q 5) 64 f)))) [1, 2, 0] rfl
      replace hD := hD.sub (ws' := (lzM m q (upd S 23 (nI (T + 1))) ++ (lzI G (q 22) 16 (upd t T 11) ++ (lzI G (q 5) 64 f)))) [1, 2, 0] (by decide) rfl
      clear ht hvm hB hz1 hk1
      generalize H1 = H at hP hS ⊢
      refine lv_aload_n hx hb dX4_sizeOf_38 rfl (lv_at hl 1 rfl) ?_
      refine lv_iload_n hx hb dX4_sizeOf_39 rfl (lv_at hl 2 rfl) ?_
      have hFc : ∀ zz : Nat, lzA (lzM m q (upd S 23 (nI (T + 1))) ++ (lzI G (q 22) 16 (upd t T 11) ++ (lzI G (q 5) 64 f))) zz → A zz := lz_free hD [0, 1, 2] rfl
      refine va_calli (va_runV (As := [.int (nI s)]) (rest := []) ⟨hx, hb, hml, hown, hts⟩ (c_X4_plainSize l G m q (upd S 23 (nI (T + 1))) (upd t T 11) f s (T + 1) (hs) (rfl) (by omega)) (cwV 1 hts gX4_sizeOf_X4_plainSize rfl rfl rfl (by decide +kernel) ⟨Nat.le_of_ble_eq_true rfl, Nat.le_of_ble_eq_true rfl⟩) (rw_preV hK hP hD hP (ci := 4) (q0 := 0) rfl rfl) rfl rfl hl.1 rfl (lv_room (Nat.le_of_ble_eq_true rfl)) dX4_sizeOf_40 ⟨Nat.zero_le _, Nat.zero_le _⟩) hS (fun q _ h => hFc q h) hFc (fun r_4 u_5 t9 H1 locs ht hvm hr_4 hB hz1 hk1 hS => ?_)
      replace hB : va_P G.1 lzC _ t9.heap := hB
      rw [ht] at hB
      obtain ⟨hP, hD⟩ := lz_join (wc := (lzM m q (upd S 23 (nI (T + 1))) ++ (lzI G (q 22) 16 (upd t T 11) ++ (lzI G (q 5) 64 f)))) (wr := ([] : va_W)) (w1 := (lzM m q (upd S 23 (nI ((T + 1) + 1))) ++ (lzI G (q 22) 16 (upd (upd t T 11) (T + 1) 10) ++ (lzI G (q 5) 64 f)))) hP hD [0, 1, 2] [] rfl rfl (by decide) (by decide) rfl hk1 hB
      replace hP := hP.sub (ws' := (lzM m q (upd S 23 (nI ((T + 1) + 1))) ++ (lzI G (q 22) 16 (upd (upd t T 11) (T + 1) 10) ++ (lzI G (q 5) 64 f)))) [0, 1, 2] rfl
      replace hD := hD.sub (ws' := (lzM m q (upd S 23 (nI ((T + 1) + 1))) ++ (lzI G (q 22) 16 (upd (upd t T 11) (T + 1) 10) ++ (lzI G (q 5) 64 f)))) [0, 1, 2] (by decide) rfl
      clear ht hvm hB hz1 hk1
      generalize H1 = H at hP hS ⊢
      refine lz_top (y := f (4 + 5 * s + 1)) hr_4 ?_
      refine lv_istore_n (lv' := [(3, .int (f (4 + 5 * s + 1))), (2, .int (f (4 + 5 * s))), (0, .ref m), (1, .int (nI s))]) hx hb dX4_sizeOf_43 rfl hl (by decide) rfl (fun ls hl => ?_)
      refine lv_iload_n hx hb dX4_sizeOf_44 rfl (lv_at hl 0 rfl) ?_
      refine lv_aload_n hx hb dX4_sizeOf_45 rfl (lv_at hl 2 rfl) ?_
      refine lv_iload_n hx hb dX4_sizeOf_46 rfl (lv_at hl 3 rfl) ?_
      have hFc : ∀ zz : Nat, lzA (lzM m q (upd S 23 (nI ((T + 1) + 1))) ++ (lzI G (q 22) 16 (upd (upd t T 11) (T + 1) 10) ++ (lzI G (q 5) 64 f))) zz → A zz := lz_free hD [0, 1, 2] rfl
      refine va_calli (va_runV (As := [.int (nI s)]) (rest := [.int (f (4 + 5 * s + 1))]) ⟨hx, hb, hml, hown, hts⟩ (c_X4_markOf l G m q (upd S 23 (nI ((T + 1) + 1))) (upd (upd t T 11) (T + 1) 10) f s N M ((T + 1) + 1) (hs) (hM) (hM5) (rfl) (by omega)) (cwV 1 hts gX4_sizeOf_X4_markOf rfl rfl rfl (by decide +kernel) ⟨Nat.le_of_ble_eq_true rfl, Nat.le_of_ble_eq_true rfl⟩) (rw_preV hK hP hD hP (ci := 4) (q0 := 0) rfl rfl) rfl rfl hl.1 rfl (lv_room (Nat.le_of_ble_eq_true rfl)) dX4_sizeOf_47 ⟨Nat.zero_le _, Nat.zero_le _⟩) hS (fun q _ h => hFc q h) hFc (fun r_6 u_7 t9 H1 locs ht hvm hr_6 hB hz1 hk1 hS => ?_)
      replace hB : va_P G.1 lzC _ t9.heap := hB
      rw [ht] at hB
      obtain ⟨hP, hD⟩ := lz_join (wc := (lzM m q (upd S 23 (nI ((T + 1) + 1))) ++ (lzI G (q 22) 16 (upd (upd t T 11) (T + 1) 10) ++ (lzI G (q 5) 64 f)))) (wr := ([] : va_W)) (w1 := (lzM m q (upd S 23 (nI (((T + 1) + 1) + (mmL (f (4 + 5 * s))).length))) ++ (lzI G (q 22) 16 (trL (upd (upd t T 11) (T + 1) 10) ((T + 1) + 1) (mmL (f (4 + 5 * s)))) ++ (lzI G (q 5) 64 f)))) hP hD [0, 1, 2] [] rfl rfl (by decide) (by decide) rfl hk1 hB
      replace hP := hP.sub (ws' := (lzM m q (upd S 23 (nI (((T + 1) + 1) + (mmL (f (4 + 5 * s))).length))) ++ (lzI G (q 22) 16 (trL (upd (upd t T 11) (T + 1) 10) ((T + 1) + 1) (mmL (f (4 + 5 * s)))) ++ (lzI G (q 5) 64 f)))) [0, 1, 2] rfl
      replace hD := hD.sub (ws' := (lzM m q (upd S 23 (nI (((T + 1) + 1) + (mmL (f (4 + 5 * s))).length))) ++ (lzI G (q 22) 16 (trL (upd (upd t T 11) (T + 1) 10) ((T + 1) + 1) (mmL (f (4 + 5 * s)))) ++ (lzI G (q 5) 64 f)))) [0, 1, 2] (by decide) rfl
      clear ht hvm hB hz1 hk1
      generalize H1 = H at hP hS ⊢
      refine lz_top (y := mmV (f (4 + 5 * s)) (nI s) (f (4 + 5 * s + 1)) (nI s + cntI (fun z => clkR f z s) M)) hr_6 ?_
      refine lv_iadd hx hb dX4_sizeOf_50 ?_
      refine lv_istore_n (lv' := [(3, .int ((f (4 + 5 * s + 1)) + (mmV (f (4 + 5 * s)) (nI s) (f (4 + 5 * s + 1)) (nI s + cntI (fun z => clkR f z s) M)))), (2, .int (f (4 + 5 * s))), (0, .ref m), (1, .int (nI s))]) hx hb dX4_sizeOf_51 rfl hl (by decide) rfl (fun ls hl => ?_)
      refine lv_iload_n hx hb dX4_sizeOf_52 rfl (lv_at hl 1 rfl) ?_
      refine lv_iconst (v := 2) hx hb dX4_sizeOf_53 (by decide) ?_
      refine lv_icmp_ne (tgt := 62) hx hb dX4_sizeOf_54 (by decide) (fun c_54 => ?_) (fun c_54 => ?_)
      · skip
        refine lv_iload_n hx hb dX4_sizeOf_62 rfl (lv_at hl 0 rfl) ?_
        exact rw_iret (S := Unit) (G := G) (Wd := fun _ : Unit => (lzM m q (upd S 23 (nI (T + (msL (f (4 + 5 * s))).length))) ++ (lzI G (q 22) 16 (trL t T (msL (f (4 + 5 * s)))) ++ (lzI G (q 5) 64 f)))) () hx hb hr hlk dX4_sizeOf_63 hS (by show va_P G.1 lzC (lzM m q (upd S 23 (nI (T + (msL (f (4 + 5 * s))).length))) ++ (lzI G (q 22) 16 (trL t T (msL (f (4 + 5 * s)))) ++ lzI G (q 5) 64 f)) H; unfold msL; rw [if_neg (Int32.not_le.mpr c_12)]; first | (rw [if_pos c_23, show T + (([12, 11, 10] : List Int32) ++ mmL (f (4 + 5 * s))).length = T + 1 + 1 + 1 + (mmL (f (4 + 5 * s))).length from by simp; omega]; exact hP) | (rw [if_neg c_23, show T + (([11, 10] : List Int32) ++ mmL (f (4 + 5 * s))).length = T + 1 + 1 + (mmL (f (4 + 5 * s))).length from by simp; omega]; exact hP)) (by unfold msV; rw [if_neg (Int32.not_le.mpr c_12)]; first | rw [if_pos c_23] | rw [if_neg c_23])
      · skip
        exact absurd c_54 c_23
    · skip
      refine lv_aload_n hx hb dX4_sizeOf_26 rfl (lv_at hl 1 rfl) ?_
      refine lv_bipush (v := 12) hx hb dX4_sizeOf_27 (by decide) ?_
      have hPc := hP.sub (ws' := (lzM m q S ++ lzI G (q 22) 16 t)) [0, 1] rfl
      have hDc := hD.sub (ws' := (lzM m q S ++ lzI G (q 22) 16 t)) [0, 1] (by decide) rfl
      have hFc : ∀ zz : Nat, lzA (lzM m q S ++ lzI G (q 22) 16 t) zz → A zz := lz_free hD [0, 1] rfl
      refine va_callv (va_runV (As := [.int 12]) (rest := []) ⟨hx, hb, hml, hown, hts⟩ (c_X4_began l G m q S t T 12 (hT) (by omega)) (cwV 1 hts gX4_sizeOf_X4_began rfl rfl rfl (by decide +kernel) ⟨Nat.le_of_ble_eq_true rfl, Nat.le_of_ble_eq_true rfl⟩) (rw_preV hK hPc hDc hP (ci := 4) (q0 := 0) rfl rfl) rfl rfl hl.1 rfl (lv_room (Nat.le_of_ble_eq_true rfl)) dX4_sizeOf_29 ⟨Nat.zero_le _, Nat.zero_le _⟩) hS (fun q _ h => hFc q h) hFc (fun u_9 t9 H1 locs ht hvm hr_8 hB hz1 hk1 hS => ?_)
      replace hB : va_P G.1 lzC _ t9.heap := hB
      rw [ht] at hB
      obtain ⟨hP, hD⟩ := lz_join (wc := (lzM m q S ++ lzI G (q 22) 16 t)) (wr := ([(q 5, .inl (G.2 0, 64, .inl f))] : va_W)) (w1 := (lzM m q (upd S 23 (nI (T + 1))) ++ lzI G (q 22) 16 (upd t T 12))) hP hD [0, 1] [2] rfl rfl (by decide) (by decide) rfl hk1 hB
      replace hP := hP.sub (ws' := (lzM m q (upd S 23 (nI (T + 1))) ++ (lzI G (q 22) 16 (upd t T 12) ++ (lzI G (q 5) 64 f)))) [1, 2, 0] rfl
      replace hD := hD.sub (ws' := (lzM m q (upd S 23 (nI (T + 1))) ++ (lzI G (q 22) 16 (upd t T 12) ++ (lzI G (q 5) 64 f)))) [1, 2, 0] (by decide) rfl
      clear ht hvm hB hz1 hk1
      generalize H1 = H at hP hS ⊢
      refine lv_aload_n hx hb dX4_sizeOf_32 rfl (lv_at hl 1 rfl) ?_
      refine lv_bipush (v := 11) hx hb dX4_sizeOf_33 (by decide) ?_
      have hPc := hP.sub (ws' := (lzM m q (upd S 23 (nI (T + 1))) ++ lzI G (q 22) 16 (upd t T 12))) [0, 1] rfl
      have hDc := hD.sub (ws' := (lzM m q (upd S 23 (nI (T + 1))) ++ lzI G (q 22) 16 (upd t T 12))) [0, 1] (by decide) rfl
      have hFc : ∀ zz : Nat, lzA (lzM m q (upd S 23 (nI (T + 1))) ++ lzI G (q 22) 16 (upd t T 12)) zz → A zz := lz_free hD [0, 1] rfl
      refine va_callv (va_runV (As := [.int 11]) (rest := []) ⟨hx, hb, hml, hown, hts⟩ (c_X4_began l G m q (upd S 23 (nI (T + 1))) (upd t T 12) (T + 1) 11 (rfl) (by omega)) (cwV 1 hts gX4_sizeOf_X4_began rfl rfl rfl (by decide +kernel) ⟨Nat.le_of_ble_eq_true rfl, Nat.le_of_ble_eq_true rfl⟩) (rw_preV hK hPc hDc hP (ci := 4) (q0 := 0) rfl rfl) rfl rfl hl.1 rfl (lv_room (Nat.le_of_ble_eq_true rfl)) dX4_sizeOf_35 ⟨Nat.zero_le _, Nat.zero_le _⟩) hS (fun q _ h => hFc q h) hFc (fun u_11 t9 H1 locs ht hvm hr_10 hB hz1 hk1 hS => ?_)
      replace hB : va_P G.1 lzC _ t9.heap := hB
      rw [ht] at hB
      obtain ⟨hP, hD⟩ := lz_join (wc := (lzM m q (upd S 23 (nI (T + 1))) ++ lzI G (q 22) 16 (upd t T 12))) (wr := ([(q 5, .inl (G.2 0, 64, .inl f))] : va_W)) (w1 := (lzM m q (upd S 23 (nI ((T + 1) + 1))) ++ lzI G (q 22) 16 (upd (upd t T 12) (T + 1) 11))) hP hD [0, 1] [2] rfl rfl (by decide) (by decide) rfl hk1 hB
      replace hP := hP.sub (ws' := (lzM m q (upd S 23 (nI ((T + 1) + 1))) ++ (lzI G (q 22) 16 (upd (upd t T 12) (T + 1) 11) ++ (lzI G (q 5) 64 f)))) [1, 2, 0] rfl
      replace hD := hD.sub (ws' := (lzM m q (upd S 23 (nI ((T + 1) + 1))) ++ (lzI G (q 22) 16 (upd (upd t T 12) (T + 1) 11) ++ (lzI G (q 5) 64 f)))) [1, 2, 0] (by decide) rfl
      clear ht hvm hB hz1 hk1
      generalize H1 = H at hP hS ⊢
      refine lv_aload_n hx hb dX4_sizeOf_38 rfl (lv_at hl 1 rfl) ?_
      refine lv_iload_n hx hb dX4_sizeOf_39 rfl (lv_at hl 2 rfl) ?_
      have hFc : ∀ zz : Nat, lzA (lzM m q (upd S 23 (nI ((T + 1) + 1))) ++ (lzI G (q 22) 16 (upd (upd t T 12) (T + 1) 11) ++ (lzI G (q 5) 64 f))) zz → A zz := lz_free hD [0, 1, 2] rfl
      refine va_calli (va_runV (As := [.int (nI s)]) (rest := []) ⟨hx, hb, hml, hown, hts⟩ (c_X4_plainSize l G m q (upd S 23 (nI ((T + 1) + 1))) (upd (upd t T 12) (T + 1) 11) f s ((T + 1) + 1) (hs) (rfl) (by omega)) (cwV 1 hts gX4_sizeOf_X4_plainSize rfl rfl rfl (by decide +kernel) ⟨Nat.le_of_ble_eq_true rfl, Nat.le_of_ble_eq_true rfl⟩) (rw_preV hK hP hD hP (ci := 4) (q0 := 0) rfl rfl) rfl rfl hl.1 rfl (lv_room (Nat.le_of_ble_eq_true rfl)) dX4_sizeOf_40 ⟨Nat.zero_le _, Nat.zero_le _⟩) hS (fun q _ h => hFc q h) hFc (fun r_12 u_13 t9 H1 locs ht hvm hr_12 hB hz1 hk1 hS => ?_)
      replace hB : va_P G.1 lzC _ t9.heap := hB
      rw [ht] at hB
      obtain ⟨hP, hD⟩ := lz_join (wc := (lzM m q (upd S 23 (nI ((T + 1) + 1))) ++ (lzI G (q 22) 16 (upd (upd t T 12) (T + 1) 11) ++ (lzI G (q 5) 64 f)))) (wr := ([] : va_W)) (w1 := (lzM m q (upd S 23 (nI (((T + 1) + 1) + 1))) ++ (lzI G (q 22) 16 (upd (upd (upd t T 12) (T + 1) 11) ((T + 1) + 1) 10) ++ (lzI G (q 5) 64 f)))) hP hD [0, 1, 2] [] rfl rfl (by decide) (by decide) rfl hk1 hB
      replace hP := hP.sub (ws' := (lzM m q (upd S 23 (nI (((T + 1) + 1) + 1))) ++ (lzI G (q 22) 16 (upd (upd (upd t T 12) (T + 1) 11) ((T + 1) + 1) 10) ++ (lzI G (q 5) 64 f)))) [0, 1, 2] rfl
      replace hD := hD.sub (ws' := (lzM m q (upd S 23 (nI (((T + 1) + 1) + 1))) ++ (lzI G (q 22) 16 (upd (upd (upd t T 12) (T + 1) 11) ((T + 1) + 1) 10) ++ (lzI G (q 5) 64 f)))) [0, 1, 2] (by decide) rfl
      clear ht hvm hB hz1 hk1
      generalize H1 = H at hP hS ⊢
      refine lz_top (y := f (4 + 5 * s + 1)) hr_12 ?_
      refine lv_istore_n (lv' := [(3, .int (f (4 + 5 * s + 1))), (2, .int (f (4 + 5 * s))), (0, .ref m), (1, .int (nI s))]) hx hb dX4_sizeOf_43 rfl hl (by decide) rfl (fun ls hl => ?_)
      refine lv_iload_n hx hb dX4_sizeOf_44 rfl (lv_at hl 0 rfl) ?_
      refine lv_aload_n hx hb dX4_sizeOf_45 rfl (lv_at hl 2 rfl) ?_
      refine lv_iload_n hx hb dX4_sizeOf_46 rfl (lv_at hl 3 rfl) ?_
      have hFc : ∀ zz : Nat, lzA (lzM m q (upd S 23 (nI (((T + 1) + 1) + 1))) ++ (lzI G (q 22) 16 (upd (upd (upd t T 12) (T + 1) 11) ((T + 1) + 1) 10) ++ (lzI G (q 5) 64 f))) zz → A zz := lz_free hD [0, 1, 2] rfl
      refine va_calli (va_runV (As := [.int (nI s)]) (rest := [.int (f (4 + 5 * s + 1))]) ⟨hx, hb, hml, hown, hts⟩ (c_X4_markOf l G m q (upd S 23 (nI (((T + 1) + 1) + 1))) (upd (upd (upd t T 12) (T + 1) 11) ((T + 1) + 1) 10) f s N M (((T + 1) + 1) + 1) (hs) (hM) (hM5) (rfl) (by omega)) (cwV 1 hts gX4_sizeOf_X4_markOf rfl rfl rfl (by decide +kernel) ⟨Nat.le_of_ble_eq_true rfl, Nat.le_of_ble_eq_true rfl⟩) (rw_preV hK hP hD hP (ci := 4) (q0 := 0) rfl rfl) rfl rfl hl.1 rfl (lv_room (Nat.le_of_ble_eq_true rfl)) dX4_sizeOf_47 ⟨Nat.zero_le _, Nat.zero_le _⟩) hS (fun q _ h => hFc q h) hFc (fun r_14 u_15 t9 H1 locs ht hvm hr_14 hB hz1 hk1 hS => ?_)
      replace hB : va_P G.1 lzC _ t9.heap := hB
      rw [ht] at hB
      obtain ⟨hP, hD⟩ := lz_join (wc := (lzM m q (upd S 23 (nI (((T + 1) + 1) + 1))) ++ (lzI G (q 22) 16 (upd (upd (upd t T 12) (T + 1) 11) ((T + 1) + 1) 10) ++ (lzI G (q 5) 64 f)))) (wr := ([] : va_W)) (w1 := (lzM m q (upd S 23 (nI ((((T + 1) + 1) + 1) + (mmL (f (4 + 5 * s))).length))) ++ (lzI G (q 22) 16 (trL (upd (upd (upd t T 12) (T + 1) 11) ((T + 1) + 1) 10) (((T + 1) + 1) + 1) (mmL (f (4 + 5 * s)))) ++ (lzI G (q 5) 64 f)))) hP hD [0, 1, 2] [] rfl rfl (by decide) (by decide) rfl hk1 hB
      replace hP := hP.sub (ws' := (lzM m q (upd S 23 (nI ((((T + 1) + 1) + 1) + (mmL (f (4 + 5 * s))).length))) ++ (lzI G (q 22) 16 (trL (upd (upd (upd t T 12) (T + 1) 11) ((T + 1) + 1) 10) (((T + 1) + 1) + 1) (mmL (f (4 + 5 * s)))) ++ (lzI G (q 5) 64 f)))) [0, 1, 2] rfl
      replace hD := hD.sub (ws' := (lzM m q (upd S 23 (nI ((((T + 1) + 1) + 1) + (mmL (f (4 + 5 * s))).length))) ++ (lzI G (q 22) 16 (trL (upd (upd (upd t T 12) (T + 1) 11) ((T + 1) + 1) 10) (((T + 1) + 1) + 1) (mmL (f (4 + 5 * s)))) ++ (lzI G (q 5) 64 f)))) [0, 1, 2] (by decide) rfl
      clear ht hvm hB hz1 hk1
      generalize H1 = H at hP hS ⊢
      refine lz_top (y := mmV (f (4 + 5 * s)) (nI s) (f (4 + 5 * s + 1)) (nI s + cntI (fun z => clkR f z s) M)) hr_14 ?_
      refine lv_iadd hx hb dX4_sizeOf_50 ?_
      refine lv_istore_n (lv' := [(3, .int ((f (4 + 5 * s + 1)) + (mmV (f (4 + 5 * s)) (nI s) (f (4 + 5 * s + 1)) (nI s + cntI (fun z => clkR f z s) M)))), (2, .int (f (4 + 5 * s))), (0, .ref m), (1, .int (nI s))]) hx hb dX4_sizeOf_51 rfl hl (by decide) rfl (fun ls hl => ?_)
      refine lv_iload_n hx hb dX4_sizeOf_52 rfl (lv_at hl 1 rfl) ?_
      refine lv_iconst (v := 2) hx hb dX4_sizeOf_53 (by decide) ?_
      refine lv_icmp_ne (tgt := 62) hx hb dX4_sizeOf_54 (by decide) (fun c_54 => ?_) (fun c_54 => ?_)
      · skip
        exact absurd c_23 c_54
      · skip
        refine lv_iload_n hx hb dX4_sizeOf_57 rfl (lv_at hl 0 rfl) ?_
        refine lv_ineg hx hb dX4_sizeOf_58 ?_
        refine lv_goto (tgt := 63) hx hb dX4_sizeOf_59 (by decide) ?_
        exact rw_iret (S := Unit) (G := G) (Wd := fun _ : Unit => (lzM m q (upd S 23 (nI (T + (msL (f (4 + 5 * s))).length))) ++ (lzI G (q 22) 16 (trL t T (msL (f (4 + 5 * s)))) ++ (lzI G (q 5) 64 f)))) () hx hb hr hlk dX4_sizeOf_63 hS (by show va_P G.1 lzC (lzM m q (upd S 23 (nI (T + (msL (f (4 + 5 * s))).length))) ++ (lzI G (q 22) 16 (trL t T (msL (f (4 + 5 * s)))) ++ lzI G (q 5) 64 f)) H; unfold msL; rw [if_neg (Int32.not_le.mpr c_12)]; first | (rw [if_pos c_23, show T + (([12, 11, 10] : List Int32) ++ mmL (f (4 + 5 * s))).length = T + 1 + 1 + 1 + (mmL (f (4 + 5 * s))).length from by simp; omega]; exact hP) | (rw [if_neg c_23, show T + (([11, 10] : List Int32) ++ mmL (f (4 + 5 * s))).length = T + 1 + 1 + (mmL (f (4 + 5 * s))).length from by simp; omega]; exact hP)) (by unfold msV; rw [if_neg (Int32.not_le.mpr c_12)]; first | rw [if_pos c_23] | rw [if_neg c_23])
  · skip
    have c_12' := Int32.not_lt.mp c_12
    refine lv_aload_n hx hb dX4_sizeOf_15 rfl (lv_at hl 1 rfl) ?_
    refine lv_iload_n hx hb dX4_sizeOf_16 rfl (lv_at hl 2 rfl) ?_
    have hFc : ∀ zz : Nat, lzA (lzM m q S ++ (lzI G (q 22) 16 t ++ (lzI G (q 5) 64 f))) zz → A zz := lz_free hD [0, 1, 2] rfl
    refine va_calli (va_runV (As := [.int (nI s)]) (rest := []) ⟨hx, hb, hml, hown, hts⟩ (c_X4_unknownSize l G m q S t f s T (hs) (hT) (by omega)) (cwV 1 hts gX4_sizeOf_X4_unknownSize rfl rfl rfl (by decide +kernel) ⟨Nat.le_of_ble_eq_true rfl, Nat.le_of_ble_eq_true rfl⟩) (rw_preV hK hP hD hP (ci := 4) (q0 := 0) rfl rfl) rfl rfl hl.1 rfl (lv_room (Nat.le_of_ble_eq_true rfl)) dX4_sizeOf_17 ⟨Nat.zero_le _, Nat.zero_le _⟩) hS (fun q _ h => hFc q h) hFc (fun r_16 u_17 t9 H1 locs ht hvm hr_16 hB hz1 hk1 hS => ?_)
    replace hB : va_P G.1 lzC _ t9.heap := hB
    rw [ht] at hB
    obtain ⟨hP, hD⟩ := lz_join (wc := (lzM m q S ++ (lzI G (q 22) 16 t ++ (lzI G (q 5) 64 f)))) (wr := ([] : va_W)) (w1 := (lzM m q (upd S 23 (nI (T + (usL (f (4 + 5 * s))).length))) ++ (lzI G (q 22) 16 (trL t T (usL (f (4 + 5 * s)))) ++ (lzI G (q 5) 64 f)))) hP hD [0, 1, 2] [] rfl rfl (by decide) (by decide) rfl hk1 hB
    replace hP := hP.sub (ws' := (lzM m q (upd S 23 (nI (T + (usL (f (4 + 5 * s))).length))) ++ (lzI G (q 22) 16 (trL t T (usL (f (4 + 5 * s)))) ++ (lzI G (q 5) 64 f)))) [0, 1, 2] rfl
    replace hD := hD.sub (ws' := (lzM m q (upd S 23 (nI (T + (usL (f (4 + 5 * s))).length))) ++ (lzI G (q 22) 16 (trL t T (usL (f (4 + 5 * s)))) ++ (lzI G (q 5) 64 f)))) [0, 1, 2] (by decide) rfl
    clear ht hvm hB hz1 hk1
    generalize H1 = H at hP hS ⊢
    refine lz_top (y := usV (f (4 + 5 * s)) (f (4 + 5 * s + 1))) hr_16 ?_
    exact rw_iret (S := Unit) (G := G) (Wd := fun _ : Unit => (lzM m q (upd S 23 (nI (T + (msL (f (4 + 5 * s))).length))) ++ (lzI G (q 22) 16 (trL t T (msL (f (4 + 5 * s)))) ++ (lzI G (q 5) 64 f)))) () hx hb hr hlk dX4_sizeOf_20 hS (by show va_P G.1 lzC (lzM m q (upd S 23 (nI (T + (msL (f (4 + 5 * s))).length))) ++ (lzI G (q 22) 16 (trL t T (msL (f (4 + 5 * s)))) ++ lzI G (q 5) 64 f)) H; unfold msL; rw [if_pos c_12']; exact hP) (by unfold msV; rw [if_pos c_12'])
