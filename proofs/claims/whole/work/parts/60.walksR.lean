set_option maxHeartbeats 4000000 in
set_option maxRecDepth 100000 in
theorem c_X4_doorR (l : Launch) (G : lzG) (m : Nat) (q : Nat → Nat) (S : Nat → Int32) (f fr tb : Nat → Int32) (L : Nat) (hL : S 11 = nI L) (hL1 : L ≤ 120) : Met l yX4_door wsX4_door ({ frames := 5, cells := 0, slots := 0, locals := 113 }) (va_Pc [.ref m] (rwP G (lzM m q S ++ (lzI G (q 5) 64 f ++ (lzI G (q 6) 64 fr ++ (lzI G (q 10) 120 tb)))))) (va_Qi (S := (Nat → Int32) × ((Nat → Int32) × (Nat → Int32))) (fun (r : Int32) u9 => drM S f tb L r u9.1 u9.2.1) (rwB G (fun u9 : (Nat → Int32) × ((Nat → Int32) × (Nat → Int32)) => (lzM m q u9.1 ++ (lzI G (q 5) 64 u9.2.1 ++ (lzI G (q 6) 64 u9.2.2 ++ (lzI G (q 10) 120 tb)))))) (lzA (lzM m q S ++ (lzI G (q 5) 64 f ++ (lzI G (q 6) 64 fr ++ (lzI G (q 10) 120 tb)))))) 0 0 (lzA (lzM m q S ++ (lzI G (q 5) 64 f ++ (lzI G (q 6) 64 fr ++ (lzI G (q 10) 120 tb))))) := by
  refine rw_start (S := (Nat → Int32) × ((Nat → Int32) × (Nat → Int32))) (cc := cX4_door) (maxL := 2) (ret := (some .int)) (by decide) rfl (Nat.le_of_ble_eq_true rfl) ?_
  intro pp ee ss mm bl me cd A hx hb hr hlk hml hts hown hP hK hD hAe hS ls hl
  have hA0 : ∀ zz : Nat, lzA (lzM m q S ++ (lzI G (q 5) 64 f ++ (lzI G (q 6) 64 fr ++ (lzI G (q 10) 120 tb)))) zz → A zz := fun zz h9 => by rw [hAe]; exact h9
  rw [← hAe]
  clear hAe
  have hown : ss.vm.findClass RX4 = some mm.cls := hown
  have hw1 := hts (.fieldLink RX4 48 "LampSquaresModel" "thrown" "I") (List.mem_of_getElem? (i := 1) rfl)
  have hw2 := hts (.fieldLink RX4 22 "LampSquaresModel" "fresh" "[I") (List.mem_of_getElem? (i := 2) rfl)
  have hw3 := hts (.constant RX4 149 (-1000100)) (List.mem_of_getElem? (i := 3) rfl)
  have hw4 := hts (.fieldLink RX4 85 "LampSquaresModel" "faultAt" "I") (List.mem_of_getElem? (i := 4) rfl)
  have hw5 := hts (.fieldLink RX4 150 "LampSquaresModel" "acts" "I") (List.mem_of_getElem? (i := 5) rfl)
  have hw6 := hts (.fieldLink RX4 19 "LampSquaresModel" "door" "[I") (List.mem_of_getElem? (i := 6) rfl)
  have hu_wsX40 : ∀ w ∈ wsX40, w.before ([.ref m] : List Value).toArray ss = true := fun w h9 => hts w (List.mem_cons_of_mem _ (List.mem_append_right _ h9))
  have hl : lv_has ls 2 [(0, .ref m)] := hl
  refine lv_aload_n hx hb dX4_door_0 rfl (lv_at hl 0 rfl) ?_
  refine lv_iconst (v := 0) hx hb dX4_door_1 (by decide) ?_
  refine lz_put (G := G) (ci := 4) (C := RX4) (T := TX4) (N := 24) hx hb hu_wsX40 (fun _ h9 => h9) tyX4 tyX4_ok nmX4 hown hK hP hD hS 0 rfl rfl 0 (by decide) hw1 rfl rfl (by decide +kernel) (Nat.le_of_ble_eq_true rfl) dX4_door_2 (lzM m q (upd S 0 0) ++ (lzI G (q 5) 64 f ++ (lzI G (q 6) 64 fr ++ (lzI G (q 10) 120 tb)))) rfl (fun H locs hP hD hS => ?_)
  refine lv_aload_n hx hb dX4_door_5 rfl (lv_at hl 0 rfl) ?_
  have hPc := hP.sub (ws' := (lzM m q (upd S 0 0) ++ lzI G (q 10) 120 tb)) [0, 3] rfl
  have hDc := hD.sub (ws' := (lzM m q (upd S 0 0) ++ lzI G (q 10) 120 tb)) [0, 3] (by decide) rfl
  have hFc : ∀ zz : Nat, lzA (lzM m q (upd S 0 0) ++ lzI G (q 10) 120 tb) zz → A zz := lz_free hD [0, 3] rfl
  refine va_callv (va_runV (As := []) (rest := []) ⟨hx, hb, hml, hown, hts⟩ (c_X4_beginR l G m q (upd S 0 0) tb L (hL) (hL1)) (cwV 0 hts gX4_door_X4_begin rfl rfl rfl (by decide +kernel) ⟨Nat.le_of_ble_eq_true rfl, Nat.le_of_ble_eq_true rfl⟩) (rw_preV hK hPc hDc hP (ci := 4) (q0 := 0) rfl rfl) rfl rfl hl.1 rfl (lv_room (Nat.le_of_ble_eq_true rfl)) dX4_door_6 ⟨Nat.zero_le _, Nat.zero_le _⟩) hS (fun q _ h => hFc q h) hFc (fun u_2 t9 H1 locs ht hvm hr_1 hB hz1 hk1 hS => ?_)
  replace hB : va_P G.1 lzC _ t9.heap := hB
  rw [ht] at hB
  obtain ⟨hP, hD⟩ := lz_join (wc := (lzM m q (upd S 0 0) ++ lzI G (q 10) 120 tb)) (wr := ([(q 5, .inl (G.2 0, 64, .inl f)), (q 6, .inl (G.2 0, 64, .inl fr))] : va_W)) (w1 := (lzM m q u_2 ++ lzI G (q 10) 120 tb)) hP hD [0, 3] [1, 2] rfl rfl (by decide) (by decide) rfl hk1 hB
  replace hP := hP.sub (ws' := (lzM m q u_2 ++ (lzI G (q 5) 64 f ++ (lzI G (q 6) 64 fr ++ (lzI G (q 10) 120 tb))))) [2, 0, 1, 3] rfl
  replace hD := hD.sub (ws' := (lzM m q u_2 ++ (lzI G (q 5) 64 f ++ (lzI G (q 6) 64 fr ++ (lzI G (q 10) 120 tb))))) [2, 0, 1, 3] (by decide) rfl
  clear ht hvm hB hz1 hk1
  generalize H1 = H at hP hS ⊢
  obtain ⟨hR0, hE0⟩ := hr_1
  refine lv_iconst (v := 0) hx hb dX4_door_9 (by decide) ?_
  refine lv_istore_n (lv' := [(1, .int 0), (0, .ref m)]) hx hb dX4_door_10 rfl hl (by decide) rfl (fun ls hl => ?_)
  have J_11 : ∀ (n9 : Nat), ∀ (k : Nat), (k ≤ 64) → 64 - k < n9 → ∀ (H : Heap) (locs : List Loc), va_P G.1 lzC (lzM m q u_2 ++ (lzI G (q 5) 64 f ++ (lzI G (q 6) 64 (fa_fill (fun _ => 0) fr k) ++ (lzI G (q 10) 120 tb)))) H → va_D A (lzM m q u_2 ++ (lzI G (q 5) 64 f ++ (lzI G (q 6) 64 (fa_fill (fun _ => 0) fr k) ++ (lzI G (q 10) 120 tb)))) → va_S A ss.heap H locs → ∀ ls : Array Slot, lv_has ls 2 [(1, .int (nI k)), (0, .ref m)] → W pp l ee ({ frames := 5, cells := 0, slots := 0, locals := 113 }) ss mm ([.ref m] : List Value).toArray bl me cd H locs 0 0 (MQ bl (va_Qi (S := (Nat → Int32) × ((Nat → Int32) × (Nat → Int32))) (fun (r : Int32) u9 => drM S f tb L r u9.1 u9.2.1) (rwB G (fun u9 : (Nat → Int32) × ((Nat → Int32) × (Nat → Int32)) => (lzM m q u9.1 ++ (lzI G (q 5) 64 u9.2.1 ++ (lzI G (q 6) 64 u9.2.2 ++ (lzI G (q 10) 120 tb)))))) A) ([.ref m] : List Value).toArray ss 0 0 A) (F0 mm 11 ls []) := by
    intro n9
    induction n9 with
    | zero => intro k hk hn; exact absurd hn (Nat.not_lt_zero _)
    | succ n9 ih_11 =>
      intro k hk hn_11 H locs hP hD hS ls hl
      refine lv_iload_n hx hb dX4_door_11 rfl (lv_at hl 0 rfl) ?_
      refine lv_bipush (v := 64) hx hb dX4_door_12 (by decide) ?_
      refine lv_icmp_ge (tgt := 30) hx hb dX4_door_14 (by decide) (fun c_14 => ?_) (fun c_14 => ?_)
      · skip
        have c_14' := Int32.not_lt.mpr c_14
        have hk2 : 64 ≤ k := lz_ge (N := 64) rfl c_14 (by omega) (by omega)
        have hk3 : k = 64 := by omega
        refine lv_aload_n hx hb dX4_door_30 rfl (lv_at hl 1 rfl) ?_
        refine lv_aload_n hx hb dX4_door_31 rfl (lv_at hl 1 rfl) ?_
        refine lv_bipush (v := 100) hx hb dX4_door_32 (by decide) ?_
        have hPc := hP.sub (ws' := lzM m q u_2) [0] rfl
        refine ro_calli (va_runV (As := [.int 100]) (rest := [.ref m]) ⟨hx, hb, hml, hown, hts⟩ (c_X4_isLetter l G m q u_2 100 ) (cwV 1 hts gX4_door_X4_isLetter rfl rfl rfl (by decide +kernel) ⟨Nat.le_of_ble_eq_true rfl, Nat.le_of_ble_eq_true rfl⟩) (ro_preV hK hPc hP (ci := 4) (q0 := 0) rfl rfl) rfl rfl hl.1 rfl (lv_room (Nat.le_of_ble_eq_true rfl)) dX4_door_34 ⟨Nat.zero_le _, Nat.zero_le _⟩) (fun r_3 hr_3 => ?_)
        refine lz_top (y := b2 (isLetM u_2 100)) hr_3 ?_
        have hPc := hP.sub (ws' := (lzM m q u_2 ++ lzI G (q 10) 120 tb)) [0, 3] rfl
        have hDc := hD.sub (ws' := (lzM m q u_2 ++ lzI G (q 10) 120 tb)) [0, 3] (by decide) rfl
        have hFc : ∀ zz : Nat, lzA (lzM m q u_2 ++ lzI G (q 10) 120 tb) zz → A zz := lz_free hD [0, 3] rfl
        refine va_callv (va_runV (As := [.int (b2 (isLetM u_2 100))]) (rest := []) ⟨hx, hb, hml, hown, hts⟩ (c_X4_mustR l G m q u_2 tb L ((0, 0) : Int32 × Nat) (isLetM u_2 100) (hR0) (hL1)) (cwV 1 hts gX4_door_X4_must rfl rfl rfl (by decide +kernel) ⟨Nat.le_of_ble_eq_true rfl, Nat.le_of_ble_eq_true rfl⟩) (rw_preV hK hPc hDc hP (ci := 4) (q0 := 0) rfl rfl) rfl rfl hl.1 rfl (lv_room (Nat.le_of_ble_eq_true rfl)) dX4_door_37 ⟨Nat.zero_le _, Nat.zero_le _⟩) hS (fun q _ h => hFc q h) hFc (fun u_6 t9 H1 locs ht hvm hr_5 hB hz1 hk1 hS => ?_)
        replace hB : va_P G.1 lzC _ t9.heap := hB
        rw [ht] at hB
        obtain ⟨hP, hD⟩ := lz_join (wc := (lzM m q u_2 ++ lzI G (q 10) 120 tb)) (wr := ([(q 5, .inl (G.2 0, 64, .inl f)), (q 6, .inl (G.2 0, 64, .inl (fa_fill (fun _ => 0) fr k)))] : va_W)) (w1 := (lzM m q u_6 ++ lzI G (q 10) 120 tb)) hP hD [0, 3] [1, 2] rfl rfl (by decide) (by decide) rfl hk1 hB
        replace hP := hP.sub (ws' := (lzM m q u_6 ++ (lzI G (q 5) 64 f ++ (lzI G (q 6) 64 (fa_fill (fun _ => 0) fr k) ++ (lzI G (q 10) 120 tb))))) [2, 0, 1, 3] rfl
        replace hD := hD.sub (ws' := (lzM m q u_6 ++ (lzI G (q 5) 64 f ++ (lzI G (q 6) 64 (fa_fill (fun _ => 0) fr k) ++ (lzI G (q 10) 120 tb))))) [2, 0, 1, 3] (by decide) rfl
        clear ht hvm hB hz1 hk1
        generalize H1 = H at hP hS ⊢
        obtain ⟨hR_4, hE_4⟩ := hr_5
        have hE_4 := elM_t hE0 hE_4
        replace hR_4 : rpM u_6 tb L (sgnS tb L 100 ((0, 0) : Int32 × Nat)) := by rw [← must_let hR0 (by decide +kernel) (by decide +kernel)]; exact hR_4
        refine lv_aload_n hx hb dX4_door_40 rfl (lv_at hl 1 rfl) ?_
        refine lz_get (G := G) (ci := 4) (v := .ref (q 6)) (C := RX4) (T := TX4) (N := 24) hx hb hu_wsX40 (fun _ h9 => h9) hown hK hP 0 rfl rfl 6 (by decide) hw2 rfl rfl dX4_door_41 ?_
        refine lv_iconst (v := 0) hx hb dX4_door_44 (by decide) ?_
        refine lv_aload_n hx hb dX4_door_45 rfl (lv_at hl 1 rfl) ?_
        refine lv_iconst (v := 1) hx hb dX4_door_46 (by decide) ?_
        refine lv_bipush (v := 9) hx hb dX4_door_47 (by decide) ?_
        have hPc := hP.sub (ws' := (lzM m q u_6 ++ lzI G (q 10) 120 tb)) [0, 3] rfl
        have hDc := hD.sub (ws' := (lzM m q u_6 ++ lzI G (q 10) 120 tb)) [0, 3] (by decide) rfl
        have hFc : ∀ zz : Nat, lzA (lzM m q u_6 ++ lzI G (q 10) 120 tb) zz → A zz := lz_free hD [0, 3] rfl
        refine va_calli (va_runV (As := [.int 1, .int 9]) (rest := [.int 0, .ref (q 6)]) ⟨hx, hb, hml, hown, hts⟩ (c_X4_numberR l G m q u_6 tb L (sgnS tb L 100 ((0, 0) : Int32 × Nat)) 1 9 (hR_4) (hL1)) (cwV 2 hts gX4_door_X4_number rfl rfl rfl (by decide +kernel) ⟨Nat.le_of_ble_eq_true rfl, Nat.le_of_ble_eq_true rfl⟩) (rw_preV hK hPc hDc hP (ci := 4) (q0 := 0) rfl rfl) rfl rfl hl.1 rfl (lv_room (Nat.le_of_ble_eq_true rfl)) dX4_door_49 ⟨Nat.zero_le _, Nat.zero_le _⟩) hS (fun q _ h => hFc q h) hFc (fun r_8 u_9 t9 H1 locs ht hvm hr_8 hB hz1 hk1 hS => ?_)
        replace hB : va_P G.1 lzC _ t9.heap := hB
        rw [ht] at hB
        obtain ⟨hP, hD⟩ := lz_join (wc := (lzM m q u_6 ++ lzI G (q 10) 120 tb)) (wr := ([(q 5, .inl (G.2 0, 64, .inl f)), (q 6, .inl (G.2 0, 64, .inl (fa_fill (fun _ => 0) fr k)))] : va_W)) (w1 := (lzM m q u_9 ++ lzI G (q 10) 120 tb)) hP hD [0, 3] [1, 2] rfl rfl (by decide) (by decide) rfl hk1 hB
        replace hP := hP.sub (ws' := (lzM m q u_9 ++ (lzI G (q 5) 64 f ++ (lzI G (q 6) 64 (fa_fill (fun _ => 0) fr k) ++ (lzI G (q 10) 120 tb))))) [2, 0, 1, 3] rfl
        replace hD := hD.sub (ws' := (lzM m q u_9 ++ (lzI G (q 5) 64 f ++ (lzI G (q 6) 64 (fa_fill (fun _ => 0) fr k) ++ (lzI G (q 10) 120 tb))))) [2, 0, 1, 3] (by decide) rfl
        clear ht hvm hB hz1 hk1
        generalize H1 = H at hP hS ⊢
        obtain ⟨hR_7, hE_7, hV_7⟩ := hr_8
        have hE_7 := elM_t hE_4 hE_7
        refine lz_iast (f := fa_fill (fun _ => 0) fr k) hx hb hK hP hD hS 2 rfl 0 (by omega) (Nat.le_of_ble_eq_true rfl) dX4_door_52 (lzM m q u_9 ++ (lzI G (q 5) 64 f ++ (lzI G (q 6) 64 (upd (fa_fill (fun _ => 0) fr k) 0 r_8) ++ (lzI G (q 10) 120 tb)))) rfl (fun H locs hP hD hS => ?_)
        refine lv_aload_n hx hb dX4_door_53 rfl (lv_at hl 1 rfl) ?_
        refine lv_bipush (v := 44) hx hb dX4_door_54 (by decide) ?_
        have hPc := hP.sub (ws' := (lzM m q u_9 ++ lzI G (q 10) 120 tb)) [0, 3] rfl
        have hDc := hD.sub (ws' := (lzM m q u_9 ++ lzI G (q 10) 120 tb)) [0, 3] (by decide) rfl
        have hFc : ∀ zz : Nat, lzA (lzM m q u_9 ++ lzI G (q 10) 120 tb) zz → A zz := lz_free hD [0, 3] rfl
        refine va_callv (va_runV (As := [.int 44]) (rest := []) ⟨hx, hb, hml, hown, hts⟩ (c_X4_signR l G m q u_9 tb L (numS tb L 1 9 (sgnS tb L 100 ((0, 0) : Int32 × Nat))) 44 (hR_7) (hL1) (by decide)) (cwV 1 hts gX4_door_X4_mustSign rfl rfl rfl (by decide +kernel) ⟨Nat.le_of_ble_eq_true rfl, Nat.le_of_ble_eq_true rfl⟩) (rw_preV hK hPc hDc hP (ci := 4) (q0 := 0) rfl rfl) rfl rfl hl.1 rfl (lv_room (Nat.le_of_ble_eq_true rfl)) dX4_door_56 ⟨Nat.zero_le _, Nat.zero_le _⟩) hS (fun q _ h => hFc q h) hFc (fun u_12 t9 H1 locs ht hvm hr_11 hB hz1 hk1 hS => ?_)
        replace hB : va_P G.1 lzC _ t9.heap := hB
        rw [ht] at hB
        obtain ⟨hP, hD⟩ := lz_join (wc := (lzM m q u_9 ++ lzI G (q 10) 120 tb)) (wr := ([(q 5, .inl (G.2 0, 64, .inl f)), (q 6, .inl (G.2 0, 64, .inl (upd (fa_fill (fun _ => 0) fr k) 0 r_8)))] : va_W)) (w1 := (lzM m q u_12 ++ lzI G (q 10) 120 tb)) hP hD [0, 3] [1, 2] rfl rfl (by decide) (by decide) rfl hk1 hB
        replace hP := hP.sub (ws' := (lzM m q u_12 ++ (lzI G (q 5) 64 f ++ (lzI G (q 6) 64 (upd (fa_fill (fun _ => 0) fr k) 0 r_8) ++ (lzI G (q 10) 120 tb))))) [2, 0, 1, 3] rfl
        replace hD := hD.sub (ws' := (lzM m q u_12 ++ (lzI G (q 5) 64 f ++ (lzI G (q 6) 64 (upd (fa_fill (fun _ => 0) fr k) 0 r_8) ++ (lzI G (q 10) 120 tb))))) [2, 0, 1, 3] (by decide) rfl
        clear ht hvm hB hz1 hk1
        generalize H1 = H at hP hS ⊢
        obtain ⟨hR_10, hE_10⟩ := hr_11
        have hE_10 := elM_t hE_7 hE_10
        refine lv_aload_n hx hb dX4_door_59 rfl (lv_at hl 1 rfl) ?_
        refine lz_get (G := G) (ci := 4) (v := .ref (q 6)) (C := RX4) (T := TX4) (N := 24) hx hb hu_wsX40 (fun _ h9 => h9) hown hK hP 0 rfl rfl 6 (by decide) hw2 rfl rfl dX4_door_60 ?_
        refine lv_iconst (v := 1) hx hb dX4_door_63 (by decide) ?_
        refine lv_aload_n hx hb dX4_door_64 rfl (lv_at hl 1 rfl) ?_
        refine lv_iconst (v := 0) hx hb dX4_door_65 (by decide) ?_
        refine lv_bipush (v := 8) hx hb dX4_door_66 (by decide) ?_
        have hPc := hP.sub (ws' := (lzM m q u_12 ++ lzI G (q 10) 120 tb)) [0, 3] rfl
        have hDc := hD.sub (ws' := (lzM m q u_12 ++ lzI G (q 10) 120 tb)) [0, 3] (by decide) rfl
        have hFc : ∀ zz : Nat, lzA (lzM m q u_12 ++ lzI G (q 10) 120 tb) zz → A zz := lz_free hD [0, 3] rfl
        refine va_calli (va_runV (As := [.int 0, .int 8]) (rest := [.int 1, .ref (q 6)]) ⟨hx, hb, hml, hown, hts⟩ (c_X4_numberR l G m q u_12 tb L (sgnS tb L 44 (numS tb L 1 9 (sgnS tb L 100 ((0, 0) : Int32 × Nat)))) 0 8 (hR_10) (hL1)) (cwV 2 hts gX4_door_X4_number rfl rfl rfl (by decide +kernel) ⟨Nat.le_of_ble_eq_true rfl, Nat.le_of_ble_eq_true rfl⟩) (rw_preV hK hPc hDc hP (ci := 4) (q0 := 0) rfl rfl) rfl rfl hl.1 rfl (lv_room (Nat.le_of_ble_eq_true rfl)) dX4_door_68 ⟨Nat.zero_le _, Nat.zero_le _⟩) hS (fun q _ h => hFc q h) hFc (fun r_14 u_15 t9 H1 locs ht hvm hr_14 hB hz1 hk1 hS => ?_)
        replace hB : va_P G.1 lzC _ t9.heap := hB
        rw [ht] at hB
        obtain ⟨hP, hD⟩ := lz_join (wc := (lzM m q u_12 ++ lzI G (q 10) 120 tb)) (wr := ([(q 5, .inl (G.2 0, 64, .inl f)), (q 6, .inl (G.2 0, 64, .inl (upd (fa_fill (fun _ => 0) fr k) 0 r_8)))] : va_W)) (w1 := (lzM m q u_15 ++ lzI G (q 10) 120 tb)) hP hD [0, 3] [1, 2] rfl rfl (by decide) (by decide) rfl hk1 hB
        replace hP := hP.sub (ws' := (lzM m q u_15 ++ (lzI G (q 5) 64 f ++ (lzI G (q 6) 64 (upd (fa_fill (fun _ => 0) fr k) 0 r_8) ++ (lzI G (q 10) 120 tb))))) [2, 0, 1, 3] rfl
        replace hD := hD.sub (ws' := (lzM m q u_15 ++ (lzI G (q 5) 64 f ++ (lzI G (q 6) 64 (upd (fa_fill (fun _ => 0) fr k) 0 r_8) ++ (lzI G (q 10) 120 tb))))) [2, 0, 1, 3] (by decide) rfl
        clear ht hvm hB hz1 hk1
        generalize H1 = H at hP hS ⊢
        obtain ⟨hR_13, hE_13, hV_13⟩ := hr_14
        have hE_13 := elM_t hE_10 hE_13
        refine lz_iast (f := upd (fa_fill (fun _ => 0) fr k) 0 r_8) hx hb hK hP hD hS 2 rfl 1 (by omega) (Nat.le_of_ble_eq_true rfl) dX4_door_71 (lzM m q u_15 ++ (lzI G (q 5) 64 f ++ (lzI G (q 6) 64 (upd (upd (fa_fill (fun _ => 0) fr k) 0 r_8) 1 r_14) ++ (lzI G (q 10) 120 tb)))) rfl (fun H locs hP hD hS => ?_)
        refine lv_aload_n hx hb dX4_door_72 rfl (lv_at hl 1 rfl) ?_
        refine lv_bipush (v := 59) hx hb dX4_door_73 (by decide) ?_
        have hPc := hP.sub (ws' := (lzM m q u_15 ++ lzI G (q 10) 120 tb)) [0, 3] rfl
        have hDc := hD.sub (ws' := (lzM m q u_15 ++ lzI G (q 10) 120 tb)) [0, 3] (by decide) rfl
        have hFc : ∀ zz : Nat, lzA (lzM m q u_15 ++ lzI G (q 10) 120 tb) zz → A zz := lz_free hD [0, 3] rfl
        refine va_callv (va_runV (As := [.int 59]) (rest := []) ⟨hx, hb, hml, hown, hts⟩ (c_X4_signR l G m q u_15 tb L (numS tb L 0 8 (sgnS tb L 44 (numS tb L 1 9 (sgnS tb L 100 ((0, 0) : Int32 × Nat))))) 59 (hR_13) (hL1) (by decide)) (cwV 1 hts gX4_door_X4_mustSign rfl rfl rfl (by decide +kernel) ⟨Nat.le_of_ble_eq_true rfl, Nat.le_of_ble_eq_true rfl⟩) (rw_preV hK hPc hDc hP (ci := 4) (q0 := 0) rfl rfl) rfl rfl hl.1 rfl (lv_room (Nat.le_of_ble_eq_true rfl)) dX4_door_75 ⟨Nat.zero_le _, Nat.zero_le _⟩) hS (fun q _ h => hFc q h) hFc (fun u_18 t9 H1 locs ht hvm hr_17 hB hz1 hk1 hS => ?_)
        replace hB : va_P G.1 lzC _ t9.heap := hB
        rw [ht] at hB
        obtain ⟨hP, hD⟩ := lz_join (wc := (lzM m q u_15 ++ lzI G (q 10) 120 tb)) (wr := ([(q 5, .inl (G.2 0, 64, .inl f)), (q 6, .inl (G.2 0, 64, .inl (upd (upd (fa_fill (fun _ => 0) fr k) 0 r_8) 1 r_14)))] : va_W)) (w1 := (lzM m q u_18 ++ lzI G (q 10) 120 tb)) hP hD [0, 3] [1, 2] rfl rfl (by decide) (by decide) rfl hk1 hB
        replace hP := hP.sub (ws' := (lzM m q u_18 ++ (lzI G (q 5) 64 f ++ (lzI G (q 6) 64 (upd (upd (fa_fill (fun _ => 0) fr k) 0 r_8) 1 r_14) ++ (lzI G (q 10) 120 tb))))) [2, 0, 1, 3] rfl
        replace hD := hD.sub (ws' := (lzM m q u_18 ++ (lzI G (q 5) 64 f ++ (lzI G (q 6) 64 (upd (upd (fa_fill (fun _ => 0) fr k) 0 r_8) 1 r_14) ++ (lzI G (q 10) 120 tb))))) [2, 0, 1, 3] (by decide) rfl
        clear ht hvm hB hz1 hk1
        generalize H1 = H at hP hS ⊢
        obtain ⟨hR_16, hE_16⟩ := hr_17
        have hE_16 := elM_t hE_13 hE_16
        refine lv_aload_n hx hb dX4_door_78 rfl (lv_at hl 1 rfl) ?_
        have hPc := hP.sub (ws' := lzM m q u_18) [0] rfl
        refine ro_calli (va_runV (As := []) (rest := []) ⟨hx, hb, hml, hown, hts⟩ (c_X4_isSort l G m q u_18 ) (cwV 0 hts gX4_door_X4_isSort rfl rfl rfl (by decide +kernel) ⟨Nat.le_of_ble_eq_true rfl, Nat.le_of_ble_eq_true rfl⟩) (ro_preV hK hPc hP (ci := 4) (q0 := 0) rfl rfl) rfl rfl hl.1 rfl (lv_room (Nat.le_of_ble_eq_true rfl)) dX4_door_79 ⟨Nat.zero_le _, Nat.zero_le _⟩) (fun r_19 hr_19 => ?_)
        refine lv_if_ne (tgt := 90) hx hb dX4_door_82 (by decide) (fun c_82 => ?_) (fun c_82 => ?_)
        · skip
          have c_82 := b2_n hr_19 c_82
          have hg0 : goS tb L (zsq tb L 0) = true := (isSrt_z hR_16).symm.trans c_82
          have J_90 : ∀ (n9 : Nat), ∀ (j : Nat) (uu : Nat → Int32) (ww : Nat → Int32), (j ≤ 9) → (rpM uu tb L (zsq tb L j)) → (elM (upd S 0 0) uu) → (∀ i : Nat, 1 ≤ i → i < j → goS tb L (zsq tb L i) = true) → (j = 0 → goS tb L (zsq tb L 0) = true) → ((zsq tb L j).1 = 0 → rowS tb L j ww ∧ rowV tb L 0 0 ww) → 10 - j < n9 → ∀ (H : Heap) (locs : List Loc), va_P G.1 lzC (lzM m q uu ++ (lzI G (q 5) 64 f ++ (lzI G (q 6) 64 ww ++ (lzI G (q 10) 120 tb)))) H → va_D A (lzM m q uu ++ (lzI G (q 5) 64 f ++ (lzI G (q 6) 64 ww ++ (lzI G (q 10) 120 tb)))) → va_S A ss.heap H locs → ∀ ls : Array Slot, lv_has ls 2 [(1, .int (nI k)), (0, .ref m)] → W pp l ee ({ frames := 5, cells := 0, slots := 0, locals := 113 }) ss mm ([.ref m] : List Value).toArray bl me cd H locs 0 0 (MQ bl (va_Qi (S := (Nat → Int32) × ((Nat → Int32) × (Nat → Int32))) (fun (r : Int32) u9 => drM S f tb L r u9.1 u9.2.1) (rwB G (fun u9 : (Nat → Int32) × ((Nat → Int32) × (Nat → Int32)) => (lzM m q u9.1 ++ (lzI G (q 5) 64 u9.2.1 ++ (lzI G (q 6) 64 u9.2.2 ++ (lzI G (q 10) 120 tb)))))) A) ([.ref m] : List Value).toArray ss 0 0 A) (F0 mm 90 ls []) := by
            intro n9
            induction n9 with
            | zero => intro j uu ww hj9 hRj hEj hgo hj0 hrow hn; exact absurd hn (Nat.not_lt_zero _)
            | succ n9 ih_90 =>
              intro j uu ww hj9 hRj hEj hgo hj0 hrow hn_90 H locs hP hD hS ls hl
              refine lv_aload_n hx hb dX4_door_90 rfl (lv_at hl 1 rfl) ?_
              have hPc := hP.sub (ws' := lzM m q uu) [0] rfl
              refine ro_calli (va_runV (As := []) (rest := []) ⟨hx, hb, hml, hown, hts⟩ (c_X4_isSort l G m q uu ) (cwV 0 hts gX4_door_X4_isSort rfl rfl rfl (by decide +kernel) ⟨Nat.le_of_ble_eq_true rfl, Nat.le_of_ble_eq_true rfl⟩) (ro_preV hK hPc hP (ci := 4) (q0 := 0) rfl rfl) rfl rfl hl.1 rfl (lv_room (Nat.le_of_ble_eq_true rfl)) dX4_door_91 ⟨Nat.zero_le _, Nat.zero_le _⟩) (fun r_20 hr_20 => ?_)
              refine lv_if_eq (tgt := 104) hx hb dX4_door_94 (by decide) (fun c_94 => ?_) (fun c_94 => ?_)
              · skip
                have c_94 := b2_z hr_20 c_94
                have hg9 : goS tb L (zsq tb L j) = false := (isSrt_z hRj).symm.trans c_94
                have hst : stS tb L j := ⟨dr_ge (p := fun i => goS tb L (zsq tb L i)) hj0 hg9, hgo, hg9⟩
                refine lv_aload_n hx hb dX4_door_104 rfl (lv_at hl 1 rfl) ?_
                refine lv_bipush (v := 118) hx hb dX4_door_105 (by decide) ?_
                have hPc := hP.sub (ws' := lzM m q uu) [0] rfl
                refine ro_calli (va_runV (As := [.int 118]) (rest := []) ⟨hx, hb, hml, hown, hts⟩ (c_X4_isLetter l G m q uu 118 ) (cwV 1 hts gX4_door_X4_isLetter rfl rfl rfl (by decide +kernel) ⟨Nat.le_of_ble_eq_true rfl, Nat.le_of_ble_eq_true rfl⟩) (ro_preV hK hPc hP (ci := 4) (q0 := 0) rfl rfl) rfl rfl hl.1 rfl (lv_room (Nat.le_of_ble_eq_true rfl)) dX4_door_107 ⟨Nat.zero_le _, Nat.zero_le _⟩) (fun r_21 hr_21 => ?_)
                refine lv_if_ne (tgt := 118) hx hb dX4_door_110 (by decide) (fun c_110 => ?_) (fun c_110 => ?_)
                · skip
                  have c_110 := b2_n hr_21 c_110
                  have hv0 : goV tb L (zsq tb L j) = true := (isLet_z hRj (by decide +kernel) (by decide +kernel)).symm.trans c_110
                  have J_118 : ∀ (n9 : Nat), ∀ (i : Nat) (uu : Nat → Int32) (ww : Nat → Int32), (i ≤ 6) → (rpM uu tb L (yvs tb L j i)) → (elM (upd S 0 0) uu) → (∀ t : Nat, 1 ≤ t → t < i → goV tb L (yvs tb L j t) = true) → (i = 0 → goV tb L (yvs tb L j 0) = true) → ((yvs tb L j i).1 = 0 → rowS tb L j ww ∧ rowV tb L j i ww) → 7 - i < n9 → ∀ (H : Heap) (locs : List Loc), va_P G.1 lzC (lzM m q uu ++ (lzI G (q 5) 64 f ++ (lzI G (q 6) 64 ww ++ (lzI G (q 10) 120 tb)))) H → va_D A (lzM m q uu ++ (lzI G (q 5) 64 f ++ (lzI G (q 6) 64 ww ++ (lzI G (q 10) 120 tb)))) → va_S A ss.heap H locs → ∀ ls : Array Slot, lv_has ls 2 [(1, .int (nI k)), (0, .ref m)] → W pp l ee ({ frames := 5, cells := 0, slots := 0, locals := 113 }) ss mm ([.ref m] : List Value).toArray bl me cd H locs 0 0 (MQ bl (va_Qi (S := (Nat → Int32) × ((Nat → Int32) × (Nat → Int32))) (fun (r : Int32) u9 => drM S f tb L r u9.1 u9.2.1) (rwB G (fun u9 : (Nat → Int32) × ((Nat → Int32) × (Nat → Int32)) => (lzM m q u9.1 ++ (lzI G (q 5) 64 u9.2.1 ++ (lzI G (q 6) 64 u9.2.2 ++ (lzI G (q 10) 120 tb)))))) A) ([.ref m] : List Value).toArray ss 0 0 A) (F0 mm 118 ls []) := by
                    intro n9
                    induction n9 with
                    | zero => intro i uu ww hi6 hRi hEi hgi hi0 hrw hn; exact absurd hn (Nat.not_lt_zero _)
                    | succ n9 ih_118 =>
                      intro i uu ww hi6 hRi hEi hgi hi0 hrw hn_118 H locs hP hD hS ls hl
                      refine lv_aload_n hx hb dX4_door_118 rfl (lv_at hl 1 rfl) ?_
                      refine lv_bipush (v := 118) hx hb dX4_door_119 (by decide) ?_
                      have hPc := hP.sub (ws' := lzM m q uu) [0] rfl
                      refine ro_calli (va_runV (As := [.int 118]) (rest := []) ⟨hx, hb, hml, hown, hts⟩ (c_X4_isLetter l G m q uu 118 ) (cwV 1 hts gX4_door_X4_isLetter rfl rfl rfl (by decide +kernel) ⟨Nat.le_of_ble_eq_true rfl, Nat.le_of_ble_eq_true rfl⟩) (ro_preV hK hPc hP (ci := 4) (q0 := 0) rfl rfl) rfl rfl hl.1 rfl (lv_room (Nat.le_of_ble_eq_true rfl)) dX4_door_121 ⟨Nat.zero_le _, Nat.zero_le _⟩) (fun r_22 hr_22 => ?_)
                      refine lv_if_eq (tgt := 134) hx hb dX4_door_124 (by decide) (fun c_124 => ?_) (fun c_124 => ?_)
                      · skip
                        have c_124 := b2_z hr_22 c_124
                        have hv8 : goV tb L (yvs tb L j i) = false := (isLet_z hRi (by decide +kernel) (by decide +kernel)).symm.trans c_124
                        have hsv : stV tb L j i := ⟨dr_ge (p := fun i => goV tb L (yvs tb L j i)) hi0 hv8, hgi, hv8⟩
                        refine lv_aload_n hx hb dX4_door_134 rfl (lv_at hl 1 rfl) ?_
                        have hPc := hP.sub (ws' := lzM m q uu) [0] rfl
                        have hDc := hD.sub (ws' := lzM m q uu) [0] (by decide) rfl
                        have hFc : ∀ zz : Nat, lzA (lzM m q uu) zz → A zz := lz_free hD [0] rfl
                        refine va_calli (va_runV (As := []) (rest := []) ⟨hx, hb, hml, hown, hts⟩ (c_X4_failedR l G m q uu tb L (yvs tb L j i) (hRi) (hL1)) (cwV 0 hts gX4_door_X4_failed rfl rfl rfl (by decide +kernel) ⟨Nat.le_of_ble_eq_true rfl, Nat.le_of_ble_eq_true rfl⟩) (rw_preV hK hPc hDc hP (ci := 4) (q0 := 0) rfl rfl) rfl rfl hl.1 rfl (lv_room (Nat.le_of_ble_eq_true rfl)) dX4_door_135 ⟨Nat.zero_le _, Nat.zero_le _⟩) hS (fun q _ h => hFc q h) hFc (fun r_23 u_24 t9 H1 locs ht hvm hr_23 hB hz1 hk1 hS => ?_)
                        replace hB : va_P G.1 lzC _ t9.heap := hB
                        rw [ht] at hB
                        obtain ⟨hP, hD⟩ := lz_join (wc := lzM m q uu) (wr := ([(q 5, .inl (G.2 0, 64, .inl f)), (q 6, .inl (G.2 0, 64, .inl ww)), (q 10, .inl (G.2 0, 120, .inl tb))] : va_W)) (w1 := lzM m q u_24) hP hD [0] [1, 2, 3] rfl rfl (by decide) (by decide) rfl hk1 hB
                        replace hP := hP.sub (ws' := (lzM m q u_24 ++ (lzI G (q 5) 64 f ++ (lzI G (q 6) 64 ww ++ (lzI G (q 10) 120 tb))))) [3, 0, 1, 2] rfl
                        replace hD := hD.sub (ws' := (lzM m q u_24 ++ (lzI G (q 5) 64 f ++ (lzI G (q 6) 64 ww ++ (lzI G (q 10) 120 tb))))) [3, 0, 1, 2] (by decide) rfl
                        clear ht hvm hB hz1 hk1
                        generalize H1 = H at hP hS ⊢
                        obtain ⟨hb9, hfl9⟩ := hr_23
                        refine lv_if_eq (tgt := 149) hx hb dX4_door_138 (by decide) (fun c_138 => ?_) (fun c_138 => ?_)
                        · skip
                          have c_138 := b2_z hb9 c_138
                          have hf9 : (finZ L (yvs tb L j i)).1 = 0 := by simpa using c_138
                          have hz9 : (yvs tb L j i).1 = 0 := fin_z hf9
                          refine lv_aload_n hx hb dX4_door_149 rfl (lv_at hl 1 rfl) ?_
                          refine lv_iconst (v := 0) hx hb dX4_door_150 (by decide) ?_
                          refine lz_put (G := G) (ci := 4) (C := RX4) (T := TX4) (N := 24) hx hb hu_wsX40 (fun _ h9 => h9) tyX4 tyX4_ok nmX4 hown hK hP hD hS 0 rfl rfl 9 (by decide) hw5 rfl rfl (by decide +kernel) (Nat.le_of_ble_eq_true rfl) dX4_door_151 (lzM m q (upd u_24 9 0) ++ (lzI G (q 5) 64 f ++ (lzI G (q 6) 64 ww ++ (lzI G (q 10) 120 tb)))) rfl (fun H locs hP hD hS => ?_)
                          refine lv_iconst (v := 0) hx hb dX4_door_154 (by decide) ?_
                          refine lv_istore_n (lv' := [(1, .int 0), (0, .ref m)]) hx hb dX4_door_155 rfl hl (by decide) rfl (fun ls hl => ?_)
                          have J_156 : ∀ (n9 : Nat), ∀ (k : Nat), (k ≤ 64) → 64 - k < n9 → ∀ (H : Heap) (locs : List Loc), va_P G.1 lzC (lzM m q (upd u_24 9 0) ++ (lzI G (q 5) 64 (cpR ww f k) ++ (lzI G (q 6) 64 ww ++ (lzI G (q 10) 120 tb)))) H → va_D A (lzM m q (upd u_24 9 0) ++ (lzI G (q 5) 64 (cpR ww f k) ++ (lzI G (q 6) 64 ww ++ (lzI G (q 10) 120 tb)))) → va_S A ss.heap H locs → ∀ ls : Array Slot, lv_has ls 2 [(1, .int (nI k)), (0, .ref m)] → W pp l ee ({ frames := 5, cells := 0, slots := 0, locals := 113 }) ss mm ([.ref m] : List Value).toArray bl me cd H locs 0 0 (MQ bl (va_Qi (S := (Nat → Int32) × ((Nat → Int32) × (Nat → Int32))) (fun (r : Int32) u9 => drM S f tb L r u9.1 u9.2.1) (rwB G (fun u9 : (Nat → Int32) × ((Nat → Int32) × (Nat → Int32)) => (lzM m q u9.1 ++ (lzI G (q 5) 64 u9.2.1 ++ (lzI G (q 6) 64 u9.2.2 ++ (lzI G (q 10) 120 tb)))))) A) ([.ref m] : List Value).toArray ss 0 0 A) (F0 mm 156 ls []) := by
                            intro n9
                            induction n9 with
                            | zero => intro k hk hn; exact absurd hn (Nat.not_lt_zero _)
                            | succ n9 ih_156 =>
                              intro k hk hn_156 H locs hP hD hS ls hl
                              refine lv_iload_n hx hb dX4_door_156 rfl (lv_at hl 0 rfl) ?_
                              refine lv_bipush (v := 64) hx hb dX4_door_157 (by decide) ?_
                              refine lv_icmp_ge (tgt := 180) hx hb dX4_door_159 (by decide) (fun c_159 => ?_) (fun c_159 => ?_)
                              · skip
                                have c_159' := Int32.not_lt.mpr c_159
                                have hk2 : 64 ≤ k := lz_ge (N := 64) rfl c_159 (by omega) (by omega)
                                have hk4 : k = 64 := by omega
                                refine lv_aload_n hx hb dX4_door_180 rfl (lv_at hl 1 rfl) ?_
                                refine lz_get (G := G) (ci := 4) (v := .ref (q 5)) (C := RX4) (T := TX4) (N := 24) hx hb hu_wsX40 (fun _ h9 => h9) hown hK hP 0 rfl rfl 5 (by decide) hw6 rfl rfl dX4_door_181 ?_
                                refine lv_iconst (v := 2) hx hb dX4_door_184 (by decide) ?_
                                refine lz_iald (f := cpR ww f k) hx hb hK hP 1 rfl 2 (by omega) (Nat.le_of_ble_eq_true rfl) dX4_door_185 ?_
                                exact rw_iret (S := (Nat → Int32) × ((Nat → Int32) × (Nat → Int32))) (G := G) (Wd := fun u9 : (Nat → Int32) × ((Nat → Int32) × (Nat → Int32)) => (lzM m q u9.1 ++ (lzI G (q 5) 64 u9.2.1 ++ (lzI G (q 6) 64 u9.2.2 ++ (lzI G (q 10) 120 tb))))) (upd u_24 9 0, (cpR ww f k, ww)) hx hb hr hlk dX4_door_186 hS (hP) (⟨j, i, hst, hsv, dr_el2 hEi hfl9, (hfl9.1 0 (by decide)).trans (hEi 0 (by decide)), hfl9.2.1, Or.inr ⟨hf9, by rw [hk4]; exact (hrw hz9).1.2.2.1, zsq_le8 (yvs_z hz9), yvs_le5 hz9, (hfl9.2.2.2 hf9).trans (hEi 18 (by decide)), rfl, by rw [hk4]; exact rowS_cp (zsq_le8 (yvs_z hz9)) (hrw hz9).1, by rw [hk4]; exact rowV_cp (yvs_le5 hz9) (hrw hz9).2⟩⟩)
                              · skip
                                have c_159' := Int32.not_le.mp c_159
                                have hk2 : k < 64 := lz_lt (N := 64) rfl c_159 (by omega) (by omega)
                                refine lv_aload_n hx hb dX4_door_162 rfl (lv_at hl 1 rfl) ?_
                                refine lz_get (G := G) (ci := 4) (v := .ref (q 5)) (C := RX4) (T := TX4) (N := 24) hx hb hu_wsX40 (fun _ h9 => h9) hown hK hP 0 rfl rfl 5 (by decide) hw6 rfl rfl dX4_door_163 ?_
                                refine lv_iload_n hx hb dX4_door_166 rfl (lv_at hl 0 rfl) ?_
                                refine lv_aload_n hx hb dX4_door_167 rfl (lv_at hl 1 rfl) ?_
                                refine lz_get (G := G) (ci := 4) (v := .ref (q 6)) (C := RX4) (T := TX4) (N := 24) hx hb hu_wsX40 (fun _ h9 => h9) hown hK hP 0 rfl rfl 6 (by decide) hw2 rfl rfl dX4_door_168 ?_
                                refine lv_iload_n hx hb dX4_door_171 rfl (lv_at hl 0 rfl) ?_
                                refine lz_iald (f := ww) hx hb hK hP 2 rfl k (by omega) (Nat.le_of_ble_eq_true rfl) dX4_door_172 ?_
                                refine lz_iast (f := cpR ww f k) hx hb hK hP hD hS 1 rfl k (by omega) (Nat.le_of_ble_eq_true rfl) dX4_door_173 (lzM m q (upd u_24 9 0) ++ (lzI G (q 5) 64 (upd (cpR ww f k) k (ww k)) ++ (lzI G (q 6) 64 ww ++ (lzI G (q 10) 120 tb)))) rfl (fun H locs hP hD hS => ?_)
                                refine lv_iinc (v := nI (k + 1)) (lv' := [(1, .int (nI (k + 1))), (0, .ref m)]) hx hb dX4_door_174 hl (k := 0) rfl (nI_1 _) (by decide) rfl (fun ls hl => ?_)
                                refine lv_goto (tgt := 156) hx hb dX4_door_177 (by decide) ?_
                                have hE_25 : upd (cpR ww f k) k (ww k) = cpR ww f (k + 1) := cpR_s _ _ _
                                replace hP : va_P G.1 lzC (lzM m q (upd u_24 9 0) ++ (lzI G (q 5) 64 (cpR ww f (k + 1)) ++ (lzI G (q 6) 64 ww ++ (lzI G (q 10) 120 tb)))) H := by rw [← hE_25]; exact hP
                                replace hD : va_D A (lzM m q (upd u_24 9 0) ++ (lzI G (q 5) 64 (cpR ww f (k + 1)) ++ (lzI G (q 6) 64 ww ++ (lzI G (q 10) 120 tb)))) := by rw [← hE_25]; exact hD
                                exact ih_156 (k + 1) (by omega) (by omega) _ _ hP hD hS _ (lv_sub hl [0, 1] rfl)
                          have hE_26 : f = cpR ww f 0 := (cpR_0 _ _).symm
                          replace hP : va_P G.1 lzC (lzM m q (upd u_24 9 0) ++ (lzI G (q 5) 64 (cpR ww f 0) ++ (lzI G (q 6) 64 ww ++ (lzI G (q 10) 120 tb)))) H := by rw [← hE_26]; exact hP
                          replace hD : va_D A (lzM m q (upd u_24 9 0) ++ (lzI G (q 5) 64 (cpR ww f 0) ++ (lzI G (q 6) 64 ww ++ (lzI G (q 10) 120 tb)))) := by rw [← hE_26]; exact hD
                          exact J_156 _ 0 (by omega) (Nat.lt_succ_self _) _ _ hP hD hS _ (lv_sub hl [0, 1] rfl)
                        · skip
                          have c_138 := b2_n hb9 c_138
                          have hf9 : ¬ (finZ L (yvs tb L j i)).1 = 0 := by simpa using c_138
                          refine lv_ldc hx hb hown hw3 dX4_door_141 ?_
                          refine lv_aload_n hx hb dX4_door_143 rfl (lv_at hl 1 rfl) ?_
                          refine lz_get (G := G) (ci := 4) (v := .int (u_24 17)) (C := RX4) (T := TX4) (N := 24) hx hb hu_wsX40 (fun _ h9 => h9) hown hK hP 0 rfl rfl 17 (by decide) hw4 rfl rfl dX4_door_144 ?_
                          refine lv_isub hx hb dX4_door_147 ?_
                          exact rw_iret (S := (Nat → Int32) × ((Nat → Int32) × (Nat → Int32))) (G := G) (Wd := fun u9 : (Nat → Int32) × ((Nat → Int32) × (Nat → Int32)) => (lzM m q u9.1 ++ (lzI G (q 5) 64 u9.2.1 ++ (lzI G (q 6) 64 u9.2.2 ++ (lzI G (q 10) 120 tb))))) (u_24, (f, ww)) hx hb hr hlk dX4_door_148 hS (hP) (⟨j, i, hst, hsv, dr_el hEi hfl9, (hfl9.1 0 (by decide)).trans (hEi 0 (by decide)), hfl9.2.1, Or.inl ⟨hf9, by rw [(hfl9.2.2.1 hf9).1], (hfl9.2.2.1 hf9).2, (hfl9.1 9 (by decide)).trans (hEi 9 (by decide)), rfl⟩⟩)
                      · skip
                        have c_124 := b2_n hr_22 c_124
                        have hv8 : goV tb L (yvs tb L j i) = true := (isLet_z hRi (by decide +kernel) (by decide +kernel)).symm.trans c_124
                        have hv9 := goV_0 hv8
                        refine lv_aload_n hx hb dX4_door_127 rfl (lv_at hl 1 rfl) ?_
                        have hPc := hP.sub (ws' := (lzM m q uu ++ (lzI G (q 6) 64 ww ++ (lzI G (q 10) 120 tb)))) [0, 2, 3] rfl
                        have hDc := hD.sub (ws' := (lzM m q uu ++ (lzI G (q 6) 64 ww ++ (lzI G (q 10) 120 tb)))) [0, 2, 3] (by decide) rfl
                        have hFc : ∀ zz : Nat, lzA (lzM m q uu ++ (lzI G (q 6) 64 ww ++ (lzI G (q 10) 120 tb))) zz → A zz := lz_free hD [0, 2, 3] rfl
                        refine va_callv (va_runV (As := []) (rest := []) ⟨hx, hb, hml, hown, hts⟩ (c_X4_readVisitorR l G m q uu ww tb L (yvs tb L j i) i (hRi) (hL1) ((hrw hv9.1).2.1) (yvs_le5 hv9.1) (hv9.1) (hv9.2)) (cwV 0 hts gX4_door_X4_readVisitor rfl rfl rfl (by decide +kernel) ⟨Nat.le_of_ble_eq_true rfl, Nat.le_of_ble_eq_true rfl⟩) (rw_preV hK hPc hDc hP (ci := 4) (q0 := 0) rfl rfl) rfl rfl hl.1 rfl (lv_room (Nat.le_of_ble_eq_true rfl)) dX4_door_128 ⟨Nat.zero_le _, Nat.zero_le _⟩) hS (fun q _ h => hFc q h) hFc (fun u_29 t9 H1 locs ht hvm hr_28 hB hz1 hk1 hS => ?_)
                        replace hB : va_P G.1 lzC _ t9.heap := hB
                        rw [ht] at hB
                        obtain ⟨hP, hD⟩ := lz_join (wc := (lzM m q uu ++ (lzI G (q 6) 64 ww ++ (lzI G (q 10) 120 tb)))) (wr := ([(q 5, .inl (G.2 0, 64, .inl f))] : va_W)) (w1 := (lzM m q u_29 ++ (lzI G (q 6) 64 (vsF tb L i (yvs tb L j i) ww) ++ (lzI G (q 10) 120 tb)))) hP hD [0, 2, 3] [1] rfl rfl (by decide) (by decide) rfl hk1 hB
                        replace hP := hP.sub (ws' := (lzM m q u_29 ++ (lzI G (q 5) 64 f ++ (lzI G (q 6) 64 (vsF tb L i (yvs tb L j i) ww) ++ (lzI G (q 10) 120 tb))))) [1, 0, 2, 3] rfl
                        replace hD := hD.sub (ws' := (lzM m q u_29 ++ (lzI G (q 5) 64 f ++ (lzI G (q 6) 64 (vsF tb L i (yvs tb L j i) ww) ++ (lzI G (q 10) 120 tb))))) [1, 0, 2, 3] (by decide) rfl
                        clear ht hvm hB hz1 hk1
                        generalize H1 = H at hP hS ⊢
                        obtain ⟨hR_27, hE_27⟩ := hr_28
                        have hE_27 := elM_t hEi hE_27
                        refine lv_goto (tgt := 118) hx hb dX4_door_131 (by decide) ?_
                        exact ih_118 (i + 1) u_29 (vsF tb L i (yvs tb L j i) ww) (by have := yvs_le5 hv9.1; omega) (hR_27) (hE_27) (go_s (p := fun i => goV tb L (yvs tb L j i)) hgi hv8) (fun h9 => absurd h9 (Nat.succ_ne_zero _)) (fun h9 => ⟨rowS_v (zsq_le8 (yvs_z hv9.1)) (hrw hv9.1).1, rowV_s (hrw hv9.1).2 h9⟩) (by omega) _ _ hP hD hS _ (lv_sub hl [0, 1] rfl)
                  exact J_118 _ 0 uu ww (Nat.zero_le _) (hRj) (hEj) (fun t h8 h9 => absurd h9 (Nat.not_lt_zero _)) (fun _ => hv0) (fun h9 => ⟨(hrow h9).1, rowV_J (hrow h9).2⟩) (Nat.lt_succ_self _) _ _ hP hD hS _ (lv_sub hl [0, 1] rfl)
                · skip
                  have c_110 := b2_z hr_21 c_110
                  have hv0 : goV tb L (zsq tb L j) = false := (isLet_z hRj (by decide +kernel) (by decide +kernel)).symm.trans c_110
                  refine lv_aload_n hx hb dX4_door_113 rfl (lv_at hl 1 rfl) ?_
                  refine lv_iconst (v := 1) hx hb dX4_door_114 (by decide) ?_
                  have hPc := hP.sub (ws' := lzM m q uu) [0] rfl
                  have hDc := hD.sub (ws' := lzM m q uu) [0] (by decide) rfl
                  have hFc : ∀ zz : Nat, lzA (lzM m q uu) zz → A zz := lz_free hD [0] rfl
                  refine va_callv (va_runV (As := [.int 1]) (rest := []) ⟨hx, hb, hml, hown, hts⟩ (c_X4_badR l G m q uu tb L (zsq tb L j) 1 (hRj) (hL1) (by decide)) (cwV 1 hts gX4_door_X4_bad rfl rfl rfl (by decide +kernel) ⟨Nat.le_of_ble_eq_true rfl, Nat.le_of_ble_eq_true rfl⟩) (rw_preV hK hPc hDc hP (ci := 4) (q0 := 0) rfl rfl) rfl rfl hl.1 rfl (lv_room (Nat.le_of_ble_eq_true rfl)) dX4_door_115 ⟨Nat.zero_le _, Nat.zero_le _⟩) hS (fun q _ h => hFc q h) hFc (fun u_32 t9 H1 locs ht hvm hr_31 hB hz1 hk1 hS => ?_)
                  replace hB : va_P G.1 lzC _ t9.heap := hB
                  rw [ht] at hB
                  obtain ⟨hP, hD⟩ := lz_join (wc := lzM m q uu) (wr := ([(q 5, .inl (G.2 0, 64, .inl f)), (q 6, .inl (G.2 0, 64, .inl ww)), (q 10, .inl (G.2 0, 120, .inl tb))] : va_W)) (w1 := lzM m q u_32) hP hD [0] [1, 2, 3] rfl rfl (by decide) (by decide) rfl hk1 hB
                  replace hP := hP.sub (ws' := (lzM m q u_32 ++ (lzI G (q 5) 64 f ++ (lzI G (q 6) 64 ww ++ (lzI G (q 10) 120 tb))))) [3, 0, 1, 2] rfl
                  replace hD := hD.sub (ws' := (lzM m q u_32 ++ (lzI G (q 5) 64 f ++ (lzI G (q 6) 64 ww ++ (lzI G (q 10) 120 tb))))) [3, 0, 1, 2] (by decide) rfl
                  clear ht hvm hB hz1 hk1
                  generalize H1 = H at hP hS ⊢
                  obtain ⟨hR_30, hE_30⟩ := hr_31
                  have hE_30 := elM_t hEj hE_30
                  have J_118 : ∀ (n9 : Nat), ∀ (i : Nat) (uu : Nat → Int32) (ww : Nat → Int32), (i ≤ 6) → (rpM uu tb L (yvs tb L j i)) → (elM (upd S 0 0) uu) → (∀ t : Nat, 1 ≤ t → t < i → goV tb L (yvs tb L j t) = true) → (i = 0 → goV tb L (yvs tb L j 0) = true) → ((yvs tb L j i).1 = 0 → rowS tb L j ww ∧ rowV tb L j i ww) → 7 - i < n9 → ∀ (H : Heap) (locs : List Loc), va_P G.1 lzC (lzM m q uu ++ (lzI G (q 5) 64 f ++ (lzI G (q 6) 64 ww ++ (lzI G (q 10) 120 tb)))) H → va_D A (lzM m q uu ++ (lzI G (q 5) 64 f ++ (lzI G (q 6) 64 ww ++ (lzI G (q 10) 120 tb)))) → va_S A ss.heap H locs → ∀ ls : Array Slot, lv_has ls 2 [(1, .int (nI k)), (0, .ref m)] → W pp l ee ({ frames := 5, cells := 0, slots := 0, locals := 113 }) ss mm ([.ref m] : List Value).toArray bl me cd H locs 0 0 (MQ bl (va_Qi (S := (Nat → Int32) × ((Nat → Int32) × (Nat → Int32))) (fun (r : Int32) u9 => drM S f tb L r u9.1 u9.2.1) (rwB G (fun u9 : (Nat → Int32) × ((Nat → Int32) × (Nat → Int32)) => (lzM m q u9.1 ++ (lzI G (q 5) 64 u9.2.1 ++ (lzI G (q 6) 64 u9.2.2 ++ (lzI G (q 10) 120 tb)))))) A) ([.ref m] : List Value).toArray ss 0 0 A) (F0 mm 118 ls []) := by
                    intro n9
                    induction n9 with
                    | zero => intro i uu ww hi6 hRi hEi hgi hi0 hrw hn; exact absurd hn (Nat.not_lt_zero _)
                    | succ n9 ih_118 =>
                      intro i uu ww hi6 hRi hEi hgi hi0 hrw hn_118 H locs hP hD hS ls hl
                      refine lv_aload_n hx hb dX4_door_118 rfl (lv_at hl 1 rfl) ?_
                      refine lv_bipush (v := 118) hx hb dX4_door_119 (by decide) ?_
                      have hPc := hP.sub (ws' := lzM m q uu) [0] rfl
                      refine ro_calli (va_runV (As := [.int 118]) (rest := []) ⟨hx, hb, hml, hown, hts⟩ (c_X4_isLetter l G m q uu 118 ) (cwV 1 hts gX4_door_X4_isLetter rfl rfl rfl (by decide +kernel) ⟨Nat.le_of_ble_eq_true rfl, Nat.le_of_ble_eq_true rfl⟩) (ro_preV hK hPc hP (ci := 4) (q0 := 0) rfl rfl) rfl rfl hl.1 rfl (lv_room (Nat.le_of_ble_eq_true rfl)) dX4_door_121 ⟨Nat.zero_le _, Nat.zero_le _⟩) (fun r_33 hr_33 => ?_)
                      refine lv_if_eq (tgt := 134) hx hb dX4_door_124 (by decide) (fun c_124 => ?_) (fun c_124 => ?_)
                      · skip
                        have c_124 := b2_z hr_33 c_124
                        have hv8 : goV tb L (yvs tb L j i) = false := (isLet_z hRi (by decide +kernel) (by decide +kernel)).symm.trans c_124
                        have hsv : stV tb L j i := ⟨dr_ge (p := fun i => goV tb L (yvs tb L j i)) hi0 hv8, hgi, hv8⟩
                        refine lv_aload_n hx hb dX4_door_134 rfl (lv_at hl 1 rfl) ?_
                        have hPc := hP.sub (ws' := lzM m q uu) [0] rfl
                        have hDc := hD.sub (ws' := lzM m q uu) [0] (by decide) rfl
                        have hFc : ∀ zz : Nat, lzA (lzM m q uu) zz → A zz := lz_free hD [0] rfl
                        refine va_calli (va_runV (As := []) (rest := []) ⟨hx, hb, hml, hown, hts⟩ (c_X4_failedR l G m q uu tb L (yvs tb L j i) (hRi) (hL1)) (cwV 0 hts gX4_door_X4_failed rfl rfl rfl (by decide +kernel) ⟨Nat.le_of_ble_eq_true rfl, Nat.le_of_ble_eq_true rfl⟩) (rw_preV hK hPc hDc hP (ci := 4) (q0 := 0) rfl rfl) rfl rfl hl.1 rfl (lv_room (Nat.le_of_ble_eq_true rfl)) dX4_door_135 ⟨Nat.zero_le _, Nat.zero_le _⟩) hS (fun q _ h => hFc q h) hFc (fun r_34 u_35 t9 H1 locs ht hvm hr_34 hB hz1 hk1 hS => ?_)
                        replace hB : va_P G.1 lzC _ t9.heap := hB
                        rw [ht] at hB
                        obtain ⟨hP, hD⟩ := lz_join (wc := lzM m q uu) (wr := ([(q 5, .inl (G.2 0, 64, .inl f)), (q 6, .inl (G.2 0, 64, .inl ww)), (q 10, .inl (G.2 0, 120, .inl tb))] : va_W)) (w1 := lzM m q u_35) hP hD [0] [1, 2, 3] rfl rfl (by decide) (by decide) rfl hk1 hB
                        replace hP := hP.sub (ws' := (lzM m q u_35 ++ (lzI G (q 5) 64 f ++ (lzI G (q 6) 64 ww ++ (lzI G (q 10) 120 tb))))) [3, 0, 1, 2] rfl
                        replace hD := hD.sub (ws' := (lzM m q u_35 ++ (lzI G (q 5) 64 f ++ (lzI G (q 6) 64 ww ++ (lzI G (q 10) 120 tb))))) [3, 0, 1, 2] (by decide) rfl
                        clear ht hvm hB hz1 hk1
                        generalize H1 = H at hP hS ⊢
                        obtain ⟨hb9, hfl9⟩ := hr_34
                        refine lv_if_eq (tgt := 149) hx hb dX4_door_138 (by decide) (fun c_138 => ?_) (fun c_138 => ?_)
                        · skip
                          have c_138 := b2_z hb9 c_138
                          have hf9 : (finZ L (yvs tb L j i)).1 = 0 := by simpa using c_138
                          have hz9 : (yvs tb L j i).1 = 0 := fin_z hf9
                          refine lv_aload_n hx hb dX4_door_149 rfl (lv_at hl 1 rfl) ?_
                          refine lv_iconst (v := 0) hx hb dX4_door_150 (by decide) ?_
                          refine lz_put (G := G) (ci := 4) (C := RX4) (T := TX4) (N := 24) hx hb hu_wsX40 (fun _ h9 => h9) tyX4 tyX4_ok nmX4 hown hK hP hD hS 0 rfl rfl 9 (by decide) hw5 rfl rfl (by decide +kernel) (Nat.le_of_ble_eq_true rfl) dX4_door_151 (lzM m q (upd u_35 9 0) ++ (lzI G (q 5) 64 f ++ (lzI G (q 6) 64 ww ++ (lzI G (q 10) 120 tb)))) rfl (fun H locs hP hD hS => ?_)
                          refine lv_iconst (v := 0) hx hb dX4_door_154 (by decide) ?_
                          refine lv_istore_n (lv' := [(1, .int 0), (0, .ref m)]) hx hb dX4_door_155 rfl hl (by decide) rfl (fun ls hl => ?_)
                          have J_156 : ∀ (n9 : Nat), ∀ (k : Nat), (k ≤ 64) → 64 - k < n9 → ∀ (H : Heap) (locs : List Loc), va_P G.1 lzC (lzM m q (upd u_35 9 0) ++ (lzI G (q 5) 64 (cpR ww f k) ++ (lzI G (q 6) 64 ww ++ (lzI G (q 10) 120 tb)))) H → va_D A (lzM m q (upd u_35 9 0) ++ (lzI G (q 5) 64 (cpR ww f k) ++ (lzI G (q 6) 64 ww ++ (lzI G (q 10) 120 tb)))) → va_S A ss.heap H locs → ∀ ls : Array Slot, lv_has ls 2 [(1, .int (nI k)), (0, .ref m)] → W pp l ee ({ frames := 5, cells := 0, slots := 0, locals := 113 }) ss mm ([.ref m] : List Value).toArray bl me cd H locs 0 0 (MQ bl (va_Qi (S := (Nat → Int32) × ((Nat → Int32) × (Nat → Int32))) (fun (r : Int32) u9 => drM S f tb L r u9.1 u9.2.1) (rwB G (fun u9 : (Nat → Int32) × ((Nat → Int32) × (Nat → Int32)) => (lzM m q u9.1 ++ (lzI G (q 5) 64 u9.2.1 ++ (lzI G (q 6) 64 u9.2.2 ++ (lzI G (q 10) 120 tb)))))) A) ([.ref m] : List Value).toArray ss 0 0 A) (F0 mm 156 ls []) := by
                            intro n9
                            induction n9 with
                            | zero => intro k hk hn; exact absurd hn (Nat.not_lt_zero _)
                            | succ n9 ih_156 =>
                              intro k hk hn_156 H locs hP hD hS ls hl
                              refine lv_iload_n hx hb dX4_door_156 rfl (lv_at hl 0 rfl) ?_
                              refine lv_bipush (v := 64) hx hb dX4_door_157 (by decide) ?_
                              refine lv_icmp_ge (tgt := 180) hx hb dX4_door_159 (by decide) (fun c_159 => ?_) (fun c_159 => ?_)
                              · skip
                                have c_159' := Int32.not_lt.mpr c_159
                                have hk2 : 64 ≤ k := lz_ge (N := 64) rfl c_159 (by omega) (by omega)
                                have hk4 : k = 64 := by omega
                                refine lv_aload_n hx hb dX4_door_180 rfl (lv_at hl 1 rfl) ?_
                                refine lz_get (G := G) (ci := 4) (v := .ref (q 5)) (C := RX4) (T := TX4) (N := 24) hx hb hu_wsX40 (fun _ h9 => h9) hown hK hP 0 rfl rfl 5 (by decide) hw6 rfl rfl dX4_door_181 ?_
                                refine lv_iconst (v := 2) hx hb dX4_door_184 (by decide) ?_
                                refine lz_iald (f := cpR ww f k) hx hb hK hP 1 rfl 2 (by omega) (Nat.le_of_ble_eq_true rfl) dX4_door_185 ?_
                                exact rw_iret (S := (Nat → Int32) × ((Nat → Int32) × (Nat → Int32))) (G := G) (Wd := fun u9 : (Nat → Int32) × ((Nat → Int32) × (Nat → Int32)) => (lzM m q u9.1 ++ (lzI G (q 5) 64 u9.2.1 ++ (lzI G (q 6) 64 u9.2.2 ++ (lzI G (q 10) 120 tb))))) (upd u_35 9 0, (cpR ww f k, ww)) hx hb hr hlk dX4_door_186 hS (hP) (⟨j, i, hst, hsv, dr_el2 hEi hfl9, (hfl9.1 0 (by decide)).trans (hEi 0 (by decide)), hfl9.2.1, Or.inr ⟨hf9, by rw [hk4]; exact (hrw hz9).1.2.2.1, zsq_le8 (yvs_z hz9), yvs_le5 hz9, (hfl9.2.2.2 hf9).trans (hEi 18 (by decide)), rfl, by rw [hk4]; exact rowS_cp (zsq_le8 (yvs_z hz9)) (hrw hz9).1, by rw [hk4]; exact rowV_cp (yvs_le5 hz9) (hrw hz9).2⟩⟩)
                              · skip
                                have c_159' := Int32.not_le.mp c_159
                                have hk2 : k < 64 := lz_lt (N := 64) rfl c_159 (by omega) (by omega)
                                refine lv_aload_n hx hb dX4_door_162 rfl (lv_at hl 1 rfl) ?_
                                refine lz_get (G := G) (ci := 4) (v := .ref (q 5)) (C := RX4) (T := TX4) (N := 24) hx hb hu_wsX40 (fun _ h9 => h9) hown hK hP 0 rfl rfl 5 (by decide) hw6 rfl rfl dX4_door_163 ?_
                                refine lv_iload_n hx hb dX4_door_166 rfl (lv_at hl 0 rfl) ?_
                                refine lv_aload_n hx hb dX4_door_167 rfl (lv_at hl 1 rfl) ?_
                                refine lz_get (G := G) (ci := 4) (v := .ref (q 6)) (C := RX4) (T := TX4) (N := 24) hx hb hu_wsX40 (fun _ h9 => h9) hown hK hP 0 rfl rfl 6 (by decide) hw2 rfl rfl dX4_door_168 ?_
                                refine lv_iload_n hx hb dX4_door_171 rfl (lv_at hl 0 rfl) ?_
                                refine lz_iald (f := ww) hx hb hK hP 2 rfl k (by omega) (Nat.le_of_ble_eq_true rfl) dX4_door_172 ?_
                                refine lz_iast (f := cpR ww f k) hx hb hK hP hD hS 1 rfl k (by omega) (Nat.le_of_ble_eq_true rfl) dX4_door_173 (lzM m q (upd u_35 9 0) ++ (lzI G (q 5) 64 (upd (cpR ww f k) k (ww k)) ++ (lzI G (q 6) 64 ww ++ (lzI G (q 10) 120 tb)))) rfl (fun H locs hP hD hS => ?_)
                                refine lv_iinc (v := nI (k + 1)) (lv' := [(1, .int (nI (k + 1))), (0, .ref m)]) hx hb dX4_door_174 hl (k := 0) rfl (nI_1 _) (by decide) rfl (fun ls hl => ?_)
                                refine lv_goto (tgt := 156) hx hb dX4_door_177 (by decide) ?_
                                have hE_36 : upd (cpR ww f k) k (ww k) = cpR ww f (k + 1) := cpR_s _ _ _
                                replace hP : va_P G.1 lzC (lzM m q (upd u_35 9 0) ++ (lzI G (q 5) 64 (cpR ww f (k + 1)) ++ (lzI G (q 6) 64 ww ++ (lzI G (q 10) 120 tb)))) H := by rw [← hE_36]; exact hP
                                replace hD : va_D A (lzM m q (upd u_35 9 0) ++ (lzI G (q 5) 64 (cpR ww f (k + 1)) ++ (lzI G (q 6) 64 ww ++ (lzI G (q 10) 120 tb)))) := by rw [← hE_36]; exact hD
                                exact ih_156 (k + 1) (by omega) (by omega) _ _ hP hD hS _ (lv_sub hl [0, 1] rfl)
                          have hE_37 : f = cpR ww f 0 := (cpR_0 _ _).symm
                          replace hP : va_P G.1 lzC (lzM m q (upd u_35 9 0) ++ (lzI G (q 5) 64 (cpR ww f 0) ++ (lzI G (q 6) 64 ww ++ (lzI G (q 10) 120 tb)))) H := by rw [← hE_37]; exact hP
                          replace hD : va_D A (lzM m q (upd u_35 9 0) ++ (lzI G (q 5) 64 (cpR ww f 0) ++ (lzI G (q 6) 64 ww ++ (lzI G (q 10) 120 tb)))) := by rw [← hE_37]; exact hD
                          exact J_156 _ 0 (by omega) (Nat.lt_succ_self _) _ _ hP hD hS _ (lv_sub hl [0, 1] rfl)
                        · skip
                          have c_138 := b2_n hb9 c_138
                          have hf9 : ¬ (finZ L (yvs tb L j i)).1 = 0 := by simpa using c_138
                          refine lv_ldc hx hb hown hw3 dX4_door_141 ?_
                          refine lv_aload_n hx hb dX4_door_143 rfl (lv_at hl 1 rfl) ?_
                          refine lz_get (G := G) (ci := 4) (v := .int (u_35 17)) (C := RX4) (T := TX4) (N := 24) hx hb hu_wsX40 (fun _ h9 => h9) hown hK hP 0 rfl rfl 17 (by decide) hw4 rfl rfl dX4_door_144 ?_
                          refine lv_isub hx hb dX4_door_147 ?_
                          exact rw_iret (S := (Nat → Int32) × ((Nat → Int32) × (Nat → Int32))) (G := G) (Wd := fun u9 : (Nat → Int32) × ((Nat → Int32) × (Nat → Int32)) => (lzM m q u9.1 ++ (lzI G (q 5) 64 u9.2.1 ++ (lzI G (q 6) 64 u9.2.2 ++ (lzI G (q 10) 120 tb))))) (u_35, (f, ww)) hx hb hr hlk dX4_door_148 hS (hP) (⟨j, i, hst, hsv, dr_el hEi hfl9, (hfl9.1 0 (by decide)).trans (hEi 0 (by decide)), hfl9.2.1, Or.inl ⟨hf9, by rw [(hfl9.2.2.1 hf9).1], (hfl9.2.2.1 hf9).2, (hfl9.1 9 (by decide)).trans (hEi 9 (by decide)), rfl⟩⟩)
                      · skip
                        have c_124 := b2_n hr_33 c_124
                        have hv8 : goV tb L (yvs tb L j i) = true := (isLet_z hRi (by decide +kernel) (by decide +kernel)).symm.trans c_124
                        have hv9 := goV_0 hv8
                        refine lv_aload_n hx hb dX4_door_127 rfl (lv_at hl 1 rfl) ?_
                        have hPc := hP.sub (ws' := (lzM m q uu ++ (lzI G (q 6) 64 ww ++ (lzI G (q 10) 120 tb)))) [0, 2, 3] rfl
                        have hDc := hD.sub (ws' := (lzM m q uu ++ (lzI G (q 6) 64 ww ++ (lzI G (q 10) 120 tb)))) [0, 2, 3] (by decide) rfl
                        have hFc : ∀ zz : Nat, lzA (lzM m q uu ++ (lzI G (q 6) 64 ww ++ (lzI G (q 10) 120 tb))) zz → A zz := lz_free hD [0, 2, 3] rfl
                        refine va_callv (va_runV (As := []) (rest := []) ⟨hx, hb, hml, hown, hts⟩ (c_X4_readVisitorR l G m q uu ww tb L (yvs tb L j i) i (hRi) (hL1) ((hrw hv9.1).2.1) (yvs_le5 hv9.1) (hv9.1) (hv9.2)) (cwV 0 hts gX4_door_X4_readVisitor rfl rfl rfl (by decide +kernel) ⟨Nat.le_of_ble_eq_true rfl, Nat.le_of_ble_eq_true rfl⟩) (rw_preV hK hPc hDc hP (ci := 4) (q0 := 0) rfl rfl) rfl rfl hl.1 rfl (lv_room (Nat.le_of_ble_eq_true rfl)) dX4_door_128 ⟨Nat.zero_le _, Nat.zero_le _⟩) hS (fun q _ h => hFc q h) hFc (fun u_40 t9 H1 locs ht hvm hr_39 hB hz1 hk1 hS => ?_)
                        replace hB : va_P G.1 lzC _ t9.heap := hB
                        rw [ht] at hB
                        obtain ⟨hP, hD⟩ := lz_join (wc := (lzM m q uu ++ (lzI G (q 6) 64 ww ++ (lzI G (q 10) 120 tb)))) (wr := ([(q 5, .inl (G.2 0, 64, .inl f))] : va_W)) (w1 := (lzM m q u_40 ++ (lzI G (q 6) 64 (vsF tb L i (yvs tb L j i) ww) ++ (lzI G (q 10) 120 tb)))) hP hD [0, 2, 3] [1] rfl rfl (by decide) (by decide) rfl hk1 hB
                        replace hP := hP.sub (ws' := (lzM m q u_40 ++ (lzI G (q 5) 64 f ++ (lzI G (q 6) 64 (vsF tb L i (yvs tb L j i) ww) ++ (lzI G (q 10) 120 tb))))) [1, 0, 2, 3] rfl
                        replace hD := hD.sub (ws' := (lzM m q u_40 ++ (lzI G (q 5) 64 f ++ (lzI G (q 6) 64 (vsF tb L i (yvs tb L j i) ww) ++ (lzI G (q 10) 120 tb))))) [1, 0, 2, 3] (by decide) rfl
                        clear ht hvm hB hz1 hk1
                        generalize H1 = H at hP hS ⊢
                        obtain ⟨hR_38, hE_38⟩ := hr_39
                        have hE_38 := elM_t hEi hE_38
                        refine lv_goto (tgt := 118) hx hb dX4_door_131 (by decide) ?_
                        exact ih_118 (i + 1) u_40 (vsF tb L i (yvs tb L j i) ww) (by have := yvs_le5 hv9.1; omega) (hR_38) (hE_38) (go_s (p := fun i => goV tb L (yvs tb L j i)) hgi hv8) (fun h9 => absurd h9 (Nat.succ_ne_zero _)) (fun h9 => ⟨rowS_v (zsq_le8 (yvs_z hv9.1)) (hrw hv9.1).1, rowV_s (hrw hv9.1).2 h9⟩) (by omega) _ _ hP hD hS _ (lv_sub hl [0, 1] rfl)
                  exact J_118 _ 1 u_32 ww (by decide) ((show rpM u_32 tb L (visZ tb L 0 (zsq tb L j)) by rw [visZ_stop hv0]; exact hR_30)) (hE_30) (fun t h8 h9 => absurd h9 (by omega)) (fun h9 => absurd h9 (by decide)) (fun h9 => absurd h9 (vs_st0 hv0)) (Nat.lt_succ_self _) _ _ hP hD hS _ (lv_sub hl [0, 1] rfl)
              · skip
                have c_94 := b2_n hr_20 c_94
                have hg9 : goS tb L (zsq tb L j) = true := (isSrt_z hRj).symm.trans c_94
                have hg0 := goS_0 hg9
                refine lv_aload_n hx hb dX4_door_97 rfl (lv_at hl 1 rfl) ?_
                have hPc := hP.sub (ws' := (lzM m q uu ++ (lzI G (q 6) 64 ww ++ (lzI G (q 10) 120 tb)))) [0, 2, 3] rfl
                have hDc := hD.sub (ws' := (lzM m q uu ++ (lzI G (q 6) 64 ww ++ (lzI G (q 10) 120 tb)))) [0, 2, 3] (by decide) rfl
                have hFc : ∀ zz : Nat, lzA (lzM m q uu ++ (lzI G (q 6) 64 ww ++ (lzI G (q 10) 120 tb))) zz → A zz := lz_free hD [0, 2, 3] rfl
                refine va_callv (va_runV (As := []) (rest := []) ⟨hx, hb, hml, hown, hts⟩ (c_X4_readSquareR l G m q uu ww tb L (zsq tb L j) j (hRj) (hL1) ((hrow hg0.1).1.2.2.1) (zsq_le8 hg0.1) (hg0.1) (hg0.2)) (cwV 0 hts gX4_door_X4_readSquare rfl rfl rfl (by decide +kernel) ⟨Nat.le_of_ble_eq_true rfl, Nat.le_of_ble_eq_true rfl⟩) (rw_preV hK hPc hDc hP (ci := 4) (q0 := 0) rfl rfl) rfl rfl hl.1 rfl (lv_room (Nat.le_of_ble_eq_true rfl)) dX4_door_98 ⟨Nat.zero_le _, Nat.zero_le _⟩) hS (fun q _ h => hFc q h) hFc (fun u_43 t9 H1 locs ht hvm hr_42 hB hz1 hk1 hS => ?_)
                replace hB : va_P G.1 lzC _ t9.heap := hB
                rw [ht] at hB
                obtain ⟨hP, hD⟩ := lz_join (wc := (lzM m q uu ++ (lzI G (q 6) 64 ww ++ (lzI G (q 10) 120 tb)))) (wr := ([(q 5, .inl (G.2 0, 64, .inl f))] : va_W)) (w1 := (lzM m q u_43 ++ (lzI G (q 6) 64 (sqF tb L j (zsq tb L j) ww) ++ (lzI G (q 10) 120 tb)))) hP hD [0, 2, 3] [1] rfl rfl (by decide) (by decide) rfl hk1 hB
                replace hP := hP.sub (ws' := (lzM m q u_43 ++ (lzI G (q 5) 64 f ++ (lzI G (q 6) 64 (sqF tb L j (zsq tb L j) ww) ++ (lzI G (q 10) 120 tb))))) [1, 0, 2, 3] rfl
                replace hD := hD.sub (ws' := (lzM m q u_43 ++ (lzI G (q 5) 64 f ++ (lzI G (q 6) 64 (sqF tb L j (zsq tb L j) ww) ++ (lzI G (q 10) 120 tb))))) [1, 0, 2, 3] (by decide) rfl
                clear ht hvm hB hz1 hk1
                generalize H1 = H at hP hS ⊢
                obtain ⟨hR_41, hE_41⟩ := hr_42
                have hE_41 := elM_t hEj hE_41
                refine lv_goto (tgt := 90) hx hb dX4_door_101 (by decide) ?_
                exact ih_90 (j + 1) u_43 (sqF tb L j (zsq tb L j) ww) (by have := zsq_le8 hg0.1; omega) (hR_41) (hE_41) (go_s (p := fun i => goS tb L (zsq tb L i)) hgo hg9) (fun h9 => absurd h9 (Nat.succ_ne_zero _)) (fun h9 => ⟨rowS_s (hrow hg0.1).1 h9, rowV_sq (hrow hg0.1).2⟩) (by omega) _ _ hP hD hS _ (lv_sub hl [0, 1] rfl)
          exact J_90 _ 0 u_18 (upd (upd (fa_fill (fun _ => 0) fr k) 0 r_8) 1 r_14) (Nat.zero_le _) (hR_16) (hE_16) (fun i h8 h9 => absurd h9 (Nat.not_lt_zero _)) (fun _ => hg0) (fun h9 => dr_row0 hk3 (hV_7 (sgnS_0 (numS_0 (sgnS_0 h9)))) (hV_13 (sgnS_0 h9))) (Nat.lt_succ_self _) _ _ hP hD hS _ (lv_sub hl [0, 1] rfl)
        · skip
          have c_82 := b2_z hr_19 c_82
          have hg0 : goS tb L (zsq tb L 0) = false := (isSrt_z hR_16).symm.trans c_82
          refine lv_aload_n hx hb dX4_door_85 rfl (lv_at hl 1 rfl) ?_
          refine lv_iconst (v := 1) hx hb dX4_door_86 (by decide) ?_
          have hPc := hP.sub (ws' := lzM m q u_18) [0] rfl
          have hDc := hD.sub (ws' := lzM m q u_18) [0] (by decide) rfl
          have hFc : ∀ zz : Nat, lzA (lzM m q u_18) zz → A zz := lz_free hD [0] rfl
          refine va_callv (va_runV (As := [.int 1]) (rest := []) ⟨hx, hb, hml, hown, hts⟩ (c_X4_badR l G m q u_18 tb L (sgnS tb L 59 (numS tb L 0 8 (sgnS tb L 44 (numS tb L 1 9 (sgnS tb L 100 ((0, 0) : Int32 × Nat)))))) 1 (hR_16) (hL1) (by decide)) (cwV 1 hts gX4_door_X4_bad rfl rfl rfl (by decide +kernel) ⟨Nat.le_of_ble_eq_true rfl, Nat.le_of_ble_eq_true rfl⟩) (rw_preV hK hPc hDc hP (ci := 4) (q0 := 0) rfl rfl) rfl rfl hl.1 rfl (lv_room (Nat.le_of_ble_eq_true rfl)) dX4_door_87 ⟨Nat.zero_le _, Nat.zero_le _⟩) hS (fun q _ h => hFc q h) hFc (fun u_46 t9 H1 locs ht hvm hr_45 hB hz1 hk1 hS => ?_)
          replace hB : va_P G.1 lzC _ t9.heap := hB
          rw [ht] at hB
          obtain ⟨hP, hD⟩ := lz_join (wc := lzM m q u_18) (wr := ([(q 5, .inl (G.2 0, 64, .inl f)), (q 6, .inl (G.2 0, 64, .inl (upd (upd (fa_fill (fun _ => 0) fr k) 0 r_8) 1 r_14))), (q 10, .inl (G.2 0, 120, .inl tb))] : va_W)) (w1 := lzM m q u_46) hP hD [0] [1, 2, 3] rfl rfl (by decide) (by decide) rfl hk1 hB
          replace hP := hP.sub (ws' := (lzM m q u_46 ++ (lzI G (q 5) 64 f ++ (lzI G (q 6) 64 (upd (upd (fa_fill (fun _ => 0) fr k) 0 r_8) 1 r_14) ++ (lzI G (q 10) 120 tb))))) [3, 0, 1, 2] rfl
          replace hD := hD.sub (ws' := (lzM m q u_46 ++ (lzI G (q 5) 64 f ++ (lzI G (q 6) 64 (upd (upd (fa_fill (fun _ => 0) fr k) 0 r_8) 1 r_14) ++ (lzI G (q 10) 120 tb))))) [3, 0, 1, 2] (by decide) rfl
          clear ht hvm hB hz1 hk1
          generalize H1 = H at hP hS ⊢
          obtain ⟨hR_44, hE_44⟩ := hr_45
          have hE_44 := elM_t hE_16 hE_44
          have J_90 : ∀ (n9 : Nat), ∀ (j : Nat) (uu : Nat → Int32) (ww : Nat → Int32), (j ≤ 9) → (rpM uu tb L (zsq tb L j)) → (elM (upd S 0 0) uu) → (∀ i : Nat, 1 ≤ i → i < j → goS tb L (zsq tb L i) = true) → (j = 0 → goS tb L (zsq tb L 0) = true) → ((zsq tb L j).1 = 0 → rowS tb L j ww ∧ rowV tb L 0 0 ww) → 10 - j < n9 → ∀ (H : Heap) (locs : List Loc), va_P G.1 lzC (lzM m q uu ++ (lzI G (q 5) 64 f ++ (lzI G (q 6) 64 ww ++ (lzI G (q 10) 120 tb)))) H → va_D A (lzM m q uu ++ (lzI G (q 5) 64 f ++ (lzI G (q 6) 64 ww ++ (lzI G (q 10) 120 tb)))) → va_S A ss.heap H locs → ∀ ls : Array Slot, lv_has ls 2 [(1, .int (nI k)), (0, .ref m)] → W pp l ee ({ frames := 5, cells := 0, slots := 0, locals := 113 }) ss mm ([.ref m] : List Value).toArray bl me cd H locs 0 0 (MQ bl (va_Qi (S := (Nat → Int32) × ((Nat → Int32) × (Nat → Int32))) (fun (r : Int32) u9 => drM S f tb L r u9.1 u9.2.1) (rwB G (fun u9 : (Nat → Int32) × ((Nat → Int32) × (Nat → Int32)) => (lzM m q u9.1 ++ (lzI G (q 5) 64 u9.2.1 ++ (lzI G (q 6) 64 u9.2.2 ++ (lzI G (q 10) 120 tb)))))) A) ([.ref m] : List Value).toArray ss 0 0 A) (F0 mm 90 ls []) := by
            intro n9
            induction n9 with
            | zero => intro j uu ww hj9 hRj hEj hgo hj0 hrow hn; exact absurd hn (Nat.not_lt_zero _)
            | succ n9 ih_90 =>
              intro j uu ww hj9 hRj hEj hgo hj0 hrow hn_90 H locs hP hD hS ls hl
              refine lv_aload_n hx hb dX4_door_90 rfl (lv_at hl 1 rfl) ?_
              have hPc := hP.sub (ws' := lzM m q uu) [0] rfl
              refine ro_calli (va_runV (As := []) (rest := []) ⟨hx, hb, hml, hown, hts⟩ (c_X4_isSort l G m q uu ) (cwV 0 hts gX4_door_X4_isSort rfl rfl rfl (by decide +kernel) ⟨Nat.le_of_ble_eq_true rfl, Nat.le_of_ble_eq_true rfl⟩) (ro_preV hK hPc hP (ci := 4) (q0 := 0) rfl rfl) rfl rfl hl.1 rfl (lv_room (Nat.le_of_ble_eq_true rfl)) dX4_door_91 ⟨Nat.zero_le _, Nat.zero_le _⟩) (fun r_47 hr_47 => ?_)
              refine lv_if_eq (tgt := 104) hx hb dX4_door_94 (by decide) (fun c_94 => ?_) (fun c_94 => ?_)
              · skip
                have c_94 := b2_z hr_47 c_94
                have hg9 : goS tb L (zsq tb L j) = false := (isSrt_z hRj).symm.trans c_94
                have hst : stS tb L j := ⟨dr_ge (p := fun i => goS tb L (zsq tb L i)) hj0 hg9, hgo, hg9⟩
                refine lv_aload_n hx hb dX4_door_104 rfl (lv_at hl 1 rfl) ?_
                refine lv_bipush (v := 118) hx hb dX4_door_105 (by decide) ?_
                have hPc := hP.sub (ws' := lzM m q uu) [0] rfl
                refine ro_calli (va_runV (As := [.int 118]) (rest := []) ⟨hx, hb, hml, hown, hts⟩ (c_X4_isLetter l G m q uu 118 ) (cwV 1 hts gX4_door_X4_isLetter rfl rfl rfl (by decide +kernel) ⟨Nat.le_of_ble_eq_true rfl, Nat.le_of_ble_eq_true rfl⟩) (ro_preV hK hPc hP (ci := 4) (q0 := 0) rfl rfl) rfl rfl hl.1 rfl (lv_room (Nat.le_of_ble_eq_true rfl)) dX4_door_107 ⟨Nat.zero_le _, Nat.zero_le _⟩) (fun r_48 hr_48 => ?_)
                refine lv_if_ne (tgt := 118) hx hb dX4_door_110 (by decide) (fun c_110 => ?_) (fun c_110 => ?_)
                · skip
                  have c_110 := b2_n hr_48 c_110
                  have hv0 : goV tb L (zsq tb L j) = true := (isLet_z hRj (by decide +kernel) (by decide +kernel)).symm.trans c_110
                  have J_118 : ∀ (n9 : Nat), ∀ (i : Nat) (uu : Nat → Int32) (ww : Nat → Int32), (i ≤ 6) → (rpM uu tb L (yvs tb L j i)) → (elM (upd S 0 0) uu) → (∀ t : Nat, 1 ≤ t → t < i → goV tb L (yvs tb L j t) = true) → (i = 0 → goV tb L (yvs tb L j 0) = true) → ((yvs tb L j i).1 = 0 → rowS tb L j ww ∧ rowV tb L j i ww) → 7 - i < n9 → ∀ (H : Heap) (locs : List Loc), va_P G.1 lzC (lzM m q uu ++ (lzI G (q 5) 64 f ++ (lzI G (q 6) 64 ww ++ (lzI G (q 10) 120 tb)))) H → va_D A (lzM m q uu ++ (lzI G (q 5) 64 f ++ (lzI G (q 6) 64 ww ++ (lzI G (q 10) 120 tb)))) → va_S A ss.heap H locs → ∀ ls : Array Slot, lv_has ls 2 [(1, .int (nI k)), (0, .ref m)] → W pp l ee ({ frames := 5, cells := 0, slots := 0, locals := 113 }) ss mm ([.ref m] : List Value).toArray bl me cd H locs 0 0 (MQ bl (va_Qi (S := (Nat → Int32) × ((Nat → Int32) × (Nat → Int32))) (fun (r : Int32) u9 => drM S f tb L r u9.1 u9.2.1) (rwB G (fun u9 : (Nat → Int32) × ((Nat → Int32) × (Nat → Int32)) => (lzM m q u9.1 ++ (lzI G (q 5) 64 u9.2.1 ++ (lzI G (q 6) 64 u9.2.2 ++ (lzI G (q 10) 120 tb)))))) A) ([.ref m] : List Value).toArray ss 0 0 A) (F0 mm 118 ls []) := by
                    intro n9
                    induction n9 with
                    | zero => intro i uu ww hi6 hRi hEi hgi hi0 hrw hn; exact absurd hn (Nat.not_lt_zero _)
                    | succ n9 ih_118 =>
                      intro i uu ww hi6 hRi hEi hgi hi0 hrw hn_118 H locs hP hD hS ls hl
                      refine lv_aload_n hx hb dX4_door_118 rfl (lv_at hl 1 rfl) ?_
                      refine lv_bipush (v := 118) hx hb dX4_door_119 (by decide) ?_
                      have hPc := hP.sub (ws' := lzM m q uu) [0] rfl
                      refine ro_calli (va_runV (As := [.int 118]) (rest := []) ⟨hx, hb, hml, hown, hts⟩ (c_X4_isLetter l G m q uu 118 ) (cwV 1 hts gX4_door_X4_isLetter rfl rfl rfl (by decide +kernel) ⟨Nat.le_of_ble_eq_true rfl, Nat.le_of_ble_eq_true rfl⟩) (ro_preV hK hPc hP (ci := 4) (q0 := 0) rfl rfl) rfl rfl hl.1 rfl (lv_room (Nat.le_of_ble_eq_true rfl)) dX4_door_121 ⟨Nat.zero_le _, Nat.zero_le _⟩) (fun r_49 hr_49 => ?_)
                      refine lv_if_eq (tgt := 134) hx hb dX4_door_124 (by decide) (fun c_124 => ?_) (fun c_124 => ?_)
                      · skip
                        have c_124 := b2_z hr_49 c_124
                        have hv8 : goV tb L (yvs tb L j i) = false := (isLet_z hRi (by decide +kernel) (by decide +kernel)).symm.trans c_124
                        have hsv : stV tb L j i := ⟨dr_ge (p := fun i => goV tb L (yvs tb L j i)) hi0 hv8, hgi, hv8⟩
                        refine lv_aload_n hx hb dX4_door_134 rfl (lv_at hl 1 rfl) ?_
                        have hPc := hP.sub (ws' := lzM m q uu) [0] rfl
                        have hDc := hD.sub (ws' := lzM m q uu) [0] (by decide) rfl
                        have hFc : ∀ zz : Nat, lzA (lzM m q uu) zz → A zz := lz_free hD [0] rfl
                        refine va_calli (va_runV (As := []) (rest := []) ⟨hx, hb, hml, hown, hts⟩ (c_X4_failedR l G m q uu tb L (yvs tb L j i) (hRi) (hL1)) (cwV 0 hts gX4_door_X4_failed rfl rfl rfl (by decide +kernel) ⟨Nat.le_of_ble_eq_true rfl, Nat.le_of_ble_eq_true rfl⟩) (rw_preV hK hPc hDc hP (ci := 4) (q0 := 0) rfl rfl) rfl rfl hl.1 rfl (lv_room (Nat.le_of_ble_eq_true rfl)) dX4_door_135 ⟨Nat.zero_le _, Nat.zero_le _⟩) hS (fun q _ h => hFc q h) hFc (fun r_50 u_51 t9 H1 locs ht hvm hr_50 hB hz1 hk1 hS => ?_)
                        replace hB : va_P G.1 lzC _ t9.heap := hB
                        rw [ht] at hB
                        obtain ⟨hP, hD⟩ := lz_join (wc := lzM m q uu) (wr := ([(q 5, .inl (G.2 0, 64, .inl f)), (q 6, .inl (G.2 0, 64, .inl ww)), (q 10, .inl (G.2 0, 120, .inl tb))] : va_W)) (w1 := lzM m q u_51) hP hD [0] [1, 2, 3] rfl rfl (by decide) (by decide) rfl hk1 hB
                        replace hP := hP.sub (ws' := (lzM m q u_51 ++ (lzI G (q 5) 64 f ++ (lzI G (q 6) 64 ww ++ (lzI G (q 10) 120 tb))))) [3, 0, 1, 2] rfl
                        replace hD := hD.sub (ws' := (lzM m q u_51 ++ (lzI G (q 5) 64 f ++ (lzI G (q 6) 64 ww ++ (lzI G (q 10) 120 tb))))) [3, 0, 1, 2] (by decide) rfl
                        clear ht hvm hB hz1 hk1
                        generalize H1 = H at hP hS ⊢
                        obtain ⟨hb9, hfl9⟩ := hr_50
                        refine lv_if_eq (tgt := 149) hx hb dX4_door_138 (by decide) (fun c_138 => ?_) (fun c_138 => ?_)
                        · skip
                          have c_138 := b2_z hb9 c_138
                          have hf9 : (finZ L (yvs tb L j i)).1 = 0 := by simpa using c_138
                          have hz9 : (yvs tb L j i).1 = 0 := fin_z hf9
                          refine lv_aload_n hx hb dX4_door_149 rfl (lv_at hl 1 rfl) ?_
                          refine lv_iconst (v := 0) hx hb dX4_door_150 (by decide) ?_
                          refine lz_put (G := G) (ci := 4) (C := RX4) (T := TX4) (N := 24) hx hb hu_wsX40 (fun _ h9 => h9) tyX4 tyX4_ok nmX4 hown hK hP hD hS 0 rfl rfl 9 (by decide) hw5 rfl rfl (by decide +kernel) (Nat.le_of_ble_eq_true rfl) dX4_door_151 (lzM m q (upd u_51 9 0) ++ (lzI G (q 5) 64 f ++ (lzI G (q 6) 64 ww ++ (lzI G (q 10) 120 tb)))) rfl (fun H locs hP hD hS => ?_)
                          refine lv_iconst (v := 0) hx hb dX4_door_154 (by decide) ?_
                          refine lv_istore_n (lv' := [(1, .int 0), (0, .ref m)]) hx hb dX4_door_155 rfl hl (by decide) rfl (fun ls hl => ?_)
                          have J_156 : ∀ (n9 : Nat), ∀ (k : Nat), (k ≤ 64) → 64 - k < n9 → ∀ (H : Heap) (locs : List Loc), va_P G.1 lzC (lzM m q (upd u_51 9 0) ++ (lzI G (q 5) 64 (cpR ww f k) ++ (lzI G (q 6) 64 ww ++ (lzI G (q 10) 120 tb)))) H → va_D A (lzM m q (upd u_51 9 0) ++ (lzI G (q 5) 64 (cpR ww f k) ++ (lzI G (q 6) 64 ww ++ (lzI G (q 10) 120 tb)))) → va_S A ss.heap H locs → ∀ ls : Array Slot, lv_has ls 2 [(1, .int (nI k)), (0, .ref m)] → W pp l ee ({ frames := 5, cells := 0, slots := 0, locals := 113 }) ss mm ([.ref m] : List Value).toArray bl me cd H locs 0 0 (MQ bl (va_Qi (S := (Nat → Int32) × ((Nat → Int32) × (Nat → Int32))) (fun (r : Int32) u9 => drM S f tb L r u9.1 u9.2.1) (rwB G (fun u9 : (Nat → Int32) × ((Nat → Int32) × (Nat → Int32)) => (lzM m q u9.1 ++ (lzI G (q 5) 64 u9.2.1 ++ (lzI G (q 6) 64 u9.2.2 ++ (lzI G (q 10) 120 tb)))))) A) ([.ref m] : List Value).toArray ss 0 0 A) (F0 mm 156 ls []) := by
                            intro n9
                            induction n9 with
                            | zero => intro k hk hn; exact absurd hn (Nat.not_lt_zero _)
                            | succ n9 ih_156 =>
                              intro k hk hn_156 H locs hP hD hS ls hl
                              refine lv_iload_n hx hb dX4_door_156 rfl (lv_at hl 0 rfl) ?_
                              refine lv_bipush (v := 64) hx hb dX4_door_157 (by decide) ?_
                              refine lv_icmp_ge (tgt := 180) hx hb dX4_door_159 (by decide) (fun c_159 => ?_) (fun c_159 => ?_)
                              · skip
                                have c_159' := Int32.not_lt.mpr c_159
                                have hk2 : 64 ≤ k := lz_ge (N := 64) rfl c_159 (by omega) (by omega)
                                have hk4 : k = 64 := by omega
                                refine lv_aload_n hx hb dX4_door_180 rfl (lv_at hl 1 rfl) ?_
                                refine lz_get (G := G) (ci := 4) (v := .ref (q 5)) (C := RX4) (T := TX4) (N := 24) hx hb hu_wsX40 (fun _ h9 => h9) hown hK hP 0 rfl rfl 5 (by decide) hw6 rfl rfl dX4_door_181 ?_
                                refine lv_iconst (v := 2) hx hb dX4_door_184 (by decide) ?_
                                refine lz_iald (f := cpR ww f k) hx hb hK hP 1 rfl 2 (by omega) (Nat.le_of_ble_eq_true rfl) dX4_door_185 ?_
                                exact rw_iret (S := (Nat → Int32) × ((Nat → Int32) × (Nat → Int32))) (G := G) (Wd := fun u9 : (Nat → Int32) × ((Nat → Int32) × (Nat → Int32)) => (lzM m q u9.1 ++ (lzI G (q 5) 64 u9.2.1 ++ (lzI G (q 6) 64 u9.2.2 ++ (lzI G (q 10) 120 tb))))) (upd u_51 9 0, (cpR ww f k, ww)) hx hb hr hlk dX4_door_186 hS (hP) (⟨j, i, hst, hsv, dr_el2 hEi hfl9, (hfl9.1 0 (by decide)).trans (hEi 0 (by decide)), hfl9.2.1, Or.inr ⟨hf9, by rw [hk4]; exact (hrw hz9).1.2.2.1, zsq_le8 (yvs_z hz9), yvs_le5 hz9, (hfl9.2.2.2 hf9).trans (hEi 18 (by decide)), rfl, by rw [hk4]; exact rowS_cp (zsq_le8 (yvs_z hz9)) (hrw hz9).1, by rw [hk4]; exact rowV_cp (yvs_le5 hz9) (hrw hz9).2⟩⟩)
                              · skip
                                have c_159' := Int32.not_le.mp c_159
                                have hk2 : k < 64 := lz_lt (N := 64) rfl c_159 (by omega) (by omega)
                                refine lv_aload_n hx hb dX4_door_162 rfl (lv_at hl 1 rfl) ?_
                                refine lz_get (G := G) (ci := 4) (v := .ref (q 5)) (C := RX4) (T := TX4) (N := 24) hx hb hu_wsX40 (fun _ h9 => h9) hown hK hP 0 rfl rfl 5 (by decide) hw6 rfl rfl dX4_door_163 ?_
                                refine lv_iload_n hx hb dX4_door_166 rfl (lv_at hl 0 rfl) ?_
                                refine lv_aload_n hx hb dX4_door_167 rfl (lv_at hl 1 rfl) ?_
                                refine lz_get (G := G) (ci := 4) (v := .ref (q 6)) (C := RX4) (T := TX4) (N := 24) hx hb hu_wsX40 (fun _ h9 => h9) hown hK hP 0 rfl rfl 6 (by decide) hw2 rfl rfl dX4_door_168 ?_
                                refine lv_iload_n hx hb dX4_door_171 rfl (lv_at hl 0 rfl) ?_
                                refine lz_iald (f := ww) hx hb hK hP 2 rfl k (by omega) (Nat.le_of_ble_eq_true rfl) dX4_door_172 ?_
                                refine lz_iast (f := cpR ww f k) hx hb hK hP hD hS 1 rfl k (by omega) (Nat.le_of_ble_eq_true rfl) dX4_door_173 (lzM m q (upd u_51 9 0) ++ (lzI G (q 5) 64 (upd (cpR ww f k) k (ww k)) ++ (lzI G (q 6) 64 ww ++ (lzI G (q 10) 120 tb)))) rfl (fun H locs hP hD hS => ?_)
                                refine lv_iinc (v := nI (k + 1)) (lv' := [(1, .int (nI (k + 1))), (0, .ref m)]) hx hb dX4_door_174 hl (k := 0) rfl (nI_1 _) (by decide) rfl (fun ls hl => ?_)
                                refine lv_goto (tgt := 156) hx hb dX4_door_177 (by decide) ?_
                                have hE_52 : upd (cpR ww f k) k (ww k) = cpR ww f (k + 1) := cpR_s _ _ _
                                replace hP : va_P G.1 lzC (lzM m q (upd u_51 9 0) ++ (lzI G (q 5) 64 (cpR ww f (k + 1)) ++ (lzI G (q 6) 64 ww ++ (lzI G (q 10) 120 tb)))) H := by rw [← hE_52]; exact hP
                                replace hD : va_D A (lzM m q (upd u_51 9 0) ++ (lzI G (q 5) 64 (cpR ww f (k + 1)) ++ (lzI G (q 6) 64 ww ++ (lzI G (q 10) 120 tb)))) := by rw [← hE_52]; exact hD
                                exact ih_156 (k + 1) (by omega) (by omega) _ _ hP hD hS _ (lv_sub hl [0, 1] rfl)
                          have hE_53 : f = cpR ww f 0 := (cpR_0 _ _).symm
                          replace hP : va_P G.1 lzC (lzM m q (upd u_51 9 0) ++ (lzI G (q 5) 64 (cpR ww f 0) ++ (lzI G (q 6) 64 ww ++ (lzI G (q 10) 120 tb)))) H := by rw [← hE_53]; exact hP
                          replace hD : va_D A (lzM m q (upd u_51 9 0) ++ (lzI G (q 5) 64 (cpR ww f 0) ++ (lzI G (q 6) 64 ww ++ (lzI G (q 10) 120 tb)))) := by rw [← hE_53]; exact hD
                          exact J_156 _ 0 (by omega) (Nat.lt_succ_self _) _ _ hP hD hS _ (lv_sub hl [0, 1] rfl)
                        · skip
                          have c_138 := b2_n hb9 c_138
                          have hf9 : ¬ (finZ L (yvs tb L j i)).1 = 0 := by simpa using c_138
                          refine lv_ldc hx hb hown hw3 dX4_door_141 ?_
                          refine lv_aload_n hx hb dX4_door_143 rfl (lv_at hl 1 rfl) ?_
                          refine lz_get (G := G) (ci := 4) (v := .int (u_51 17)) (C := RX4) (T := TX4) (N := 24) hx hb hu_wsX40 (fun _ h9 => h9) hown hK hP 0 rfl rfl 17 (by decide) hw4 rfl rfl dX4_door_144 ?_
                          refine lv_isub hx hb dX4_door_147 ?_
                          exact rw_iret (S := (Nat → Int32) × ((Nat → Int32) × (Nat → Int32))) (G := G) (Wd := fun u9 : (Nat → Int32) × ((Nat → Int32) × (Nat → Int32)) => (lzM m q u9.1 ++ (lzI G (q 5) 64 u9.2.1 ++ (lzI G (q 6) 64 u9.2.2 ++ (lzI G (q 10) 120 tb))))) (u_51, (f, ww)) hx hb hr hlk dX4_door_148 hS (hP) (⟨j, i, hst, hsv, dr_el hEi hfl9, (hfl9.1 0 (by decide)).trans (hEi 0 (by decide)), hfl9.2.1, Or.inl ⟨hf9, by rw [(hfl9.2.2.1 hf9).1], (hfl9.2.2.1 hf9).2, (hfl9.1 9 (by decide)).trans (hEi 9 (by decide)), rfl⟩⟩)
                      · skip
                        have c_124 := b2_n hr_49 c_124
                        have hv8 : goV tb L (yvs tb L j i) = true := (isLet_z hRi (by decide +kernel) (by decide +kernel)).symm.trans c_124
                        have hv9 := goV_0 hv8
                        refine lv_aload_n hx hb dX4_door_127 rfl (lv_at hl 1 rfl) ?_
                        have hPc := hP.sub (ws' := (lzM m q uu ++ (lzI G (q 6) 64 ww ++ (lzI G (q 10) 120 tb)))) [0, 2, 3] rfl
                        have hDc := hD.sub (ws' := (lzM m q uu ++ (lzI G (q 6) 64 ww ++ (lzI G (q 10) 120 tb)))) [0, 2, 3] (by decide) rfl
                        have hFc : ∀ zz : Nat, lzA (lzM m q uu ++ (lzI G (q 6) 64 ww ++ (lzI G (q 10) 120 tb))) zz → A zz := lz_free hD [0, 2, 3] rfl
                        refine va_callv (va_runV (As := []) (rest := []) ⟨hx, hb, hml, hown, hts⟩ (c_X4_readVisitorR l G m q uu ww tb L (yvs tb L j i) i (hRi) (hL1) ((hrw hv9.1).2.1) (yvs_le5 hv9.1) (hv9.1) (hv9.2)) (cwV 0 hts gX4_door_X4_readVisitor rfl rfl rfl (by decide +kernel) ⟨Nat.le_of_ble_eq_true rfl, Nat.le_of_ble_eq_true rfl⟩) (rw_preV hK hPc hDc hP (ci := 4) (q0 := 0) rfl rfl) rfl rfl hl.1 rfl (lv_room (Nat.le_of_ble_eq_true rfl)) dX4_door_128 ⟨Nat.zero_le _, Nat.zero_le _⟩) hS (fun q _ h => hFc q h) hFc (fun u_56 t9 H1 locs ht hvm hr_55 hB hz1 hk1 hS => ?_)
                        replace hB : va_P G.1 lzC _ t9.heap := hB
                        rw [ht] at hB
                        obtain ⟨hP, hD⟩ := lz_join (wc := (lzM m q uu ++ (lzI G (q 6) 64 ww ++ (lzI G (q 10) 120 tb)))) (wr := ([(q 5, .inl (G.2 0, 64, .inl f))] : va_W)) (w1 := (lzM m q u_56 ++ (lzI G (q 6) 64 (vsF tb L i (yvs tb L j i) ww) ++ (lzI G (q 10) 120 tb)))) hP hD [0, 2, 3] [1] rfl rfl (by decide) (by decide) rfl hk1 hB
                        replace hP := hP.sub (ws' := (lzM m q u_56 ++ (lzI G (q 5) 64 f ++ (lzI G (q 6) 64 (vsF tb L i (yvs tb L j i) ww) ++ (lzI G (q 10) 120 tb))))) [1, 0, 2, 3] rfl
                        replace hD := hD.sub (ws' := (lzM m q u_56 ++ (lzI G (q 5) 64 f ++ (lzI G (q 6) 64 (vsF tb L i (yvs tb L j i) ww) ++ (lzI G (q 10) 120 tb))))) [1, 0, 2, 3] (by decide) rfl
                        clear ht hvm hB hz1 hk1
                        generalize H1 = H at hP hS ⊢
                        obtain ⟨hR_54, hE_54⟩ := hr_55
                        have hE_54 := elM_t hEi hE_54
                        refine lv_goto (tgt := 118) hx hb dX4_door_131 (by decide) ?_
                        exact ih_118 (i + 1) u_56 (vsF tb L i (yvs tb L j i) ww) (by have := yvs_le5 hv9.1; omega) (hR_54) (hE_54) (go_s (p := fun i => goV tb L (yvs tb L j i)) hgi hv8) (fun h9 => absurd h9 (Nat.succ_ne_zero _)) (fun h9 => ⟨rowS_v (zsq_le8 (yvs_z hv9.1)) (hrw hv9.1).1, rowV_s (hrw hv9.1).2 h9⟩) (by omega) _ _ hP hD hS _ (lv_sub hl [0, 1] rfl)
                  exact J_118 _ 0 uu ww (Nat.zero_le _) (hRj) (hEj) (fun t h8 h9 => absurd h9 (Nat.not_lt_zero _)) (fun _ => hv0) (fun h9 => ⟨(hrow h9).1, rowV_J (hrow h9).2⟩) (Nat.lt_succ_self _) _ _ hP hD hS _ (lv_sub hl [0, 1] rfl)
                · skip
                  have c_110 := b2_z hr_48 c_110
                  have hv0 : goV tb L (zsq tb L j) = false := (isLet_z hRj (by decide +kernel) (by decide +kernel)).symm.trans c_110
                  refine lv_aload_n hx hb dX4_door_113 rfl (lv_at hl 1 rfl) ?_
                  refine lv_iconst (v := 1) hx hb dX4_door_114 (by decide) ?_
                  have hPc := hP.sub (ws' := lzM m q uu) [0] rfl
                  have hDc := hD.sub (ws' := lzM m q uu) [0] (by decide) rfl
                  have hFc : ∀ zz : Nat, lzA (lzM m q uu) zz → A zz := lz_free hD [0] rfl
                  refine va_callv (va_runV (As := [.int 1]) (rest := []) ⟨hx, hb, hml, hown, hts⟩ (c_X4_badR l G m q uu tb L (zsq tb L j) 1 (hRj) (hL1) (by decide)) (cwV 1 hts gX4_door_X4_bad rfl rfl rfl (by decide +kernel) ⟨Nat.le_of_ble_eq_true rfl, Nat.le_of_ble_eq_true rfl⟩) (rw_preV hK hPc hDc hP (ci := 4) (q0 := 0) rfl rfl) rfl rfl hl.1 rfl (lv_room (Nat.le_of_ble_eq_true rfl)) dX4_door_115 ⟨Nat.zero_le _, Nat.zero_le _⟩) hS (fun q _ h => hFc q h) hFc (fun u_59 t9 H1 locs ht hvm hr_58 hB hz1 hk1 hS => ?_)
                  replace hB : va_P G.1 lzC _ t9.heap := hB
                  rw [ht] at hB
                  obtain ⟨hP, hD⟩ := lz_join (wc := lzM m q uu) (wr := ([(q 5, .inl (G.2 0, 64, .inl f)), (q 6, .inl (G.2 0, 64, .inl ww)), (q 10, .inl (G.2 0, 120, .inl tb))] : va_W)) (w1 := lzM m q u_59) hP hD [0] [1, 2, 3] rfl rfl (by decide) (by decide) rfl hk1 hB
                  replace hP := hP.sub (ws' := (lzM m q u_59 ++ (lzI G (q 5) 64 f ++ (lzI G (q 6) 64 ww ++ (lzI G (q 10) 120 tb))))) [3, 0, 1, 2] rfl
                  replace hD := hD.sub (ws' := (lzM m q u_59 ++ (lzI G (q 5) 64 f ++ (lzI G (q 6) 64 ww ++ (lzI G (q 10) 120 tb))))) [3, 0, 1, 2] (by decide) rfl
                  clear ht hvm hB hz1 hk1
                  generalize H1 = H at hP hS ⊢
                  obtain ⟨hR_57, hE_57⟩ := hr_58
                  have hE_57 := elM_t hEj hE_57
                  have J_118 : ∀ (n9 : Nat), ∀ (i : Nat) (uu : Nat → Int32) (ww : Nat → Int32), (i ≤ 6) → (rpM uu tb L (yvs tb L j i)) → (elM (upd S 0 0) uu) → (∀ t : Nat, 1 ≤ t → t < i → goV tb L (yvs tb L j t) = true) → (i = 0 → goV tb L (yvs tb L j 0) = true) → ((yvs tb L j i).1 = 0 → rowS tb L j ww ∧ rowV tb L j i ww) → 7 - i < n9 → ∀ (H : Heap) (locs : List Loc), va_P G.1 lzC (lzM m q uu ++ (lzI G (q 5) 64 f ++ (lzI G (q 6) 64 ww ++ (lzI G (q 10) 120 tb)))) H → va_D A (lzM m q uu ++ (lzI G (q 5) 64 f ++ (lzI G (q 6) 64 ww ++ (lzI G (q 10) 120 tb)))) → va_S A ss.heap H locs → ∀ ls : Array Slot, lv_has ls 2 [(1, .int (nI k)), (0, .ref m)] → W pp l ee ({ frames := 5, cells := 0, slots := 0, locals := 113 }) ss mm ([.ref m] : List Value).toArray bl me cd H locs 0 0 (MQ bl (va_Qi (S := (Nat → Int32) × ((Nat → Int32) × (Nat → Int32))) (fun (r : Int32) u9 => drM S f tb L r u9.1 u9.2.1) (rwB G (fun u9 : (Nat → Int32) × ((Nat → Int32) × (Nat → Int32)) => (lzM m q u9.1 ++ (lzI G (q 5) 64 u9.2.1 ++ (lzI G (q 6) 64 u9.2.2 ++ (lzI G (q 10) 120 tb)))))) A) ([.ref m] : List Value).toArray ss 0 0 A) (F0 mm 118 ls []) := by
                    intro n9
                    induction n9 with
                    | zero => intro i uu ww hi6 hRi hEi hgi hi0 hrw hn; exact absurd hn (Nat.not_lt_zero _)
                    | succ n9 ih_118 =>
                      intro i uu ww hi6 hRi hEi hgi hi0 hrw hn_118 H locs hP hD hS ls hl
                      refine lv_aload_n hx hb dX4_door_118 rfl (lv_at hl 1 rfl) ?_
                      refine lv_bipush (v := 118) hx hb dX4_door_119 (by decide) ?_
                      have hPc := hP.sub (ws' := lzM m q uu) [0] rfl
                      refine ro_calli (va_runV (As := [.int 118]) (rest := []) ⟨hx, hb, hml, hown, hts⟩ (c_X4_isLetter l G m q uu 118 ) (cwV 1 hts gX4_door_X4_isLetter rfl rfl rfl (by decide +kernel) ⟨Nat.le_of_ble_eq_true rfl, Nat.le_of_ble_eq_true rfl⟩) (ro_preV hK hPc hP (ci := 4) (q0 := 0) rfl rfl) rfl rfl hl.1 rfl (lv_room (Nat.le_of_ble_eq_true rfl)) dX4_door_121 ⟨Nat.zero_le _, Nat.zero_le _⟩) (fun r_60 hr_60 => ?_)
                      refine lv_if_eq (tgt := 134) hx hb dX4_door_124 (by decide) (fun c_124 => ?_) (fun c_124 => ?_)
                      · skip
                        have c_124 := b2_z hr_60 c_124
                        have hv8 : goV tb L (yvs tb L j i) = false := (isLet_z hRi (by decide +kernel) (by decide +kernel)).symm.trans c_124
                        have hsv : stV tb L j i := ⟨dr_ge (p := fun i => goV tb L (yvs tb L j i)) hi0 hv8, hgi, hv8⟩
                        refine lv_aload_n hx hb dX4_door_134 rfl (lv_at hl 1 rfl) ?_
                        have hPc := hP.sub (ws' := lzM m q uu) [0] rfl
                        have hDc := hD.sub (ws' := lzM m q uu) [0] (by decide) rfl
                        have hFc : ∀ zz : Nat, lzA (lzM m q uu) zz → A zz := lz_free hD [0] rfl
                        refine va_calli (va_runV (As := []) (rest := []) ⟨hx, hb, hml, hown, hts⟩ (c_X4_failedR l G m q uu tb L (yvs tb L j i) (hRi) (hL1)) (cwV 0 hts gX4_door_X4_failed rfl rfl rfl (by decide +kernel) ⟨Nat.le_of_ble_eq_true rfl, Nat.le_of_ble_eq_true rfl⟩) (rw_preV hK hPc hDc hP (ci := 4) (q0 := 0) rfl rfl) rfl rfl hl.1 rfl (lv_room (Nat.le_of_ble_eq_true rfl)) dX4_door_135 ⟨Nat.zero_le _, Nat.zero_le _⟩) hS (fun q _ h => hFc q h) hFc (fun r_61 u_62 t9 H1 locs ht hvm hr_61 hB hz1 hk1 hS => ?_)
                        replace hB : va_P G.1 lzC _ t9.heap := hB
                        rw [ht] at hB
                        obtain ⟨hP, hD⟩ := lz_join (wc := lzM m q uu) (wr := ([(q 5, .inl (G.2 0, 64, .inl f)), (q 6, .inl (G.2 0, 64, .inl ww)), (q 10, .inl (G.2 0, 120, .inl tb))] : va_W)) (w1 := lzM m q u_62) hP hD [0] [1, 2, 3] rfl rfl (by decide) (by decide) rfl hk1 hB
                        replace hP := hP.sub (ws' := (lzM m q u_62 ++ (lzI G (q 5) 64 f ++ (lzI G (q 6) 64 ww ++ (lzI G (q 10) 120 tb))))) [3, 0, 1, 2] rfl
                        replace hD := hD.sub (ws' := (lzM m q u_62 ++ (lzI G (q 5) 64 f ++ (lzI G (q 6) 64 ww ++ (lzI G (q 10) 120 tb))))) [3, 0, 1, 2] (by decide) rfl
                        clear ht hvm hB hz1 hk1
                        generalize H1 = H at hP hS ⊢
                        obtain ⟨hb9, hfl9⟩ := hr_61
                        refine lv_if_eq (tgt := 149) hx hb dX4_door_138 (by decide) (fun c_138 => ?_) (fun c_138 => ?_)
                        · skip
                          have c_138 := b2_z hb9 c_138
                          have hf9 : (finZ L (yvs tb L j i)).1 = 0 := by simpa using c_138
                          have hz9 : (yvs tb L j i).1 = 0 := fin_z hf9
                          refine lv_aload_n hx hb dX4_door_149 rfl (lv_at hl 1 rfl) ?_
                          refine lv_iconst (v := 0) hx hb dX4_door_150 (by decide) ?_
                          refine lz_put (G := G) (ci := 4) (C := RX4) (T := TX4) (N := 24) hx hb hu_wsX40 (fun _ h9 => h9) tyX4 tyX4_ok nmX4 hown hK hP hD hS 0 rfl rfl 9 (by decide) hw5 rfl rfl (by decide +kernel) (Nat.le_of_ble_eq_true rfl) dX4_door_151 (lzM m q (upd u_62 9 0) ++ (lzI G (q 5) 64 f ++ (lzI G (q 6) 64 ww ++ (lzI G (q 10) 120 tb)))) rfl (fun H locs hP hD hS => ?_)
                          refine lv_iconst (v := 0) hx hb dX4_door_154 (by decide) ?_
                          refine lv_istore_n (lv' := [(1, .int 0), (0, .ref m)]) hx hb dX4_door_155 rfl hl (by decide) rfl (fun ls hl => ?_)
                          have J_156 : ∀ (n9 : Nat), ∀ (k : Nat), (k ≤ 64) → 64 - k < n9 → ∀ (H : Heap) (locs : List Loc), va_P G.1 lzC (lzM m q (upd u_62 9 0) ++ (lzI G (q 5) 64 (cpR ww f k) ++ (lzI G (q 6) 64 ww ++ (lzI G (q 10) 120 tb)))) H → va_D A (lzM m q (upd u_62 9 0) ++ (lzI G (q 5) 64 (cpR ww f k) ++ (lzI G (q 6) 64 ww ++ (lzI G (q 10) 120 tb)))) → va_S A ss.heap H locs → ∀ ls : Array Slot, lv_has ls 2 [(1, .int (nI k)), (0, .ref m)] → W pp l ee ({ frames := 5, cells := 0, slots := 0, locals := 113 }) ss mm ([.ref m] : List Value).toArray bl me cd H locs 0 0 (MQ bl (va_Qi (S := (Nat → Int32) × ((Nat → Int32) × (Nat → Int32))) (fun (r : Int32) u9 => drM S f tb L r u9.1 u9.2.1) (rwB G (fun u9 : (Nat → Int32) × ((Nat → Int32) × (Nat → Int32)) => (lzM m q u9.1 ++ (lzI G (q 5) 64 u9.2.1 ++ (lzI G (q 6) 64 u9.2.2 ++ (lzI G (q 10) 120 tb)))))) A) ([.ref m] : List Value).toArray ss 0 0 A) (F0 mm 156 ls []) := by
                            intro n9
                            induction n9 with
                            | zero => intro k hk hn; exact absurd hn (Nat.not_lt_zero _)
                            | succ n9 ih_156 =>
                              intro k hk hn_156 H locs hP hD hS ls hl
                              refine lv_iload_n hx hb dX4_door_156 rfl (lv_at hl 0 rfl) ?_
                              refine lv_bipush (v := 64) hx hb dX4_door_157 (by decide) ?_
                              refine lv_icmp_ge (tgt := 180) hx hb dX4_door_159 (by decide) (fun c_159 => ?_) (fun c_159 => ?_)
                              · skip
                                have c_159' := Int32.not_lt.mpr c_159
                                have hk2 : 64 ≤ k := lz_ge (N := 64) rfl c_159 (by omega) (by omega)
                                have hk4 : k = 64 := by omega
                                refine lv_aload_n hx hb dX4_door_180 rfl (lv_at hl 1 rfl) ?_
                                refine lz_get (G := G) (ci := 4) (v := .ref (q 5)) (C := RX4) (T := TX4) (N := 24) hx hb hu_wsX40 (fun _ h9 => h9) hown hK hP 0 rfl rfl 5 (by decide) hw6 rfl rfl dX4_door_181 ?_
                                refine lv_iconst (v := 2) hx hb dX4_door_184 (by decide) ?_
                                refine lz_iald (f := cpR ww f k) hx hb hK hP 1 rfl 2 (by omega) (Nat.le_of_ble_eq_true rfl) dX4_door_185 ?_
                                exact rw_iret (S := (Nat → Int32) × ((Nat → Int32) × (Nat → Int32))) (G := G) (Wd := fun u9 : (Nat → Int32) × ((Nat → Int32) × (Nat → Int32)) => (lzM m q u9.1 ++ (lzI G (q 5) 64 u9.2.1 ++ (lzI G (q 6) 64 u9.2.2 ++ (lzI G (q 10) 120 tb))))) (upd u_62 9 0, (cpR ww f k, ww)) hx hb hr hlk dX4_door_186 hS (hP) (⟨j, i, hst, hsv, dr_el2 hEi hfl9, (hfl9.1 0 (by decide)).trans (hEi 0 (by decide)), hfl9.2.1, Or.inr ⟨hf9, by rw [hk4]; exact (hrw hz9).1.2.2.1, zsq_le8 (yvs_z hz9), yvs_le5 hz9, (hfl9.2.2.2 hf9).trans (hEi 18 (by decide)), rfl, by rw [hk4]; exact rowS_cp (zsq_le8 (yvs_z hz9)) (hrw hz9).1, by rw [hk4]; exact rowV_cp (yvs_le5 hz9) (hrw hz9).2⟩⟩)
                              · skip
                                have c_159' := Int32.not_le.mp c_159
                                have hk2 : k < 64 := lz_lt (N := 64) rfl c_159 (by omega) (by omega)
                                refine lv_aload_n hx hb dX4_door_162 rfl (lv_at hl 1 rfl) ?_
                                refine lz_get (G := G) (ci := 4) (v := .ref (q 5)) (C := RX4) (T := TX4) (N := 24) hx hb hu_wsX40 (fun _ h9 => h9) hown hK hP 0 rfl rfl 5 (by decide) hw6 rfl rfl dX4_door_163 ?_
                                refine lv_iload_n hx hb dX4_door_166 rfl (lv_at hl 0 rfl) ?_
                                refine lv_aload_n hx hb dX4_door_167 rfl (lv_at hl 1 rfl) ?_
                                refine lz_get (G := G) (ci := 4) (v := .ref (q 6)) (C := RX4) (T := TX4) (N := 24) hx hb hu_wsX40 (fun _ h9 => h9) hown hK hP 0 rfl rfl 6 (by decide) hw2 rfl rfl dX4_door_168 ?_
                                refine lv_iload_n hx hb dX4_door_171 rfl (lv_at hl 0 rfl) ?_
                                refine lz_iald (f := ww) hx hb hK hP 2 rfl k (by omega) (Nat.le_of_ble_eq_true rfl) dX4_door_172 ?_
                                refine lz_iast (f := cpR ww f k) hx hb hK hP hD hS 1 rfl k (by omega) (Nat.le_of_ble_eq_true rfl) dX4_door_173 (lzM m q (upd u_62 9 0) ++ (lzI G (q 5) 64 (upd (cpR ww f k) k (ww k)) ++ (lzI G (q 6) 64 ww ++ (lzI G (q 10) 120 tb)))) rfl (fun H locs hP hD hS => ?_)
                                refine lv_iinc (v := nI (k + 1)) (lv' := [(1, .int (nI (k + 1))), (0, .ref m)]) hx hb dX4_door_174 hl (k := 0) rfl (nI_1 _) (by decide) rfl (fun ls hl => ?_)
                                refine lv_goto (tgt := 156) hx hb dX4_door_177 (by decide) ?_
                                have hE_63 : upd (cpR ww f k) k (ww k) = cpR ww f (k + 1) := cpR_s _ _ _
                                replace hP : va_P G.1 lzC (lzM m q (upd u_62 9 0) ++ (lzI G (q 5) 64 (cpR ww f (k + 1)) ++ (lzI G (q 6) 64 ww ++ (lzI G (q 10) 120 tb)))) H := by rw [← hE_63]; exact hP
                                replace hD : va_D A (lzM m q (upd u_62 9 0) ++ (lzI G (q 5) 64 (cpR ww f (k + 1)) ++ (lzI G (q 6) 64 ww ++ (lzI G (q 10) 120 tb)))) := by rw [← hE_63]; exact hD
                                exact ih_156 (k + 1) (by omega) (by omega) _ _ hP hD hS _ (lv_sub hl [0, 1] rfl)
                          have hE_64 : f = cpR ww f 0 := (cpR_0 _ _).symm
                          replace hP : va_P G.1 lzC (lzM m q (upd u_62 9 0) ++ (lzI G (q 5) 64 (cpR ww f 0) ++ (lzI G (q 6) 64 ww ++ (lzI G (q 10) 120 tb)))) H := by rw [← hE_64]; exact hP
                          replace hD : va_D A (lzM m q (upd u_62 9 0) ++ (lzI G (q 5) 64 (cpR ww f 0) ++ (lzI G (q 6) 64 ww ++ (lzI G (q 10) 120 tb)))) := by rw [← hE_64]; exact hD
                          exact J_156 _ 0 (by omega) (Nat.lt_succ_self _) _ _ hP hD hS _ (lv_sub hl [0, 1] rfl)
                        · skip
                          have c_138 := b2_n hb9 c_138
                          have hf9 : ¬ (finZ L (yvs tb L j i)).1 = 0 := by simpa using c_138
                          refine lv_ldc hx hb hown hw3 dX4_door_141 ?_
                          refine lv_aload_n hx hb dX4_door_143 rfl (lv_at hl 1 rfl) ?_
                          refine lz_get (G := G) (ci := 4) (v := .int (u_62 17)) (C := RX4) (T := TX4) (N := 24) hx hb hu_wsX40 (fun _ h9 => h9) hown hK hP 0 rfl rfl 17 (by decide) hw4 rfl rfl dX4_door_144 ?_
                          refine lv_isub hx hb dX4_door_147 ?_
                          exact rw_iret (S := (Nat → Int32) × ((Nat → Int32) × (Nat → Int32))) (G := G) (Wd := fun u9 : (Nat → Int32) × ((Nat → Int32) × (Nat → Int32)) => (lzM m q u9.1 ++ (lzI G (q 5) 64 u9.2.1 ++ (lzI G (q 6) 64 u9.2.2 ++ (lzI G (q 10) 120 tb))))) (u_62, (f, ww)) hx hb hr hlk dX4_door_148 hS (hP) (⟨j, i, hst, hsv, dr_el hEi hfl9, (hfl9.1 0 (by decide)).trans (hEi 0 (by decide)), hfl9.2.1, Or.inl ⟨hf9, by rw [(hfl9.2.2.1 hf9).1], (hfl9.2.2.1 hf9).2, (hfl9.1 9 (by decide)).trans (hEi 9 (by decide)), rfl⟩⟩)
                      · skip
                        have c_124 := b2_n hr_60 c_124
                        have hv8 : goV tb L (yvs tb L j i) = true := (isLet_z hRi (by decide +kernel) (by decide +kernel)).symm.trans c_124
                        have hv9 := goV_0 hv8
                        refine lv_aload_n hx hb dX4_door_127 rfl (lv_at hl 1 rfl) ?_
                        have hPc := hP.sub (ws' := (lzM m q uu ++ (lzI G (q 6) 64 ww ++ (lzI G (q 10) 120 tb)))) [0, 2, 3] rfl
                        have hDc := hD.sub (ws' := (lzM m q uu ++ (lzI G (q 6) 64 ww ++ (lzI G (q 10) 120 tb)))) [0, 2, 3] (by decide) rfl
                        have hFc : ∀ zz : Nat, lzA (lzM m q uu ++ (lzI G (q 6) 64 ww ++ (lzI G (q 10) 120 tb))) zz → A zz := lz_free hD [0, 2, 3] rfl
                        refine va_callv (va_runV (As := []) (rest := []) ⟨hx, hb, hml, hown, hts⟩ (c_X4_readVisitorR l G m q uu ww tb L (yvs tb L j i) i (hRi) (hL1) ((hrw hv9.1).2.1) (yvs_le5 hv9.1) (hv9.1) (hv9.2)) (cwV 0 hts gX4_door_X4_readVisitor rfl rfl rfl (by decide +kernel) ⟨Nat.le_of_ble_eq_true rfl, Nat.le_of_ble_eq_true rfl⟩) (rw_preV hK hPc hDc hP (ci := 4) (q0 := 0) rfl rfl) rfl rfl hl.1 rfl (lv_room (Nat.le_of_ble_eq_true rfl)) dX4_door_128 ⟨Nat.zero_le _, Nat.zero_le _⟩) hS (fun q _ h => hFc q h) hFc (fun u_67 t9 H1 locs ht hvm hr_66 hB hz1 hk1 hS => ?_)
                        replace hB : va_P G.1 lzC _ t9.heap := hB
                        rw [ht] at hB
                        obtain ⟨hP, hD⟩ := lz_join (wc := (lzM m q uu ++ (lzI G (q 6) 64 ww ++ (lzI G (q 10) 120 tb)))) (wr := ([(q 5, .inl (G.2 0, 64, .inl f))] : va_W)) (w1 := (lzM m q u_67 ++ (lzI G (q 6) 64 (vsF tb L i (yvs tb L j i) ww) ++ (lzI G (q 10) 120 tb)))) hP hD [0, 2, 3] [1] rfl rfl (by decide) (by decide) rfl hk1 hB
                        replace hP := hP.sub (ws' := (lzM m q u_67 ++ (lzI G (q 5) 64 f ++ (lzI G (q 6) 64 (vsF tb L i (yvs tb L j i) ww) ++ (lzI G (q 10) 120 tb))))) [1, 0, 2, 3] rfl
                        replace hD := hD.sub (ws' := (lzM m q u_67 ++ (lzI G (q 5) 64 f ++ (lzI G (q 6) 64 (vsF tb L i (yvs tb L j i) ww) ++ (lzI G (q 10) 120 tb))))) [1, 0, 2, 3] (by decide) rfl
                        clear ht hvm hB hz1 hk1
                        generalize H1 = H at hP hS ⊢
                        obtain ⟨hR_65, hE_65⟩ := hr_66
                        have hE_65 := elM_t hEi hE_65
                        refine lv_goto (tgt := 118) hx hb dX4_door_131 (by decide) ?_
                        exact ih_118 (i + 1) u_67 (vsF tb L i (yvs tb L j i) ww) (by have := yvs_le5 hv9.1; omega) (hR_65) (hE_65) (go_s (p := fun i => goV tb L (yvs tb L j i)) hgi hv8) (fun h9 => absurd h9 (Nat.succ_ne_zero _)) (fun h9 => ⟨rowS_v (zsq_le8 (yvs_z hv9.1)) (hrw hv9.1).1, rowV_s (hrw hv9.1).2 h9⟩) (by omega) _ _ hP hD hS _ (lv_sub hl [0, 1] rfl)
                  exact J_118 _ 1 u_59 ww (by decide) ((show rpM u_59 tb L (visZ tb L 0 (zsq tb L j)) by rw [visZ_stop hv0]; exact hR_57)) (hE_57) (fun t h8 h9 => absurd h9 (by omega)) (fun h9 => absurd h9 (by decide)) (fun h9 => absurd h9 (vs_st0 hv0)) (Nat.lt_succ_self _) _ _ hP hD hS _ (lv_sub hl [0, 1] rfl)
              · skip
                have c_94 := b2_n hr_47 c_94
                have hg9 : goS tb L (zsq tb L j) = true := (isSrt_z hRj).symm.trans c_94
                have hg0 := goS_0 hg9
                refine lv_aload_n hx hb dX4_door_97 rfl (lv_at hl 1 rfl) ?_
                have hPc := hP.sub (ws' := (lzM m q uu ++ (lzI G (q 6) 64 ww ++ (lzI G (q 10) 120 tb)))) [0, 2, 3] rfl
                have hDc := hD.sub (ws' := (lzM m q uu ++ (lzI G (q 6) 64 ww ++ (lzI G (q 10) 120 tb)))) [0, 2, 3] (by decide) rfl
                have hFc : ∀ zz : Nat, lzA (lzM m q uu ++ (lzI G (q 6) 64 ww ++ (lzI G (q 10) 120 tb))) zz → A zz := lz_free hD [0, 2, 3] rfl
                refine va_callv (va_runV (As := []) (rest := []) ⟨hx, hb, hml, hown, hts⟩ (c_X4_readSquareR l G m q uu ww tb L (zsq tb L j) j (hRj) (hL1) ((hrow hg0.1).1.2.2.1) (zsq_le8 hg0.1) (hg0.1) (hg0.2)) (cwV 0 hts gX4_door_X4_readSquare rfl rfl rfl (by decide +kernel) ⟨Nat.le_of_ble_eq_true rfl, Nat.le_of_ble_eq_true rfl⟩) (rw_preV hK hPc hDc hP (ci := 4) (q0 := 0) rfl rfl) rfl rfl hl.1 rfl (lv_room (Nat.le_of_ble_eq_true rfl)) dX4_door_98 ⟨Nat.zero_le _, Nat.zero_le _⟩) hS (fun q _ h => hFc q h) hFc (fun u_70 t9 H1 locs ht hvm hr_69 hB hz1 hk1 hS => ?_)
                replace hB : va_P G.1 lzC _ t9.heap := hB
                rw [ht] at hB
                obtain ⟨hP, hD⟩ := lz_join (wc := (lzM m q uu ++ (lzI G (q 6) 64 ww ++ (lzI G (q 10) 120 tb)))) (wr := ([(q 5, .inl (G.2 0, 64, .inl f))] : va_W)) (w1 := (lzM m q u_70 ++ (lzI G (q 6) 64 (sqF tb L j (zsq tb L j) ww) ++ (lzI G (q 10) 120 tb)))) hP hD [0, 2, 3] [1] rfl rfl (by decide) (by decide) rfl hk1 hB
                replace hP := hP.sub (ws' := (lzM m q u_70 ++ (lzI G (q 5) 64 f ++ (lzI G (q 6) 64 (sqF tb L j (zsq tb L j) ww) ++ (lzI G (q 10) 120 tb))))) [1, 0, 2, 3] rfl
                replace hD := hD.sub (ws' := (lzM m q u_70 ++ (lzI G (q 5) 64 f ++ (lzI G (q 6) 64 (sqF tb L j (zsq tb L j) ww) ++ (lzI G (q 10) 120 tb))))) [1, 0, 2, 3] (by decide) rfl
                clear ht hvm hB hz1 hk1
                generalize H1 = H at hP hS ⊢
                obtain ⟨hR_68, hE_68⟩ := hr_69
                have hE_68 := elM_t hEj hE_68
                refine lv_goto (tgt := 90) hx hb dX4_door_101 (by decide) ?_
                exact ih_90 (j + 1) u_70 (sqF tb L j (zsq tb L j) ww) (by have := zsq_le8 hg0.1; omega) (hR_68) (hE_68) (go_s (p := fun i => goS tb L (zsq tb L i)) hgo hg9) (fun h9 => absurd h9 (Nat.succ_ne_zero _)) (fun h9 => ⟨rowS_s (hrow hg0.1).1 h9, rowV_sq (hrow hg0.1).2⟩) (by omega) _ _ hP hD hS _ (lv_sub hl [0, 1] rfl)
          exact J_90 _ 1 u_46 (upd (upd (fa_fill (fun _ => 0) fr k) 0 r_8) 1 r_14) (by decide) ((show rpM u_46 tb L (sqZ tb L 0 (zsq tb L 0)) by rw [sqZ_stop hg0]; exact hR_44)) (hE_44) (fun i h8 h9 => absurd h9 (by omega)) (fun h9 => absurd h9 (by decide)) (fun h9 => absurd h9 (sq_st0 hg0)) (Nat.lt_succ_self _) _ _ hP hD hS _ (lv_sub hl [0, 1] rfl)
      · skip
        have c_14' := Int32.not_le.mp c_14
        have hk2 : k < 64 := lz_lt (N := 64) rfl c_14 (by omega) (by omega)
        refine lv_aload_n hx hb dX4_door_17 rfl (lv_at hl 1 rfl) ?_
        refine lz_get (G := G) (ci := 4) (v := .ref (q 6)) (C := RX4) (T := TX4) (N := 24) hx hb hu_wsX40 (fun _ h9 => h9) hown hK hP 0 rfl rfl 6 (by decide) hw2 rfl rfl dX4_door_18 ?_
        refine lv_iload_n hx hb dX4_door_21 rfl (lv_at hl 0 rfl) ?_
        refine lv_iconst (v := 0) hx hb dX4_door_22 (by decide) ?_
        refine lz_iast (f := fa_fill (fun _ => 0) fr k) hx hb hK hP hD hS 2 rfl k (by omega) (Nat.le_of_ble_eq_true rfl) dX4_door_23 (lzM m q u_2 ++ (lzI G (q 5) 64 f ++ (lzI G (q 6) 64 (upd (fa_fill (fun _ => 0) fr k) k 0) ++ (lzI G (q 10) 120 tb)))) rfl (fun H locs hP hD hS => ?_)
        refine lv_iinc (v := nI (k + 1)) (lv' := [(1, .int (nI (k + 1))), (0, .ref m)]) hx hb dX4_door_24 hl (k := 0) rfl (nI_1 _) (by decide) rfl (fun ls hl => ?_)
        refine lv_goto (tgt := 11) hx hb dX4_door_27 (by decide) ?_
        have hE_71 : upd (fa_fill (fun _ => 0) fr k) k 0 = fa_fill (fun _ => 0) fr (k + 1) := fa_fill_succ (fun _ => 0) fr k
        replace hP : va_P G.1 lzC (lzM m q u_2 ++ (lzI G (q 5) 64 f ++ (lzI G (q 6) 64 (fa_fill (fun _ => 0) fr (k + 1)) ++ (lzI G (q 10) 120 tb)))) H := by rw [← hE_71]; exact hP
        replace hD : va_D A (lzM m q u_2 ++ (lzI G (q 5) 64 f ++ (lzI G (q 6) 64 (fa_fill (fun _ => 0) fr (k + 1)) ++ (lzI G (q 10) 120 tb)))) := by rw [← hE_71]; exact hD
        exact ih_11 (k + 1) (by omega) (by omega) _ _ hP hD hS _ (lv_sub hl [0, 1] rfl)
  have hE_72 : fr = fa_fill (fun _ => 0) fr 0 := (fa_fill_0 _ _).symm
  replace hP : va_P G.1 lzC (lzM m q u_2 ++ (lzI G (q 5) 64 f ++ (lzI G (q 6) 64 (fa_fill (fun _ => 0) fr 0) ++ (lzI G (q 10) 120 tb)))) H := by rw [← hE_72]; exact hP
  replace hD : va_D A (lzM m q u_2 ++ (lzI G (q 5) 64 f ++ (lzI G (q 6) 64 (fa_fill (fun _ => 0) fr 0) ++ (lzI G (q 10) 120 tb)))) := by rw [← hE_72]; exact hD
  exact J_11 _ 0 (by omega) (Nat.lt_succ_self _) _ _ hP hD hS _ (lv_sub hl [0, 1] rfl)
