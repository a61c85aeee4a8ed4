set_option maxHeartbeats 4000000 in
set_option maxRecDepth 100000 in
theorem c_X2_readSquare (l : Launch) (G : lzG) (u : Nat) (q : Nat → Nat) (S : Nat → Int32) (tb : Nat → Int32) (L : Nat) (z : Int32 × Nat) (h : Nat) (q2 : Nat → Nat) (D : Nat → Int32) (E : Nat → Nat → Int32) (N : Nat) (aK aV : Nat) (hL : S 1 = nI L) (hL1 : L ≤ 120) (hz1 : S 3 = z.1) (hz2 : S 2 = nI z.2) (hz3 : z.2 ≤ L) (hby : ∀ k : Nat, k < L → inR (tb k) 0 255 = true) (hN : D 2 = nI N) (hN8 : N ≤ 8) : Met l yX2_readSquare wsX2_readSquare ({ frames := 5, cells := 0, slots := 0, locals := 112 }) (va_Pc [.ref u, .ref h] (rwsP G (lzTp u q S ++ (lzI G (q 0) 120 tb ++ (lzDoor G h q2 D E))) aK aV)) (va_Qv (S := Unit) (fun _ : Unit => True) (rwB G (fun _ : Unit => (lzTp u q (upd (upd S 2 (nI ((sqZ tb L N z).2))) 3 ((sqZ tb L N z).1)) ++ (lzI G (q 0) 120 tb ++ (lzDoor G h q2 (sqDD tb L N z D) (sqFD tb L N z E)))))) (lzA (lzTp u q S ++ (lzI G (q 0) 120 tb ++ (lzDoor G h q2 D E))))) 0 0 (lzA (lzTp u q S ++ (lzI G (q 0) 120 tb ++ (lzDoor G h q2 D E)))) := by
  refine rws_start (S := Unit) (cc := cX2_readSquare) (maxL := 4) (ret := none) (by decide) rfl (Nat.le_of_ble_eq_true rfl) ?_
  intro pp ee ss mm bl me cd A hx hb hr hlk hml hts hown hP hK hD hAe hS hSt ls hl
  have hA0 : ∀ zz : Nat, lzA (lzTp u q S ++ (lzI G (q 0) 120 tb ++ (lzDoor G h q2 D E))) zz → A zz := fun zz h9 => by rw [hAe]; exact h9
  rw [← hAe]
  clear hAe
  have hown : ss.vm.findClass RX2 = some mm.cls := hown
  have hw1 := hts (.fieldLink RX2 55 "LampSquares$Door" "squares" "I") (List.mem_of_getElem? (i := 1) rfl)
  have hw2 := hts (.fieldLink RX2 22 "LampSquares$Tape" "fault" "I") (List.mem_of_getElem? (i := 2) rfl)
  have hu_wsX10 : ∀ w ∈ wsX10, w.before ([.ref u, .ref h] : List Value).toArray ss = true := fun w h9 => hts w (List.mem_cons_of_mem _ (List.mem_append_left _ (List.mem_append_right _ h9)))
  have hu_wsX20 : ∀ w ∈ wsX20, w.before ([.ref u, .ref h] : List Value).toArray ss = true := fun w h9 => hts w (List.mem_cons_of_mem _ (List.mem_append_right _ h9))
  have hl : lv_has ls 4 [(0, .ref u), (1, .ref h)] := hl
  refine lv_aload_n hx hb dX2_readSquare_0 rfl (lv_at hl 0 rfl) ?_
  have hPc := hP.sub (ws' := (lzTp u q S ++ lzI G (q 0) 120 tb)) [0, 1] rfl
  refine ro_calli (va_runV (As := []) (rest := []) ⟨hx, hb, hml, hown, hts⟩ (c_X2_kindHere l G u q S tb L z aK aV (hL) (hL1) (hz1) (hz2) (hz3) (hby)) (cwV 0 hts gX2_readSquare_X2_kindHere rfl rfl rfl (by decide +kernel) ⟨Nat.le_of_ble_eq_true rfl, Nat.le_of_ble_eq_true rfl⟩) (ros_preV hK hPc hSt hS (va_recv hK.1 hP (ci := 2) (q0 := 0) rfl rfl)) rfl rfl hl.1 rfl (lv_room (Nat.le_of_ble_eq_true rfl)) dX2_readSquare_1 ⟨Nat.zero_le _, Nat.zero_le _⟩) (fun r_1 hr_1 => ?_)
  refine lz_top (y := khI (byI tb L z.2)) hr_1 ?_
  refine lv_istore_n (lv' := [(2, .int (khI (byI tb L z.2))), (0, .ref u), (1, .ref h)]) hx hb dX2_readSquare_4 rfl hl (by decide) rfl (fun ls hl => ?_)
  have J_32 : ∀ (z1 : Int32 × Nat), (z1 = sqA tb L N z) → ∀ (H : Heap) (locs : List Loc), va_P G.1 lzC (lzTp u q (upd (upd S 2 (nI z1.2)) 3 z1.1) ++ (lzI G (q 0) 120 tb ++ (lzDoor G h q2 D E))) H → va_D A (lzTp u q (upd (upd S 2 (nI z1.2)) 3 z1.1) ++ (lzI G (q 0) 120 tb ++ (lzDoor G h q2 D E))) → va_S A ss.heap H locs → ∀ ls : Array Slot, lv_has ls 4 [(2, .int (khI (byI tb L z.2))), (0, .ref u), (1, .ref h)] → W pp l ee ({ frames := 5, cells := 0, slots := 0, locals := 112 }) ss mm ([.ref u, .ref h] : List Value).toArray bl me cd H locs 0 0 (MQ bl (va_Qv (S := Unit) (fun _ : Unit => True) (rwB G (fun _ : Unit => (lzTp u q (upd (upd S 2 (nI ((sqZ tb L N z).2))) 3 ((sqZ tb L N z).1)) ++ (lzI G (q 0) 120 tb ++ (lzDoor G h q2 (sqDD tb L N z D) (sqFD tb L N z E)))))) A) ([.ref u, .ref h] : List Value).toArray ss 0 0 A) (F0 mm 32 ls []) := by
    intro z1 h_z1 H locs hP hD hS ls hl
    have hle_z1 : z1.2 ≤ L := by rw [h_z1]; exact sqA_le hz3
    refine lv_aload_n hx hb dX2_readSquare_32 rfl (lv_at hl 1 rfl) ?_
    refine lv_iconst (v := 0) hx hb dX2_readSquare_33 (by decide) ?_
    refine lv_bipush (v := 9) hx hb dX2_readSquare_34 (by decide) ?_
    have hPc := hP.sub (ws' := (lzTp u q (upd (upd S 2 (nI z1.2)) 3 z1.1) ++ lzI G (q 0) 120 tb)) [0, 1] rfl
    have hDc := hD.sub (ws' := (lzTp u q (upd (upd S 2 (nI z1.2)) 3 z1.1) ++ lzI G (q 0) 120 tb)) [0, 1] (by decide) rfl
    have hFc : ∀ zz : Nat, lzA (lzTp u q (upd (upd S 2 (nI z1.2)) 3 z1.1) ++ lzI G (q 0) 120 tb) zz → A zz := lz_free hD [0, 1] rfl
    refine va_calli (va_runV (As := [.int 0, .int 9]) (rest := []) ⟨hx, hb, hml, hown, hts⟩ (c_X2_readNumber l G u q (upd (upd S 2 (nI z1.2)) 3 z1.1) tb L z1 0 9 (hL) (hL1) (rfl) (rfl) (hle_z1)) (cwV 2 hts gX2_readSquare_X2_readNumber rfl rfl rfl (by decide +kernel) ⟨Nat.le_of_ble_eq_true rfl, Nat.le_of_ble_eq_true rfl⟩) (rw_preV hK hPc hDc hP (ci := 2) (q0 := 0) rfl rfl) rfl rfl hl.1 rfl (lv_room (Nat.le_of_ble_eq_true rfl)) dX2_readSquare_36 ⟨Nat.zero_le _, Nat.zero_le _⟩) hS (fun q _ h => hFc q h) hFc (fun r_2 u_3 t9 H1 locs ht hvm hr_2 hB hz1 hk1 hS => ?_)
    replace hB : va_P G.1 lzC _ t9.heap := hB
    rw [ht] at hB
    obtain ⟨hP, hD⟩ := lz_join (wc := (lzTp u q (upd (upd S 2 (nI z1.2)) 3 z1.1) ++ lzI G (q 0) 120 tb)) (wr := ([(h, .inr (1, [.int (D 0), .int (D 1), .int (D 2), .int (D 3), .ref (q2 4), .ref (q2 5), .ref (q2 6), .ref (q2 7), .ref (q2 8), .ref (q2 9), .ref (q2 10), .ref (q2 11), .ref (q2 12), .ref (q2 13)])), (q2 4, .inl (G.2 0, 8, .inl (E 4))), (q2 5, .inl (G.2 0, 8, .inl (E 5))), (q2 6, .inl (G.2 0, 8, .inl (E 6))), (q2 7, .inl (G.2 0, 8, .inl (E 7))), (q2 8, .inl (G.2 0, 8, .inl (E 8))), (q2 9, .inl (G.2 0, 5, .inl (E 9))), (q2 10, .inl (G.2 0, 5, .inl (E 10))), (q2 11, .inl (G.2 0, 5, .inl (E 11))), (q2 12, .inl (G.2 0, 5, .inl (E 12))), (q2 13, .inl (G.2 0, 5, .inl (E 13)))] : va_W)) (w1 := (lzTp u q (upd (upd S 2 (nI ((numS tb L 0 9 z1).2))) 3 ((numS tb L 0 9 z1).1)) ++ lzI G (q 0) 120 tb)) hP hD [0, 1] [2, 3, 4, 5, 6, 7, 8, 9, 10, 11, 12] rfl rfl (by decide) (by decide) rfl hk1 hB
    replace hP := hP.sub (ws' := (lzTp u q (upd (upd S 2 (nI ((numS tb L 0 9 z1).2))) 3 ((numS tb L 0 9 z1).1)) ++ (lzI G (q 0) 120 tb ++ (lzDoor G h q2 D E)))) [11, 12, 0, 1, 2, 3, 4, 5, 6, 7, 8, 9, 10] rfl
    replace hD := hD.sub (ws' := (lzTp u q (upd (upd S 2 (nI ((numS tb L 0 9 z1).2))) 3 ((numS tb L 0 9 z1).1)) ++ (lzI G (q 0) 120 tb ++ (lzDoor G h q2 D E)))) [11, 12, 0, 1, 2, 3, 4, 5, 6, 7, 8, 9, 10] (by decide) rfl
    clear ht hvm hB hz1 hk1
    generalize H1 = H at hP hS ⊢
    refine lz_top (y := numV tb L z1.2) hr_2 ?_
    obtain ⟨z2, h_z2⟩ : ∃ y : Int32 × Nat, y = numS tb L 0 9 z1 := ⟨_, rfl⟩
    rw [← h_z2] at hP hD
    have hle_z2 : z2.2 ≤ L := by rw [h_z2]; exact (numS_le hle_z1)
    refine lv_istore_n (lv' := [(3, .int (numV tb L z1.2)), (2, .int (khI (byI tb L z.2))), (0, .ref u), (1, .ref h)]) hx hb dX2_readSquare_39 rfl hl (by decide) rfl (fun ls hl => ?_)
    refine lv_aload_n hx hb dX2_readSquare_40 rfl (lv_at hl 2 rfl) ?_
    refine lv_bipush (v := 59) hx hb dX2_readSquare_41 (by decide) ?_
    have hPc := hP.sub (ws' := (lzTp u q (upd (upd S 2 (nI z2.2)) 3 z2.1) ++ lzI G (q 0) 120 tb)) [0, 1] rfl
    have hDc := hD.sub (ws' := (lzTp u q (upd (upd S 2 (nI z2.2)) 3 z2.1) ++ lzI G (q 0) 120 tb)) [0, 1] (by decide) rfl
    have hFc : ∀ zz : Nat, lzA (lzTp u q (upd (upd S 2 (nI z2.2)) 3 z2.1) ++ lzI G (q 0) 120 tb) zz → A zz := lz_free hD [0, 1] rfl
    refine va_callv (va_runV (As := [.int 59]) (rest := []) ⟨hx, hb, hml, hown, hts⟩ (c_X2_readSign l G u q (upd (upd S 2 (nI z2.2)) 3 z2.1) tb L z2 59 (hL) (hL1) (rfl) (rfl) (hle_z2)) (cwV 1 hts gX2_readSquare_X2_readSign rfl rfl rfl (by decide +kernel) ⟨Nat.le_of_ble_eq_true rfl, Nat.le_of_ble_eq_true rfl⟩) (rw_preV hK hPc hDc hP (ci := 2) (q0 := 0) rfl rfl) rfl rfl hl.1 rfl (lv_room (Nat.le_of_ble_eq_true rfl)) dX2_readSquare_43 ⟨Nat.zero_le _, Nat.zero_le _⟩) hS (fun q _ h => hFc q h) hFc (fun u_5 t9 H1 locs ht hvm hr_4 hB hz1 hk1 hS => ?_)
    replace hB : va_P G.1 lzC _ t9.heap := hB
    rw [ht] at hB
    obtain ⟨hP, hD⟩ := lz_join (wc := (lzTp u q (upd (upd S 2 (nI z2.2)) 3 z2.1) ++ lzI G (q 0) 120 tb)) (wr := ([(h, .inr (1, [.int (D 0), .int (D 1), .int (D 2), .int (D 3), .ref (q2 4), .ref (q2 5), .ref (q2 6), .ref (q2 7), .ref (q2 8), .ref (q2 9), .ref (q2 10), .ref (q2 11), .ref (q2 12), .ref (q2 13)])), (q2 4, .inl (G.2 0, 8, .inl (E 4))), (q2 5, .inl (G.2 0, 8, .inl (E 5))), (q2 6, .inl (G.2 0, 8, .inl (E 6))), (q2 7, .inl (G.2 0, 8, .inl (E 7))), (q2 8, .inl (G.2 0, 8, .inl (E 8))), (q2 9, .inl (G.2 0, 5, .inl (E 9))), (q2 10, .inl (G.2 0, 5, .inl (E 10))), (q2 11, .inl (G.2 0, 5, .inl (E 11))), (q2 12, .inl (G.2 0, 5, .inl (E 12))), (q2 13, .inl (G.2 0, 5, .inl (E 13)))] : va_W)) (w1 := (lzTp u q (upd (upd S 2 (nI ((sgnS tb L 59 z2).2))) 3 ((sgnS tb L 59 z2).1)) ++ lzI G (q 0) 120 tb)) hP hD [0, 1] [2, 3, 4, 5, 6, 7, 8, 9, 10, 11, 12] rfl rfl (by decide) (by decide) rfl hk1 hB
    replace hP := hP.sub (ws' := (lzTp u q (upd (upd S 2 (nI ((sgnS tb L 59 z2).2))) 3 ((sgnS tb L 59 z2).1)) ++ (lzI G (q 0) 120 tb ++ (lzDoor G h q2 D E)))) [11, 12, 0, 1, 2, 3, 4, 5, 6, 7, 8, 9, 10] rfl
    replace hD := hD.sub (ws' := (lzTp u q (upd (upd S 2 (nI ((sgnS tb L 59 z2).2))) 3 ((sgnS tb L 59 z2).1)) ++ (lzI G (q 0) 120 tb ++ (lzDoor G h q2 D E)))) [11, 12, 0, 1, 2, 3, 4, 5, 6, 7, 8, 9, 10] (by decide) rfl
    clear ht hvm hB hz1 hk1
    generalize H1 = H at hP hS ⊢
    obtain ⟨z3, h_z3⟩ : ∃ y : Int32 × Nat, y = sgnS tb L 59 z2 := ⟨_, rfl⟩
    rw [← h_z3] at hP hD
    have hle_z3 : z3.2 ≤ L := by rw [h_z3]; exact (sgnS_le (by decide) hle_z2)
    have e1 : sqA tb L N z = z1 := h_z1.symm
    have e3 : sqZ tb L N z = z3 := by { unfold sqZ sqB; rw [e1, ← h_z2, ← h_z3] }
    refine lv_aload_n hx hb dX2_readSquare_46 rfl (lv_at hl 2 rfl) ?_
    refine lz_get (G := G) (ci := 2) (v := .int z3.1) (C := RX2) (T := TX2) (N := 4) hx hb hu_wsX20 (fun _ h9 => h9) hown hK hP 0 rfl rfl 3 (by decide) hw2 rfl rfl dX2_readSquare_47 ?_
    refine lv_if_ne (tgt := 59) hx hb dX2_readSquare_50 (by decide) (fun c_50 => ?_) (fun c_50 => ?_)
    · skip
      have h0 : ¬ (sqZ tb L N z).1 = 0 := by rw [e3]; exact c_50
      exact rw_vret (S := Unit) (G := G) (Wd := fun _ : Unit => (lzTp u q (upd (upd S 2 (nI ((sqZ tb L N z).2))) 3 ((sqZ tb L N z).1)) ++ (lzI G (q 0) 120 tb ++ (lzDoor G h q2 (sqDD tb L N z D) (sqFD tb L N z E))))) () hx hb hr hlk dX2_readSquare_59 hS (by show va_P G.1 lzC (lzTp u q (upd (upd S 2 (nI ((sqZ tb L N z).2))) 3 ((sqZ tb L N z).1)) ++ (lzI G (q 0) 120 tb ++ lzDoor G h q2 (sqDD tb L N z D) (sqFD tb L N z E))) _; unfold sqDD sqFD; first | (rw [if_pos h0, if_pos h0, e3, e1]; exact hP) | (rw [if_neg h0, if_neg h0, e3]; exact hP)) (trivial)
    · skip
      have h0 : (sqZ tb L N z).1 = 0 := by rw [e3]; exact c_50
      refine lv_aload_n hx hb dX2_readSquare_53 rfl (lv_at hl 3 rfl) ?_
      refine lv_iload_n hx hb dX2_readSquare_54 rfl (lv_at hl 1 rfl) ?_
      refine lv_iload_n hx hb dX2_readSquare_55 rfl (lv_at hl 0 rfl) ?_
      have hPc := hP.sub (ws' := lzDoor G h q2 D E) [2, 3, 4, 5, 6, 7, 8, 9, 10, 11, 12] rfl
      have hDc := hD.sub (ws' := lzDoor G h q2 D E) [2, 3, 4, 5, 6, 7, 8, 9, 10, 11, 12] (by decide) rfl
      have hFc : ∀ zz : Nat, lzA (lzDoor G h q2 D E) zz → A zz := lz_free hD [2, 3, 4, 5, 6, 7, 8, 9, 10, 11, 12] rfl
      refine va_callv (va_runV (As := [.int (khI (byI tb L z.2)), .int (numV tb L z1.2)]) (rest := []) ⟨hx, hb, hml, hown, hts⟩ (c_X1_addSquare l G h q2 D E (khI (byI tb L z.2)) (numV tb L z1.2) N (hN) ((sqZ_0 h0).2.2)) (cwV 2 hts gX2_readSquare_X1_addSquare rfl rfl rfl (by decide +kernel) ⟨Nat.le_of_ble_eq_true rfl, Nat.le_of_ble_eq_true rfl⟩) (rw_preV hK hPc hDc hP (ci := 1) (q0 := 2) rfl rfl) rfl rfl hl.1 rfl (lv_room (Nat.le_of_ble_eq_true rfl)) dX2_readSquare_56 ⟨Nat.zero_le _, Nat.zero_le _⟩) hS (fun q _ h => hFc q h) hFc (fun u_7 t9 H1 locs ht hvm hr_6 hB hz1 hk1 hS => ?_)
      replace hB : va_P G.1 lzC _ t9.heap := hB
      rw [ht] at hB
      obtain ⟨hP, hD⟩ := lz_join (wc := lzDoor G h q2 D E) (wr := ([(u, .inr (2, [.ref (q 0), .int (S 1), .int (nI z3.2), .int z3.1])), (q 0, .inl (G.2 0, 120, .inl tb))] : va_W)) (w1 := lzDoor G h q2 (upd D 2 (nI (N + 1))) (lzF (lzF E 4 (upd ((E 4)) N (khI (byI tb L z.2)))) 5 (upd ((E 5)) N (numV tb L z1.2)))) hP hD [2, 3, 4, 5, 6, 7, 8, 9, 10, 11, 12] [0, 1] rfl rfl (by decide) (by decide) rfl hk1 hB
      replace hP := hP.sub (ws' := (lzTp u q (upd (upd S 2 (nI z3.2)) 3 z3.1) ++ (lzI G (q 0) 120 tb ++ (lzDoor G h q2 (upd D 2 (nI (N + 1))) (lzF (lzF E 4 (upd ((E 4)) N (khI (byI tb L z.2)))) 5 (upd ((E 5)) N (numV tb L z1.2))))))) [0, 1, 2, 3, 4, 5, 6, 7, 8, 9, 10, 11, 12] rfl
      replace hD := hD.sub (ws' := (lzTp u q (upd (upd S 2 (nI z3.2)) 3 z3.1) ++ (lzI G (q 0) 120 tb ++ (lzDoor G h q2 (upd D 2 (nI (N + 1))) (lzF (lzF E 4 (upd ((E 4)) N (khI (byI tb L z.2)))) 5 (upd ((E 5)) N (numV tb L z1.2))))))) [0, 1, 2, 3, 4, 5, 6, 7, 8, 9, 10, 11, 12] (by decide) rfl
      clear ht hvm hB hz1 hk1
      generalize H1 = H at hP hS ⊢
      exact rw_vret (S := Unit) (G := G) (Wd := fun _ : Unit => (lzTp u q (upd (upd S 2 (nI ((sqZ tb L N z).2))) 3 ((sqZ tb L N z).1)) ++ (lzI G (q 0) 120 tb ++ (lzDoor G h q2 (sqDD tb L N z D) (sqFD tb L N z E))))) () hx hb hr hlk dX2_readSquare_59 hS (by show va_P G.1 lzC (lzTp u q (upd (upd S 2 (nI ((sqZ tb L N z).2))) 3 ((sqZ tb L N z).1)) ++ (lzI G (q 0) 120 tb ++ lzDoor G h q2 (sqDD tb L N z D) (sqFD tb L N z E))) _; unfold sqDD sqFD; first | (rw [if_pos h0, if_pos h0, e3, e1]; exact hP) | (rw [if_neg h0, if_neg h0, e3]; exact hP)) (trivial)
  refine lv_aload_n hx hb dX2_readSquare_5 rfl (lv_at hl 1 rfl) ?_
  refine lv_iload_n hx hb dX2_readSquare_6 rfl (lv_at hl 0 rfl) ?_
  refine lv_if_eq (tgt := 14) hx hb dX2_readSquare_7 (by decide) (fun c_7 => ?_) (fun c_7 => ?_)
  · skip
    have hk9 := kok_f c_7
    refine lv_iconst (v := 0) hx hb dX2_readSquare_14 (by decide) ?_
    refine lv_aload_n hx hb dX2_readSquare_15 rfl (lv_at hl 2 rfl) ?_
    refine lz_get (G := G) (ci := 1) (v := .int (D 2)) (C := RX1) (T := TX1) (N := 14) hx hb hu_wsX10 (fun _ h9 => h9) hown hK hP 2 rfl rfl 2 (by decide) hw1 rfl rfl dX2_readSquare_16 ?_
    refine lv_bipush (v := 8) hx hb dX2_readSquare_19 (by decide) ?_
    refine lv_icmp_ge (tgt := 28) hx hb dX2_readSquare_21 (by decide) (fun c_21 => ?_) (fun c_21 => ?_)
    · skip
      have c_21' := Int32.not_lt.mpr c_21
      have hm : ¬ N < 8 := fun h9 => absurd (lz_ge (k := N) (N := 8) rfl (hN ▸ c_21) (by omega) (by omega)) (by omega)
      refine lv_iconst (v := 0) hx hb dX2_readSquare_28 (by decide) ?_
      have hPc := hP.sub (ws' := (lzTp u q S ++ lzI G (q 0) 120 tb)) [0, 1] rfl
      have hDc := hD.sub (ws' := (lzTp u q S ++ lzI G (q 0) 120 tb)) [0, 1] (by decide) rfl
      have hFc : ∀ zz : Nat, lzA (lzTp u q S ++ lzI G (q 0) 120 tb) zz → A zz := lz_free hD [0, 1] rfl
      refine va_callv (va_runV (As := [.int 0, .int 0]) (rest := []) ⟨hx, hb, hml, hown, hts⟩ (c_X2_readToken l G u q S tb L z false false (hL) (hL1) (hz1) (hz2) (hz3)) (cwV 2 hts gX2_readSquare_X2_readToken rfl rfl rfl (by decide +kernel) ⟨Nat.le_of_ble_eq_true rfl, Nat.le_of_ble_eq_true rfl⟩) (rw_preV hK hPc hDc hP (ci := 2) (q0 := 0) rfl rfl) rfl rfl hl.1 rfl (lv_room (Nat.le_of_ble_eq_true rfl)) dX2_readSquare_29 ⟨Nat.zero_le _, Nat.zero_le _⟩) hS (fun q _ h => hFc q h) hFc (fun u_9 t9 H1 locs ht hvm hr_8 hB hz1 hk1 hS => ?_)
      replace hB : va_P G.1 lzC _ t9.heap := hB
      rw [ht] at hB
      obtain ⟨hP, hD⟩ := lz_join (wc := (lzTp u q S ++ lzI G (q 0) 120 tb)) (wr := ([(h, .inr (1, [.int (D 0), .int (D 1), .int (D 2), .int (D 3), .ref (q2 4), .ref (q2 5), .ref (q2 6), .ref (q2 7), .ref (q2 8), .ref (q2 9), .ref (q2 10), .ref (q2 11), .ref (q2 12), .ref (q2 13)])), (q2 4, .inl (G.2 0, 8, .inl (E 4))), (q2 5, .inl (G.2 0, 8, .inl (E 5))), (q2 6, .inl (G.2 0, 8, .inl (E 6))), (q2 7, .inl (G.2 0, 8, .inl (E 7))), (q2 8, .inl (G.2 0, 8, .inl (E 8))), (q2 9, .inl (G.2 0, 5, .inl (E 9))), (q2 10, .inl (G.2 0, 5, .inl (E 10))), (q2 11, .inl (G.2 0, 5, .inl (E 11))), (q2 12, .inl (G.2 0, 5, .inl (E 12))), (q2 13, .inl (G.2 0, 5, .inl (E 13)))] : va_W)) (w1 := (lzTp u q (upd (upd S 2 (nI ((tokS false false z).2))) 3 ((tokS false false z).1)) ++ lzI G (q 0) 120 tb)) hP hD [0, 1] [2, 3, 4, 5, 6, 7, 8, 9, 10, 11, 12] rfl rfl (by decide) (by decide) rfl hk1 hB
      replace hP := hP.sub (ws' := (lzTp u q (upd (upd S 2 (nI ((tokS false false z).2))) 3 ((tokS false false z).1)) ++ (lzI G (q 0) 120 tb ++ (lzDoor G h q2 D E)))) [11, 12, 0, 1, 2, 3, 4, 5, 6, 7, 8, 9, 10] rfl
      replace hD := hD.sub (ws' := (lzTp u q (upd (upd S 2 (nI ((tokS false false z).2))) 3 ((tokS false false z).1)) ++ (lzI G (q 0) 120 tb ++ (lzDoor G h q2 D E)))) [11, 12, 0, 1, 2, 3, 4, 5, 6, 7, 8, 9, 10] (by decide) rfl
      clear ht hvm hB hz1 hk1
      generalize H1 = H at hP hS ⊢
      obtain ⟨zz, hzz⟩ : ∃ y : Int32 × Nat, y = tokS false false z := ⟨_, rfl⟩
      rw [← hzz] at hP hD
      exact J_32 zz (by rw [hzz]; unfold sqA; simp [hk9, hm]) _ _ hP hD hS _ (lv_sub hl [0, 1, 2] rfl)
    · skip
      have c_21' := Int32.not_le.mp c_21
      have hm : N < 8 := lz_lt (k := N) (N := 8) rfl (hN ▸ c_21) (by omega) (by omega)
      refine lv_iconst (v := 1) hx hb dX2_readSquare_24 (by decide) ?_
      refine lv_goto (tgt := 29) hx hb dX2_readSquare_25 (by decide) ?_
      have hPc := hP.sub (ws' := (lzTp u q S ++ lzI G (q 0) 120 tb)) [0, 1] rfl
      have hDc := hD.sub (ws' := (lzTp u q S ++ lzI G (q 0) 120 tb)) [0, 1] (by decide) rfl
      have hFc : ∀ zz : Nat, lzA (lzTp u q S ++ lzI G (q 0) 120 tb) zz → A zz := lz_free hD [0, 1] rfl
      refine va_callv (va_runV (As := [.int 0, .int 1]) (rest := []) ⟨hx, hb, hml, hown, hts⟩ (c_X2_readToken l G u q S tb L z false true (hL) (hL1) (hz1) (hz2) (hz3)) (cwV 2 hts gX2_readSquare_X2_readToken rfl rfl rfl (by decide +kernel) ⟨Nat.le_of_ble_eq_true rfl, Nat.le_of_ble_eq_true rfl⟩) (rw_preV hK hPc hDc hP (ci := 2) (q0 := 0) rfl rfl) rfl rfl hl.1 rfl (lv_room (Nat.le_of_ble_eq_true rfl)) dX2_readSquare_29 ⟨Nat.zero_le _, Nat.zero_le _⟩) hS (fun q _ h => hFc q h) hFc (fun u_11 t9 H1 locs ht hvm hr_10 hB hz1 hk1 hS => ?_)
      replace hB : va_P G.1 lzC _ t9.heap := hB
      rw [ht] at hB
      obtain ⟨hP, hD⟩ := lz_join (wc := (lzTp u q S ++ lzI G (q 0) 120 tb)) (wr := ([(h, .inr (1, [.int (D 0), .int (D 1), .int (D 2), .int (D 3), .ref (q2 4), .ref (q2 5), .ref (q2 6), .ref (q2 7), .ref (q2 8), .ref (q2 9), .ref (q2 10), .ref (q2 11), .ref (q2 12), .ref (q2 13)])), (q2 4, .inl (G.2 0, 8, .inl (E 4))), (q2 5, .inl (G.2 0, 8, .inl (E 5))), (q2 6, .inl (G.2 0, 8, .inl (E 6))), (q2 7, .inl (G.2 0, 8, .inl (E 7))), (q2 8, .inl (G.2 0, 8, .inl (E 8))), (q2 9, .inl (G.2 0, 5, .inl (E 9))), (q2 10, .inl (G.2 0, 5, .inl (E 10))), (q2 11, .inl (G.2 0, 5, .inl (E 11))), (q2 12, .inl (G.2 0, 5, .inl (E 12))), (q2 13, .inl (G.2 0, 5, .inl (E 13)))] : va_W)) (w1 := (lzTp u q (upd (upd S 2 (nI ((tokS false true z).2))) 3 ((tokS false true z).1)) ++ lzI G (q 0) 120 tb)) hP hD [0, 1] [2, 3, 4, 5, 6, 7, 8, 9, 10, 11, 12] rfl rfl (by decide) (by decide) rfl hk1 hB
      replace hP := hP.sub (ws' := (lzTp u q (upd (upd S 2 (nI ((tokS false true z).2))) 3 ((tokS false true z).1)) ++ (lzI G (q 0) 120 tb ++ (lzDoor G h q2 D E)))) [11, 12, 0, 1, 2, 3, 4, 5, 6, 7, 8, 9, 10] rfl
      replace hD := hD.sub (ws' := (lzTp u q (upd (upd S 2 (nI ((tokS false true z).2))) 3 ((tokS false true z).1)) ++ (lzI G (q 0) 120 tb ++ (lzDoor G h q2 D E)))) [11, 12, 0, 1, 2, 3, 4, 5, 6, 7, 8, 9, 10] (by decide) rfl
      clear ht hvm hB hz1 hk1
      generalize H1 = H at hP hS ⊢
      obtain ⟨zz, hzz⟩ : ∃ y : Int32 × Nat, y = tokS false true z := ⟨_, rfl⟩
      rw [← hzz] at hP hD
      exact J_32 zz (by rw [hzz]; unfold sqA; simp [hk9, hm]) _ _ hP hD hS _ (lv_sub hl [0, 1, 2] rfl)
  · skip
    have hk9 := kok_t c_7
    refine lv_iconst (v := 1) hx hb dX2_readSquare_10 (by decide) ?_
    refine lv_goto (tgt := 15) hx hb dX2_readSquare_11 (by decide) ?_
    refine lv_aload_n hx hb dX2_readSquare_15 rfl (lv_at hl 2 rfl) ?_
    refine lz_get (G := G) (ci := 1) (v := .int (D 2)) (C := RX1) (T := TX1) (N := 14) hx hb hu_wsX10 (fun _ h9 => h9) hown hK hP 2 rfl rfl 2 (by decide) hw1 rfl rfl dX2_readSquare_16 ?_
    refine lv_bipush (v := 8) hx hb dX2_readSquare_19 (by decide) ?_
    refine lv_icmp_ge (tgt := 28) hx hb dX2_readSquare_21 (by decide) (fun c_21 => ?_) (fun c_21 => ?_)
    · skip
      have c_21' := Int32.not_lt.mpr c_21
      have hm : ¬ N < 8 := fun h9 => absurd (lz_ge (k := N) (N := 8) rfl (hN ▸ c_21) (by omega) (by omega)) (by omega)
      refine lv_iconst (v := 0) hx hb dX2_readSquare_28 (by decide) ?_
      have hPc := hP.sub (ws' := (lzTp u q S ++ lzI G (q 0) 120 tb)) [0, 1] rfl
      have hDc := hD.sub (ws' := (lzTp u q S ++ lzI G (q 0) 120 tb)) [0, 1] (by decide) rfl
      have hFc : ∀ zz : Nat, lzA (lzTp u q S ++ lzI G (q 0) 120 tb) zz → A zz := lz_free hD [0, 1] rfl
      refine va_callv (va_runV (As := [.int 1, .int 0]) (rest := []) ⟨hx, hb, hml, hown, hts⟩ (c_X2_readToken l G u q S tb L z true false (hL) (hL1) (hz1) (hz2) (hz3)) (cwV 2 hts gX2_readSquare_X2_readToken rfl rfl rfl (by decide +kernel) ⟨Nat.le_of_ble_eq_true rfl, Nat.le_of_ble_eq_true rfl⟩) (rw_preV hK hPc hDc hP (ci := 2) (q0 := 0) rfl rfl) rfl rfl hl.1 rfl (lv_room (Nat.le_of_ble_eq_true rfl)) dX2_readSquare_29 ⟨Nat.zero_le _, Nat.zero_le _⟩) hS (fun q _ h => hFc q h) hFc (fun u_13 t9 H1 locs ht hvm hr_12 hB hz1 hk1 hS => ?_)
      replace hB : va_P G.1 lzC _ t9.heap := hB
      rw [ht] at hB
      obtain ⟨hP, hD⟩ := lz_join (wc := (lzTp u q S ++ lzI G (q 0) 120 tb)) (wr := ([(h, .inr (1, [.int (D 0), .int (D 1), .int (D 2), .int (D 3), .ref (q2 4), .ref (q2 5), .ref (q2 6), .ref (q2 7), .ref (q2 8), .ref (q2 9), .ref (q2 10), .ref (q2 11), .ref (q2 12), .ref (q2 13)])), (q2 4, .inl (G.2 0, 8, .inl (E 4))), (q2 5, .inl (G.2 0, 8, .inl (E 5))), (q2 6, .inl (G.2 0, 8, .inl (E 6))), (q2 7, .inl (G.2 0, 8, .inl (E 7))), (q2 8, .inl (G.2 0, 8, .inl (E 8))), (q2 9, .inl (G.2 0, 5, .inl (E 9))), (q2 10, .inl (G.2 0, 5, .inl (E 10))), (q2 11, .inl (G.2 0, 5, .inl (E 11))), (q2 12, .inl (G.2 0, 5, .inl (E 12))), (q2 13, .inl (G.2 0, 5, .inl (E 13)))] : va_W)) (w1 := (lzTp u q (upd (upd S 2 (nI ((tokS true false z).2))) 3 ((tokS true false z).1)) ++ lzI G (q 0) 120 tb)) hP hD [0, 1] [2, 3, 4, 5, 6, 7, 8, 9, 10, 11, 12] rfl rfl (by decide) (by decide) rfl hk1 hB
      replace hP := hP.sub (ws' := (lzTp u q (upd (upd S 2 (nI ((tokS true false z).2))) 3 ((tokS true false z).1)) ++ (lzI G (q 0) 120 tb ++ (lzDoor G h q2 D E)))) [11, 12, 0, 1, 2, 3, 4, 5, 6, 7, 8, 9, 10] rfl
      replace hD := hD.sub (ws' := (lzTp u q (upd (upd S 2 (nI ((tokS true false z).2))) 3 ((tokS true false z).1)) ++ (lzI G (q 0) 120 tb ++ (lzDoor G h q2 D E)))) [11, 12, 0, 1, 2, 3, 4, 5, 6, 7, 8, 9, 10] (by decide) rfl
      clear ht hvm hB hz1 hk1
      generalize H1 = H at hP hS ⊢
      obtain ⟨zz, hzz⟩ : ∃ y : Int32 × Nat, y = tokS true false z := ⟨_, rfl⟩
      rw [← hzz] at hP hD
      exact J_32 zz (by rw [hzz]; unfold sqA; simp [hk9, hm]) _ _ hP hD hS _ (lv_sub hl [0, 1, 2] rfl)
    · skip
      have c_21' := Int32.not_le.mp c_21
      have hm : N < 8 := lz_lt (k := N) (N := 8) rfl (hN ▸ c_21) (by omega) (by omega)
      refine lv_iconst (v := 1) hx hb dX2_readSquare_24 (by decide) ?_
      refine lv_goto (tgt := 29) hx hb dX2_readSquare_25 (by decide) ?_
      have hPc := hP.sub (ws' := (lzTp u q S ++ lzI G (q 0) 120 tb)) [0, 1] rfl
      have hDc := hD.sub (ws' := (lzTp u q S ++ lzI G (q 0) 120 tb)) [0, 1] (by decide) rfl
      have hFc : ∀ zz : Nat, lzA (lzTp u q S ++ lzI G (q 0) 120 tb) zz → A zz := lz_free hD [0, 1] rfl
      refine va_callv (va_runV (As := [.int 1, .int 1]) (rest := []) ⟨hx, hb, hml, hown, hts⟩ (c_X2_readToken l G u q S tb L z true true (hL) (hL1) (hz1) (hz2) (hz3)) (cwV 2 hts gX2_readSquare_X2_readToken rfl rfl rfl (by decide +kernel) ⟨Nat.le_of_ble_eq_true rfl, Nat.le_of_ble_eq_true rfl⟩) (rw_preV hK hPc hDc hP (ci := 2) (q0 := 0) rfl rfl) rfl rfl hl.1 rfl (lv_room (Nat.le_of_ble_eq_true rfl)) dX2_readSquare_29 ⟨Nat.zero_le _, Nat.zero_le _⟩) hS (fun q _ h => hFc q h) hFc (fun u_15 t9 H1 locs ht hvm hr_14 hB hz1 hk1 hS => ?_)
      replace hB : va_P G.1 lzC _ t9.heap := hB
      rw [ht] at hB
      obtain ⟨hP, hD⟩ := lz_join (wc := (lzTp u q S ++ lzI G (q 0) 120 tb)) (wr := ([(h, .inr (1, [.int (D 0), .int (D 1), .int (D 2), .int (D 3), .ref (q2 4), .ref (q2 5), .ref (q2 6), .ref (q2 7), .ref (q2 8), .ref (q2 9), .ref (q2 10), .ref (q2 11), .ref (q2 12), .ref (q2 13)])), (q2 4, .inl (G.2 0, 8, .inl (E 4))), (q2 5, .inl (G.2 0, 8, .inl (E 5))), (q2 6, .inl (G.2 0, 8, .inl (E 6))), (q2 7, .inl (G.2 0, 8, .inl (E 7))), (q2 8, .inl (G.2 0, 8, .inl (E 8))), (q2 9, .inl (G.2 0, 5, .inl (E 9))), (q2 10, .inl (G.2 0, 5, .inl (E 10))), (q2 11, .inl (G.2 0, 5, .inl (E 11))), (q2 12, .inl (G.2 0, 5, .inl (E 12))), (q2 13, .inl (G.2 0, 5, .inl (E 13)))] : va_W)) (w1 := (lzTp u q (upd (upd S 2 (nI ((tokS true true z).2))) 3 ((tokS true true z).1)) ++ lzI G (q 0) 120 tb)) hP hD [0, 1] [2, 3, 4, 5, 6, 7, 8, 9, 10, 11, 12] rfl rfl (by decide) (by decide) rfl hk1 hB
      replace hP := hP.sub (ws' := (lzTp u q (upd (upd S 2 (nI ((tokS true true z).2))) 3 ((tokS true true z).1)) ++ (lzI G (q 0) 120 tb ++ (lzDoor G h q2 D E)))) [11, 12, 0, 1, 2, 3, 4, 5, 6, 7, 8, 9, 10] rfl
      replace hD := hD.sub (ws' := (lzTp u q (upd (upd S 2 (nI ((tokS true true z).2))) 3 ((tokS true true z).1)) ++ (lzI G (q 0) 120 tb ++ (lzDoor G h q2 D E)))) [11, 12, 0, 1, 2, 3, 4, 5, 6, 7, 8, 9, 10] (by decide) rfl
      clear ht hvm hB hz1 hk1
      generalize H1 = H at hP hS ⊢
      obtain ⟨zz, hzz⟩ : ∃ y : Int32 × Nat, y = tokS true true z := ⟨_, rfl⟩
      rw [← hzz] at hP hD
      exact J_32 zz (by rw [hzz]; unfold sqA; simp [hk9, hm]) _ _ hP hD hS _ (lv_sub hl [0, 1, 2] rfl)
set_option maxHeartbeats 4000000 in
set_option maxRecDepth 100000 in
theorem c_X2_readInto (l : Launch) (G : lzG) (u : Nat) (q : Nat → Nat) (S : Nat → Int32) (tb : Nat → Int32) (L : Nat) (h : Nat) (q2 : Nat → Nat) (D : Nat → Int32) (E : Nat → Nat → Int32) (aK aV : Nat) (hL : S 1 = nI L) (hL1 : L ≤ 120) (hby : ∀ k : Nat, k < L → inR (tb k) 0 255 = true) (hD2 : D 2 = nI 0) (hD3 : D 3 = nI 0) : Met l yX2_readInto wsX2_readInto ({ frames := 6, cells := 0, slots := 0, locals := 135 }) (va_Pc [.ref u, .ref h] (rwsP G (lzTp u q S ++ (lzI G (q 0) 120 tb ++ (lzDoor G h q2 D E))) aK aV)) (va_Qi (S := (Int32 × Nat) × ((Nat → Int32) × (Nat → Nat → Int32))) (fun (r : Int32) u9 => drC tb L E r u9.1 u9.2.1 u9.2.2) (rwB G (fun u9 : (Int32 × Nat) × ((Nat → Int32) × (Nat → Nat → Int32)) => (lzTp u q (upd (upd S 2 (nI u9.1.2)) 3 u9.1.1) ++ (lzI G (q 0) 120 tb ++ (lzDoor G h q2 u9.2.1 u9.2.2))))) (lzA (lzTp u q S ++ (lzI G (q 0) 120 tb ++ (lzDoor G h q2 D E))))) 0 0 (lzA (lzTp u q S ++ (lzI G (q 0) 120 tb ++ (lzDoor G h q2 D E)))) := by
  refine rws_start (S := (Int32 × Nat) × ((Nat → Int32) × (Nat → Nat → Int32))) (cc := cX2_readInto) (maxL := 3) (ret := (some .int)) (by decide) rfl (Nat.le_of_ble_eq_true rfl) ?_
  intro pp ee ss mm bl me cd A hx hb hr hlk hml hts hown hP hK hD hAe hS hSt ls hl
  have hA0 : ∀ zz : Nat, lzA (lzTp u q S ++ (lzI G (q 0) 120 tb ++ (lzDoor G h q2 D E))) zz → A zz := fun zz h9 => by rw [hAe]; exact h9
  rw [← hAe]
  clear hAe
  have hown : ss.vm.findClass RX2 = some mm.cls := hown
  have hw1 := hts (.fieldLink RX2 19 "LampSquares$Tape" "at" "I") (List.mem_of_getElem? (i := 1) rfl)
  have hw2 := hts (.fieldLink RX2 22 "LampSquares$Tape" "fault" "I") (List.mem_of_getElem? (i := 2) rfl)
  have hw3 := hts (.fieldLink RX2 15 "LampSquares$Tape" "length" "I") (List.mem_of_getElem? (i := 3) rfl)
  have hu_wsX20 : ∀ w ∈ wsX20, w.before ([.ref u, .ref h] : List Value).toArray ss = true := fun w h9 => hts w (List.mem_cons_of_mem _ (List.mem_append_left _ (List.mem_append_right _ h9)))
  have hl : lv_has ls 3 [(0, .ref u), (1, .ref h)] := hl
  refine lv_aload_n hx hb dX2_readInto_0 rfl (lv_at hl 0 rfl) ?_
  refine lv_iconst (v := 0) hx hb dX2_readInto_1 (by decide) ?_
  refine lz_put (G := G) (ci := 2) (C := RX2) (T := TX2) (N := 4) hx hb hu_wsX20 (fun _ h9 => h9) tyX2 tyX2_ok nmX2 hown hK hP hD hS 0 rfl rfl 2 (by decide) hw1 rfl rfl (by decide +kernel) (Nat.le_of_ble_eq_true rfl) dX2_readInto_2 (lzTp u q (upd S 2 0) ++ (lzI G (q 0) 120 tb ++ (lzDoor G h q2 D E))) rfl (fun H locs hP hD hS => ?_)
  refine lv_aload_n hx hb dX2_readInto_5 rfl (lv_at hl 0 rfl) ?_
  refine lv_iconst (v := 0) hx hb dX2_readInto_6 (by decide) ?_
  refine lz_put (G := G) (ci := 2) (C := RX2) (T := TX2) (N := 4) hx hb hu_wsX20 (fun _ h9 => h9) tyX2 tyX2_ok nmX2 hown hK hP hD hS 0 rfl rfl 3 (by decide) hw2 rfl rfl (by decide +kernel) (Nat.le_of_ble_eq_true rfl) dX2_readInto_7 (lzTp u q (upd (upd S 2 0) 3 0) ++ (lzI G (q 0) 120 tb ++ (lzDoor G h q2 D E))) rfl (fun H locs hP hD hS => ?_)
  refine lv_aload_n hx hb dX2_readInto_10 rfl (lv_at hl 0 rfl) ?_
  refine lv_aload_n hx hb dX2_readInto_11 rfl (lv_at hl 1 rfl) ?_
  have hFc : ∀ zz : Nat, lzA (lzTp u q (upd (upd S 2 0) 3 0) ++ (lzI G (q 0) 120 tb ++ (lzDoor G h q2 D E))) zz → A zz := lz_free hD [0, 1, 2, 3, 4, 5, 6, 7, 8, 9, 10, 11, 12] rfl
  refine va_callv (va_runV (As := [.ref h]) (rest := []) ⟨hx, hb, hml, hown, hts⟩ (c_X2_readLaw l G u q (upd (upd S 2 0) 3 0) tb L ((0, 0) : Int32 × Nat) h q2 D E (hL) (hL1) (rfl) (rfl) (Nat.zero_le _)) (cwV 1 hts gX2_readInto_X2_readLaw rfl rfl rfl (by decide +kernel) ⟨Nat.le_of_ble_eq_true rfl, Nat.le_of_ble_eq_true rfl⟩) (rw_preV hK hP hD hP (ci := 2) (q0 := 0) rfl rfl) rfl rfl hl.1 rfl (lv_room (Nat.le_of_ble_eq_true rfl)) dX2_readInto_12 ⟨Nat.zero_le _, Nat.zero_le _⟩) hS (fun q _ h => hFc q h) hFc (fun u_2 t9 H1 locs ht hvm hr_1 hB hz1 hk1 hS => ?_)
  replace hB : va_P G.1 lzC _ t9.heap := hB
  rw [ht] at hB
  obtain ⟨hP, hD⟩ := lz_join (wc := (lzTp u q (upd (upd S 2 0) 3 0) ++ (lzI G (q 0) 120 tb ++ (lzDoor G h q2 D E)))) (wr := ([] : va_W)) (w1 := (lzTp u q (upd (upd S 2 (nI ((lawZ tb L ((0, 0) : Int32 × Nat)).2))) 3 ((lawZ tb L ((0, 0) : Int32 × Nat)).1)) ++ (lzI G (q 0) 120 tb ++ (lzDoor G h q2 (upd (upd D 0 (numV tb L ((lawA tb L ((0, 0) : Int32 × Nat)).2))) 1 (numV tb L ((lawB tb L ((0, 0) : Int32 × Nat)).2))) E)))) hP hD [0, 1, 2, 3, 4, 5, 6, 7, 8, 9, 10, 11, 12] [] rfl rfl (by decide) (by decide) rfl hk1 hB
  replace hP := hP.sub (ws' := (lzTp u q (upd (upd S 2 (nI ((lawZ tb L ((0, 0) : Int32 × Nat)).2))) 3 ((lawZ tb L ((0, 0) : Int32 × Nat)).1)) ++ (lzI G (q 0) 120 tb ++ (lzDoor G h q2 (upd (upd D 0 (numV tb L ((lawA tb L ((0, 0) : Int32 × Nat)).2))) 1 (numV tb L ((lawB tb L ((0, 0) : Int32 × Nat)).2))) E)))) [0, 1, 2, 3, 4, 5, 6, 7, 8, 9, 10, 11, 12] rfl
  replace hD := hD.sub (ws' := (lzTp u q (upd (upd S 2 (nI ((lawZ tb L ((0, 0) : Int32 × Nat)).2))) 3 ((lawZ tb L ((0, 0) : Int32 × Nat)).1)) ++ (lzI G (q 0) 120 tb ++ (lzDoor G h q2 (upd (upd D 0 (numV tb L ((lawA tb L ((0, 0) : Int32 × Nat)).2))) 1 (numV tb L ((lawB tb L ((0, 0) : Int32 × Nat)).2))) E)))) [0, 1, 2, 3, 4, 5, 6, 7, 8, 9, 10, 11, 12] (by decide) rfl
  clear ht hvm hB hz1 hk1
  generalize H1 = H at hP hS ⊢
  obtain ⟨za, h_za⟩ : ∃ y : Int32 × Nat, y = lawZ tb L ((0, 0) : Int32 × Nat) := ⟨_, rfl⟩
  rw [← h_za] at hP hD
  have hle_za : za.2 ≤ L := by rw [h_za]; exact lawZ_le (Nat.zero_le _)
  refine lv_aload_n hx hb dX2_readInto_15 rfl (lv_at hl 0 rfl) ?_
  refine lv_aload_n hx hb dX2_readInto_16 rfl (lv_at hl 1 rfl) ?_
  have hFc : ∀ zz : Nat, lzA (lzTp u q (upd (upd S 2 (nI za.2)) 3 za.1) ++ (lzI G (q 0) 120 tb ++ (lzDoor G h q2 (upd (upd D 0 (numV tb L ((lawA tb L ((0, 0) : Int32 × Nat)).2))) 1 (numV tb L ((lawB tb L ((0, 0) : Int32 × Nat)).2))) E))) zz → A zz := lz_free hD [0, 1, 2, 3, 4, 5, 6, 7, 8, 9, 10, 11, 12] rfl
  refine va_callv (va_runV (As := [.ref h]) (rest := []) ⟨hx, hb, hml, hown, hts⟩ (c_X2_readSquare l G u q (upd (upd S 2 (nI za.2)) 3 za.1) tb L za h q2 (upd (upd D 0 (numV tb L ((lawA tb L ((0, 0) : Int32 × Nat)).2))) 1 (numV tb L ((lawB tb L ((0, 0) : Int32 × Nat)).2))) E 0 aK aV (hL) (hL1) (rfl) (rfl) (hle_za) (hby) (hD2) (Nat.zero_le _)) (cwV 1 hts gX2_readInto_X2_readSquare rfl rfl rfl (by decide +kernel) ⟨Nat.le_of_ble_eq_true rfl, Nat.le_of_ble_eq_true rfl⟩) (rws_preV hK hP hD hSt hS hFc (va_recv hK.1 hP (ci := 2) (q0 := 0) rfl rfl)) rfl rfl hl.1 rfl (lv_room (Nat.le_of_ble_eq_true rfl)) dX2_readInto_17 ⟨Nat.zero_le _, Nat.zero_le _⟩) hS (fun q _ h => hFc q h) hFc (fun u_4 t9 H1 locs ht hvm hr_3 hB hz1 hk1 hS => ?_)
  replace hB : va_P G.1 lzC _ t9.heap := hB
  rw [ht] at hB
  obtain ⟨hP, hD⟩ := lz_join (wc := (lzTp u q (upd (upd S 2 (nI za.2)) 3 za.1) ++ (lzI G (q 0) 120 tb ++ (lzDoor G h q2 (upd (upd D 0 (numV tb L ((lawA tb L ((0, 0) : Int32 × Nat)).2))) 1 (numV tb L ((lawB tb L ((0, 0) : Int32 × Nat)).2))) E)))) (wr := ([] : va_W)) (w1 := (lzTp u q (upd (upd S 2 (nI ((sqZ tb L 0 za).2))) 3 ((sqZ tb L 0 za).1)) ++ (lzI G (q 0) 120 tb ++ (lzDoor G h q2 (sqDD tb L 0 za (upd (upd D 0 (numV tb L ((lawA tb L ((0, 0) : Int32 × Nat)).2))) 1 (numV tb L ((lawB tb L ((0, 0) : Int32 × Nat)).2)))) (sqFD tb L 0 za E))))) hP hD [0, 1, 2, 3, 4, 5, 6, 7, 8, 9, 10, 11, 12] [] rfl rfl (by decide) (by decide) rfl hk1 hB
  replace hP := hP.sub (ws' := (lzTp u q (upd (upd S 2 (nI ((sqZ tb L 0 za).2))) 3 ((sqZ tb L 0 za).1)) ++ (lzI G (q 0) 120 tb ++ (lzDoor G h q2 (sqDD tb L 0 za (upd (upd D 0 (numV tb L ((lawA tb L ((0, 0) : Int32 × Nat)).2))) 1 (numV tb L ((lawB tb L ((0, 0) : Int32 × Nat)).2)))) (sqFD tb L 0 za E))))) [0, 1, 2, 3, 4, 5, 6, 7, 8, 9, 10, 11, 12] rfl
  replace hD := hD.sub (ws' := (lzTp u q (upd (upd S 2 (nI ((sqZ tb L 0 za).2))) 3 ((sqZ tb L 0 za).1)) ++ (lzI G (q 0) 120 tb ++ (lzDoor G h q2 (sqDD tb L 0 za (upd (upd D 0 (numV tb L ((lawA tb L ((0, 0) : Int32 × Nat)).2))) 1 (numV tb L ((lawB tb L ((0, 0) : Int32 × Nat)).2)))) (sqFD tb L 0 za E))))) [0, 1, 2, 3, 4, 5, 6, 7, 8, 9, 10, 11, 12] (by decide) rfl
  clear ht hvm hB hz1 hk1
  generalize H1 = H at hP hS ⊢
  obtain ⟨zb, h_zb⟩ : ∃ y : Int32 × Nat, y = sqZ tb L 0 za := ⟨_, rfl⟩
  rw [← h_zb] at hP hD
  have hle_zb : zb.2 ≤ L := by rw [h_zb]; exact sqZ_le hle_za
  have J_53 : ∀ (J : Nat) (zj : Int32 × Nat) (dd : Nat → Int32) (eF : Nat → Nat → Int32), (zj = zsq tb L J) → (zj.2 ≤ L) → (stS tb L J) → (dd 3 = nI 0) → (zj.1 = 0 → rowC tb L J E dd eF) → ∀ (H : Heap) (locs : List Loc), va_P G.1 lzC (lzTp u q (upd (upd S 2 (nI zj.2)) 3 zj.1) ++ (lzI G (q 0) 120 tb ++ (lzDoor G h q2 dd eF))) H → va_D A (lzTp u q (upd (upd S 2 (nI zj.2)) 3 zj.1) ++ (lzI G (q 0) 120 tb ++ (lzDoor G h q2 dd eF))) → va_S A ss.heap H locs → ∀ ls : Array Slot, lv_has ls 3 [(0, .ref u), (1, .ref h)] → W pp l ee ({ frames := 6, cells := 0, slots := 0, locals := 135 }) ss mm ([.ref u, .ref h] : List Value).toArray bl me cd H locs 0 0 (MQ bl (va_Qi (S := (Int32 × Nat) × ((Nat → Int32) × (Nat → Nat → Int32))) (fun (r : Int32) u9 => drC tb L E r u9.1 u9.2.1 u9.2.2) (rwB G (fun u9 : (Int32 × Nat) × ((Nat → Int32) × (Nat → Nat → Int32)) => (lzTp u q (upd (upd S 2 (nI u9.1.2)) 3 u9.1.1) ++ (lzI G (q 0) 120 tb ++ (lzDoor G h q2 u9.2.1 u9.2.2))))) A) ([.ref u, .ref h] : List Value).toArray ss 0 0 A) (F0 mm 53 ls []) := by
    intro J zj dd eF hzj hle_zj hst hd3 hrow H locs hP hD hS ls hl
    refine lv_aload_n hx hb dX2_readInto_53 rfl (lv_at hl 0 rfl) ?_
    refine lv_aload_n hx hb dX2_readInto_54 rfl (lv_at hl 1 rfl) ?_
    have hFc : ∀ zz : Nat, lzA (lzTp u q (upd (upd S 2 (nI zj.2)) 3 zj.1) ++ (lzI G (q 0) 120 tb ++ (lzDoor G h q2 dd eF))) zz → A zz := lz_free hD [0, 1, 2, 3, 4, 5, 6, 7, 8, 9, 10, 11, 12] rfl
    refine va_callv (va_runV (As := [.ref h]) (rest := []) ⟨hx, hb, hml, hown, hts⟩ (c_X2_readVisitor l G u q (upd (upd S 2 (nI zj.2)) 3 zj.1) tb L zj h q2 dd eF 0 (hL) (hL1) (rfl) (rfl) (hle_zj) (hd3) (Nat.zero_le _)) (cwV 1 hts gX2_readInto_X2_readVisitor rfl rfl rfl (by decide +kernel) ⟨Nat.le_of_ble_eq_true rfl, Nat.le_of_ble_eq_true rfl⟩) (rw_preV hK hP hD hP (ci := 2) (q0 := 0) rfl rfl) rfl rfl hl.1 rfl (lv_room (Nat.le_of_ble_eq_true rfl)) dX2_readInto_55 ⟨Nat.zero_le _, Nat.zero_le _⟩) hS (fun q _ h => hFc q h) hFc (fun u_6 t9 H1 locs ht hvm hr_5 hB hz1 hk1 hS => ?_)
    replace hB : va_P G.1 lzC _ t9.heap := hB
    rw [ht] at hB
    obtain ⟨hP, hD⟩ := lz_join (wc := (lzTp u q (upd (upd S 2 (nI zj.2)) 3 zj.1) ++ (lzI G (q 0) 120 tb ++ (lzDoor G h q2 dd eF)))) (wr := ([] : va_W)) (w1 := (lzTp u q (upd (upd S 2 (nI ((visZ tb L 0 zj).2))) 3 ((visZ tb L 0 zj).1)) ++ (lzI G (q 0) 120 tb ++ (lzDoor G h q2 (visD tb L 0 zj dd) (visF tb L 0 zj eF))))) hP hD [0, 1, 2, 3, 4, 5, 6, 7, 8, 9, 10, 11, 12] [] rfl rfl (by decide) (by decide) rfl hk1 hB
    replace hP := hP.sub (ws' := (lzTp u q (upd (upd S 2 (nI ((visZ tb L 0 zj).2))) 3 ((visZ tb L 0 zj).1)) ++ (lzI G (q 0) 120 tb ++ (lzDoor G h q2 (visD tb L 0 zj dd) (visF tb L 0 zj eF))))) [0, 1, 2, 3, 4, 5, 6, 7, 8, 9, 10, 11, 12] rfl
    replace hD := hD.sub (ws' := (lzTp u q (upd (upd S 2 (nI ((visZ tb L 0 zj).2))) 3 ((visZ tb L 0 zj).1)) ++ (lzI G (q 0) 120 tb ++ (lzDoor G h q2 (visD tb L 0 zj dd) (visF tb L 0 zj eF))))) [0, 1, 2, 3, 4, 5, 6, 7, 8, 9, 10, 11, 12] (by decide) rfl
    clear ht hvm hB hz1 hk1
    generalize H1 = H at hP hS ⊢
    obtain ⟨ze, h_ze⟩ : ∃ y : Int32 × Nat, y = visZ tb L 0 zj := ⟨_, rfl⟩
    rw [← h_ze] at hP hD
    have hle_ze : ze.2 ≤ L := by rw [h_ze]; exact visZ_le hle_zj
    refine lv_iconst (v := 0) hx hb dX2_readInto_58 (by decide) ?_
    refine lv_istore_n (lv' := [(2, .int 0), (0, .ref u), (1, .ref h)]) hx hb dX2_readInto_59 rfl hl (by decide) rfl (fun ls hl => ?_)
    have J_60 : ∀ (n9 : Nat), ∀ (k : Nat) (zl : Int32 × Nat) (dd : Nat → Int32) (eF : Nat → Nat → Int32), (zl = yvs tb L J (k + 1)) → (zl.2 ≤ L) → (k ≤ 5) → (∀ i : Nat, 1 ≤ i → i < k + 1 → goC L (yvs tb L J i) = true) → (zl.1 = 0 → rowC tb L J E dd eF ∧ rowW tb L J (k + 1) dd eF) → 6 - k < n9 → ∀ (H : Heap) (locs : List Loc), va_P G.1 lzC (lzTp u q (upd (upd S 2 (nI zl.2)) 3 zl.1) ++ (lzI G (q 0) 120 tb ++ (lzDoor G h q2 dd eF))) H → va_D A (lzTp u q (upd (upd S 2 (nI zl.2)) 3 zl.1) ++ (lzI G (q 0) 120 tb ++ (lzDoor G h q2 dd eF))) → va_S A ss.heap H locs → ∀ ls : Array Slot, lv_has ls 3 [(2, .int (nI k)), (0, .ref u), (1, .ref h)] → W pp l ee ({ frames := 6, cells := 0, slots := 0, locals := 135 }) ss mm ([.ref u, .ref h] : List Value).toArray bl me cd H locs 0 0 (MQ bl (va_Qi (S := (Int32 × Nat) × ((Nat → Int32) × (Nat → Nat → Int32))) (fun (r : Int32) u9 => drC tb L E r u9.1 u9.2.1 u9.2.2) (rwB G (fun u9 : (Int32 × Nat) × ((Nat → Int32) × (Nat → Nat → Int32)) => (lzTp u q (upd (upd S 2 (nI u9.1.2)) 3 u9.1.1) ++ (lzI G (q 0) 120 tb ++ (lzDoor G h q2 u9.2.1 u9.2.2))))) A) ([.ref u, .ref h] : List Value).toArray ss 0 0 A) (F0 mm 60 ls []) := by
      intro n9
      induction n9 with
      | zero => intro k zl dd eF hzl hle_zl hk5 hgo hrw hn; exact absurd hn (Nat.not_lt_zero _)
      | succ n9 ih_60 =>
        intro k zl dd eF hzl hle_zl hk5 hgo hrw hn_60 H locs hP hD hS ls hl
        refine lv_iload_n hx hb dX2_readInto_60 rfl (lv_at hl 0 rfl) ?_
        refine lv_iconst (v := 5) hx hb dX2_readInto_61 (by decide) ?_
        refine lv_icmp_ge (tgt := 94) hx hb dX2_readInto_62 (by decide) (fun c_62 => ?_) (fun c_62 => ?_)
        · skip
          have c_62' := Int32.not_lt.mpr c_62
          have hk2 : 5 ≤ k := (nI_leI (a := 5) (by omega) (by omega)).mp c_62
          have hk3 : k = 5 := by omega
          have hsc : stC tb L J (k + 1) := ⟨by omega, hgo, go_C hzl (goC_n (fun h9 => by have := yl_5 hzl h9; omega))⟩
          refine lv_aload_n hx hb dX2_readInto_94 rfl (lv_at hl 1 rfl) ?_
          refine lz_get (G := G) (ci := 2) (v := .int zl.1) (C := RX2) (T := TX2) (N := 4) hx hb hu_wsX20 (fun _ h9 => h9) hown hK hP 0 rfl rfl 3 (by decide) hw2 rfl rfl dX2_readInto_95 ?_
          exact rw_iret (S := (Int32 × Nat) × ((Nat → Int32) × (Nat → Nat → Int32))) (G := G) (Wd := fun u9 : (Int32 × Nat) × ((Nat → Int32) × (Nat → Nat → Int32)) => (lzTp u q (upd (upd S 2 (nI u9.1.2)) 3 u9.1.1) ++ (lzI G (q 0) 120 tb ++ (lzDoor G h q2 u9.2.1 u9.2.2)))) (zl, (dd, eF)) hx hb hr hlk dX2_readInto_98 hS (hP) (⟨J, k + 1, hst, hsc, hzl, rfl, hrw⟩)
        · skip
          have c_62' := Int32.not_le.mp c_62
          have hk2 : k < 5 := (nI_ltI (b := 5) (by omega) (by omega)).mp c_62'
          refine lv_aload_n hx hb dX2_readInto_65 rfl (lv_at hl 1 rfl) ?_
          refine lz_get (G := G) (ci := 2) (v := .int zl.1) (C := RX2) (T := TX2) (N := 4) hx hb hu_wsX20 (fun _ h9 => h9) hown hK hP 0 rfl rfl 3 (by decide) hw2 rfl rfl dX2_readInto_66 ?_
          refine lv_if_ne (tgt := 94) hx hb dX2_readInto_69 (by decide) (fun c_69 => ?_) (fun c_69 => ?_)
          · skip
            have hsc : stC tb L J (k + 1) := ⟨by omega, hgo, go_C hzl (goC_n c_69)⟩
            refine lv_aload_n hx hb dX2_readInto_94 rfl (lv_at hl 1 rfl) ?_
            refine lz_get (G := G) (ci := 2) (v := .int zl.1) (C := RX2) (T := TX2) (N := 4) hx hb hu_wsX20 (fun _ h9 => h9) hown hK hP 0 rfl rfl 3 (by decide) hw2 rfl rfl dX2_readInto_95 ?_
            exact rw_iret (S := (Int32 × Nat) × ((Nat → Int32) × (Nat → Nat → Int32))) (G := G) (Wd := fun u9 : (Int32 × Nat) × ((Nat → Int32) × (Nat → Nat → Int32)) => (lzTp u q (upd (upd S 2 (nI u9.1.2)) 3 u9.1.1) ++ (lzI G (q 0) 120 tb ++ (lzDoor G h q2 u9.2.1 u9.2.2)))) (zl, (dd, eF)) hx hb hr hlk dX2_readInto_98 hS (hP) (⟨J, k + 1, hst, hsc, hzl, rfl, hrw⟩)
          · skip
            refine lv_aload_n hx hb dX2_readInto_72 rfl (lv_at hl 1 rfl) ?_
            refine lz_get (G := G) (ci := 2) (v := .int (nI zl.2)) (C := RX2) (T := TX2) (N := 4) hx hb hu_wsX20 (fun _ h9 => h9) hown hK hP 0 rfl rfl 2 (by decide) hw1 rfl rfl dX2_readInto_73 ?_
            refine lv_aload_n hx hb dX2_readInto_76 rfl (lv_at hl 1 rfl) ?_
            refine lz_get (G := G) (ci := 2) (v := .int (S 1)) (C := RX2) (T := TX2) (N := 4) hx hb hu_wsX20 (fun _ h9 => h9) hown hK hP 0 rfl rfl 1 (by decide) hw3 rfl rfl dX2_readInto_77 ?_
            refine lv_icmp_ge (tgt := 94) hx hb dX2_readInto_80 (by decide) (fun c_80 => ?_) (fun c_80 => ?_)
            · skip
              have c_80' := Int32.not_lt.mpr c_80
              have hq : L ≤ zl.2 := lz_ge hL c_80 (by omega) (by omega)
              have hsc : stC tb L J (k + 1) := ⟨by omega, hgo, go_C hzl (goC_k (by omega))⟩
              refine lv_aload_n hx hb dX2_readInto_94 rfl (lv_at hl 1 rfl) ?_
              refine lz_get (G := G) (ci := 2) (v := .int zl.1) (C := RX2) (T := TX2) (N := 4) hx hb hu_wsX20 (fun _ h9 => h9) hown hK hP 0 rfl rfl 3 (by decide) hw2 rfl rfl dX2_readInto_95 ?_
              exact rw_iret (S := (Int32 × Nat) × ((Nat → Int32) × (Nat → Nat → Int32))) (G := G) (Wd := fun u9 : (Int32 × Nat) × ((Nat → Int32) × (Nat → Nat → Int32)) => (lzTp u q (upd (upd S 2 (nI u9.1.2)) 3 u9.1.1) ++ (lzI G (q 0) 120 tb ++ (lzDoor G h q2 u9.2.1 u9.2.2)))) (zl, (dd, eF)) hx hb hr hlk dX2_readInto_98 hS (hP) (⟨J, k + 1, hst, hsc, hzl, rfl, hrw⟩)
            · skip
              have c_80' := Int32.not_le.mp c_80
              have hq : zl.2 < L := lz_lt hL c_80 (by omega) (by omega)
              have hg9 : goC L (yvs tb L J (k + 1)) = true := go_C hzl (goC_y c_69 hq)
              refine lv_aload_n hx hb dX2_readInto_83 rfl (lv_at hl 1 rfl) ?_
              refine lv_aload_n hx hb dX2_readInto_84 rfl (lv_at hl 2 rfl) ?_
              have hFc : ∀ zz : Nat, lzA (lzTp u q (upd (upd S 2 (nI zl.2)) 3 zl.1) ++ (lzI G (q 0) 120 tb ++ (lzDoor G h q2 dd eF))) zz → A zz := lz_free hD [0, 1, 2, 3, 4, 5, 6, 7, 8, 9, 10, 11, 12] rfl
              refine va_callv (va_runV (As := [.ref h]) (rest := []) ⟨hx, hb, hml, hown, hts⟩ (c_X2_readVisitor l G u q (upd (upd S 2 (nI zl.2)) 3 zl.1) tb L zl h q2 dd eF (k + 1) (hL) (hL1) (rfl) (rfl) (hle_zl) ((hrw c_69).2.1) (yl_5 hzl c_69)) (cwV 1 hts gX2_readInto_X2_readVisitor rfl rfl rfl (by decide +kernel) ⟨Nat.le_of_ble_eq_true rfl, Nat.le_of_ble_eq_true rfl⟩) (rw_preV hK hP hD hP (ci := 2) (q0 := 0) rfl rfl) rfl rfl hl.1 rfl (lv_room (Nat.le_of_ble_eq_true rfl)) dX2_readInto_85 ⟨Nat.zero_le _, Nat.zero_le _⟩) hS (fun q _ h => hFc q h) hFc (fun u_8 t9 H1 locs ht hvm hr_7 hB hz1 hk1 hS => ?_)
              replace hB : va_P G.1 lzC _ t9.heap := hB
              rw [ht] at hB
              obtain ⟨hP, hD⟩ := lz_join (wc := (lzTp u q (upd (upd S 2 (nI zl.2)) 3 zl.1) ++ (lzI G (q 0) 120 tb ++ (lzDoor G h q2 dd eF)))) (wr := ([] : va_W)) (w1 := (lzTp u q (upd (upd S 2 (nI ((visZ tb L (k + 1) zl).2))) 3 ((visZ tb L (k + 1) zl).1)) ++ (lzI G (q 0) 120 tb ++ (lzDoor G h q2 (visD tb L (k + 1) zl dd) (visF tb L (k + 1) zl eF))))) hP hD [0, 1, 2, 3, 4, 5, 6, 7, 8, 9, 10, 11, 12] [] rfl rfl (by decide) (by decide) rfl hk1 hB
              replace hP := hP.sub (ws' := (lzTp u q (upd (upd S 2 (nI ((visZ tb L (k + 1) zl).2))) 3 ((visZ tb L (k + 1) zl).1)) ++ (lzI G (q 0) 120 tb ++ (lzDoor G h q2 (visD tb L (k + 1) zl dd) (visF tb L (k + 1) zl eF))))) [0, 1, 2, 3, 4, 5, 6, 7, 8, 9, 10, 11, 12] rfl
              replace hD := hD.sub (ws' := (lzTp u q (upd (upd S 2 (nI ((visZ tb L (k + 1) zl).2))) 3 ((visZ tb L (k + 1) zl).1)) ++ (lzI G (q 0) 120 tb ++ (lzDoor G h q2 (visD tb L (k + 1) zl dd) (visF tb L (k + 1) zl eF))))) [0, 1, 2, 3, 4, 5, 6, 7, 8, 9, 10, 11, 12] (by decide) rfl
              clear ht hvm hB hz1 hk1
              generalize H1 = H at hP hS ⊢
              obtain ⟨zf, h_zf⟩ : ∃ y : Int32 × Nat, y = visZ tb L (k + 1) zl := ⟨_, rfl⟩
              rw [← h_zf] at hP hD
              have hle_zf : zf.2 ≤ L := by rw [h_zf]; exact visZ_le hle_zl
              refine lv_iinc (v := nI (k + 1)) (lv' := [(2, .int (nI (k + 1))), (0, .ref u), (1, .ref h)]) hx hb dX2_readInto_88 hl (k := 0) rfl (nI_1 _) (by decide) rfl (fun ls hl => ?_)
              refine lv_goto (tgt := 60) hx hb dX2_readInto_91 (by decide) ?_
              exact ih_60 (k + 1) zf (visD tb L (k + 1) zl dd) (visF tb L (k + 1) zl eF) (yvs_s h_zf hzl) (hle_zf) (by omega) (go_s (p := fun i => goC L (yvs tb L J i)) hgo hg9) (fun h9 => ⟨rowC_v (hrw c_69).1, rowW_z (hrw c_69).2 hzl h_zf h9⟩) (by omega) _ _ hP hD hS _ (lv_sub hl [0, 1, 2] rfl)
    exact J_60 _ 0 ze (visD tb L 0 zj dd) (visF tb L 0 zj eF) (yvs_s (j := 0) h_ze hzj) (hle_ze) (Nat.zero_le _) (fun i h8 h9 => absurd h9 (by omega)) (fun h9 => ⟨rowC_v (hrow (yl_0 h_ze h9)), rowW_z (i := 0) (rowW_0 hd3) hzj h_ze h9⟩) (Nat.lt_succ_self _) _ _ hP hD hS _ (lv_sub hl [0, 1, 2] rfl)
  refine lv_iconst (v := 0) hx hb dX2_readInto_20 (by decide) ?_
  refine lv_istore_n (lv' := [(2, .int 0), (0, .ref u), (1, .ref h)]) hx hb dX2_readInto_21 rfl hl (by decide) rfl (fun ls hl => ?_)
  have J_22 : ∀ (n9 : Nat), ∀ (k : Nat) (zl : Int32 × Nat) (dd : Nat → Int32) (eF : Nat → Nat → Int32), (zl = zsq tb L (k + 1)) → (zl.2 ≤ L) → (k ≤ 8) → (dd 3 = nI 0) → (∀ i : Nat, 1 ≤ i → i < k + 1 → goS tb L (zsq tb L i) = true) → (zl.1 = 0 → rowC tb L (k + 1) E dd eF) → 9 - k < n9 → ∀ (H : Heap) (locs : List Loc), va_P G.1 lzC (lzTp u q (upd (upd S 2 (nI zl.2)) 3 zl.1) ++ (lzI G (q 0) 120 tb ++ (lzDoor G h q2 dd eF))) H → va_D A (lzTp u q (upd (upd S 2 (nI zl.2)) 3 zl.1) ++ (lzI G (q 0) 120 tb ++ (lzDoor G h q2 dd eF))) → va_S A ss.heap H locs → ∀ ls : Array Slot, lv_has ls 3 [(2, .int (nI k)), (0, .ref u), (1, .ref h)] → W pp l ee ({ frames := 6, cells := 0, slots := 0, locals := 135 }) ss mm ([.ref u, .ref h] : List Value).toArray bl me cd H locs 0 0 (MQ bl (va_Qi (S := (Int32 × Nat) × ((Nat → Int32) × (Nat → Nat → Int32))) (fun (r : Int32) u9 => drC tb L E r u9.1 u9.2.1 u9.2.2) (rwB G (fun u9 : (Int32 × Nat) × ((Nat → Int32) × (Nat → Nat → Int32)) => (lzTp u q (upd (upd S 2 (nI u9.1.2)) 3 u9.1.1) ++ (lzI G (q 0) 120 tb ++ (lzDoor G h q2 u9.2.1 u9.2.2))))) A) ([.ref u, .ref h] : List Value).toArray ss 0 0 A) (F0 mm 22 ls []) := by
    intro n9
    induction n9 with
    | zero => intro k zl dd eF hzl hle_zl hk8 hd3 hgo hrow hn; exact absurd hn (Nat.not_lt_zero _)
    | succ n9 ih_22 =>
      intro k zl dd eF hzl hle_zl hk8 hd3 hgo hrow hn_22 H locs hP hD hS ls hl
      refine lv_iload_n hx hb dX2_readInto_22 rfl (lv_at hl 0 rfl) ?_
      refine lv_bipush (v := 8) hx hb dX2_readInto_23 (by decide) ?_
      refine lv_icmp_ge (tgt := 53) hx hb dX2_readInto_25 (by decide) (fun c_25 => ?_) (fun c_25 => ?_)
      · skip
        have c_25' := Int32.not_lt.mpr c_25
        have hk2 : 8 ≤ k := (nI_leI (a := 8) (by omega) (by omega)).mp c_25
        have hk3 : k = 8 := by omega
        have hst : stS tb L (k + 1) := ⟨by omega, hgo, go_S hzl (goS_n (fun h9 => by have := zl_8 hzl h9; omega))⟩
        exact J_53 (k + 1) zl dd eF (hzl) (hle_zl) (hst) (hd3) (hrow) _ _ hP hD hS _ (lv_sub hl [1, 2] rfl)
      · skip
        have c_25' := Int32.not_le.mp c_25
        have hk2 : k < 8 := (nI_ltI (b := 8) (by omega) (by omega)).mp c_25'
        refine lv_aload_n hx hb dX2_readInto_28 rfl (lv_at hl 1 rfl) ?_
        refine lz_get (G := G) (ci := 2) (v := .int zl.1) (C := RX2) (T := TX2) (N := 4) hx hb hu_wsX20 (fun _ h9 => h9) hown hK hP 0 rfl rfl 3 (by decide) hw2 rfl rfl dX2_readInto_29 ?_
        refine lv_if_ne (tgt := 53) hx hb dX2_readInto_32 (by decide) (fun c_32 => ?_) (fun c_32 => ?_)
        · skip
          have hst : stS tb L (k + 1) := ⟨by omega, hgo, go_S hzl (goS_n c_32)⟩
          exact J_53 (k + 1) zl dd eF (hzl) (hle_zl) (hst) (hd3) (hrow) _ _ hP hD hS _ (lv_sub hl [1, 2] rfl)
        · skip
          refine lv_aload_n hx hb dX2_readInto_35 rfl (lv_at hl 1 rfl) ?_
          have hPc := hP.sub (ws' := (lzTp u q (upd (upd S 2 (nI zl.2)) 3 zl.1) ++ lzI G (q 0) 120 tb)) [0, 1] rfl
          refine ro_calli (va_runV (As := []) (rest := []) ⟨hx, hb, hml, hown, hts⟩ (c_X2_kindHere l G u q (upd (upd S 2 (nI zl.2)) 3 zl.1) tb L zl aK aV (hL) (hL1) (rfl) (rfl) (hle_zl) (hby)) (cwV 0 hts gX2_readInto_X2_kindHere rfl rfl rfl (by decide +kernel) ⟨Nat.le_of_ble_eq_true rfl, Nat.le_of_ble_eq_true rfl⟩) (ros_preV hK hPc hSt hS (va_recv hK.1 hP (ci := 2) (q0 := 0) rfl rfl)) rfl rfl hl.1 rfl (lv_room (Nat.le_of_ble_eq_true rfl)) dX2_readInto_36 ⟨Nat.zero_le _, Nat.zero_le _⟩) (fun r_9 hr_9 => ?_)
          refine lz_top (y := khI (byI tb L zl.2)) hr_9 ?_
          refine lv_if_eq (tgt := 53) hx hb dX2_readInto_39 (by decide) (fun c_39 => ?_) (fun c_39 => ?_)
          · skip
            have hst : stS tb L (k + 1) := ⟨by omega, hgo, go_S hzl (goS_k (kok_f c_39))⟩
            exact J_53 (k + 1) zl dd eF (hzl) (hle_zl) (hst) (hd3) (hrow) _ _ hP hD hS _ (lv_sub hl [1, 2] rfl)
          · skip
            have hg9 : goS tb L (zsq tb L (k + 1)) = true := go_S hzl (goS_y c_32 (kok_t c_39))
            refine lv_aload_n hx hb dX2_readInto_42 rfl (lv_at hl 1 rfl) ?_
            refine lv_aload_n hx hb dX2_readInto_43 rfl (lv_at hl 2 rfl) ?_
            have hFc : ∀ zz : Nat, lzA (lzTp u q (upd (upd S 2 (nI zl.2)) 3 zl.1) ++ (lzI G (q 0) 120 tb ++ (lzDoor G h q2 dd eF))) zz → A zz := lz_free hD [0, 1, 2, 3, 4, 5, 6, 7, 8, 9, 10, 11, 12] rfl
            refine va_callv (va_runV (As := [.ref h]) (rest := []) ⟨hx, hb, hml, hown, hts⟩ (c_X2_readSquare l G u q (upd (upd S 2 (nI zl.2)) 3 zl.1) tb L zl h q2 dd eF (k + 1) aK aV (hL) (hL1) (rfl) (rfl) (hle_zl) (hby) ((hrow c_32).2.2.1) (zl_8 hzl c_32)) (cwV 1 hts gX2_readInto_X2_readSquare rfl rfl rfl (by decide +kernel) ⟨Nat.le_of_ble_eq_true rfl, Nat.le_of_ble_eq_true rfl⟩) (rws_preV hK hP hD hSt hS hFc (va_recv hK.1 hP (ci := 2) (q0 := 0) rfl rfl)) rfl rfl hl.1 rfl (lv_room (Nat.le_of_ble_eq_true rfl)) dX2_readInto_44 ⟨Nat.zero_le _, Nat.zero_le _⟩) hS (fun q _ h => hFc q h) hFc (fun u_11 t9 H1 locs ht hvm hr_10 hB hz1 hk1 hS => ?_)
            replace hB : va_P G.1 lzC _ t9.heap := hB
            rw [ht] at hB
            obtain ⟨hP, hD⟩ := lz_join (wc := (lzTp u q (upd (upd S 2 (nI zl.2)) 3 zl.1) ++ (lzI G (q 0) 120 tb ++ (lzDoor G h q2 dd eF)))) (wr := ([] : va_W)) (w1 := (lzTp u q (upd (upd S 2 (nI ((sqZ tb L (k + 1) zl).2))) 3 ((sqZ tb L (k + 1) zl).1)) ++ (lzI G (q 0) 120 tb ++ (lzDoor G h q2 (sqDD tb L (k + 1) zl dd) (sqFD tb L (k + 1) zl eF))))) hP hD [0, 1, 2, 3, 4, 5, 6, 7, 8, 9, 10, 11, 12] [] rfl rfl (by decide) (by decide) rfl hk1 hB
            replace hP := hP.sub (ws' := (lzTp u q (upd (upd S 2 (nI ((sqZ tb L (k + 1) zl).2))) 3 ((sqZ tb L (k + 1) zl).1)) ++ (lzI G (q 0) 120 tb ++ (lzDoor G h q2 (sqDD tb L (k + 1) zl dd) (sqFD tb L (k + 1) zl eF))))) [0, 1, 2, 3, 4, 5, 6, 7, 8, 9, 10, 11, 12] rfl
            replace hD := hD.sub (ws' := (lzTp u q (upd (upd S 2 (nI ((sqZ tb L (k + 1) zl).2))) 3 ((sqZ tb L (k + 1) zl).1)) ++ (lzI G (q 0) 120 tb ++ (lzDoor G h q2 (sqDD tb L (k + 1) zl dd) (sqFD tb L (k + 1) zl eF))))) [0, 1, 2, 3, 4, 5, 6, 7, 8, 9, 10, 11, 12] (by decide) rfl
            clear ht hvm hB hz1 hk1
            generalize H1 = H at hP hS ⊢
            obtain ⟨zd, h_zd⟩ : ∃ y : Int32 × Nat, y = sqZ tb L (k + 1) zl := ⟨_, rfl⟩
            rw [← h_zd] at hP hD
            have hle_zd : zd.2 ≤ L := by rw [h_zd]; exact sqZ_le hle_zl
            refine lv_iinc (v := nI (k + 1)) (lv' := [(2, .int (nI (k + 1))), (0, .ref u), (1, .ref h)]) hx hb dX2_readInto_47 hl (k := 0) rfl (nI_1 _) (by decide) rfl (fun ls hl => ?_)
            refine lv_goto (tgt := 22) hx hb dX2_readInto_50 (by decide) ?_
            exact ih_22 (k + 1) zd (sqDD tb L (k + 1) zl dd) (sqFD tb L (k + 1) zl eF) (zsq_s h_zd hzl) (hle_zd) (by omega) (sqDD_3.trans hd3) (go_s (p := fun i => goS tb L (zsq tb L i)) hgo hg9) (fun h9 => rowC_z (hrow c_32) hzl h_zd h9) (by omega) _ _ hP hD hS _ (lv_sub hl [0, 1, 2] rfl)
  exact J_22 _ 0 zb (sqDD tb L 0 za (upd (upd D 0 (numV tb L ((lawA tb L ((0, 0) : Int32 × Nat)).2))) 1 (numV tb L ((lawB tb L ((0, 0) : Int32 × Nat)).2)))) (sqFD tb L 0 za E) (zsq_s h_zb (zsq_z h_za)) (hle_zb) (Nat.zero_le _) (sqDD_3.trans hD3) (fun i h8 h9 => absurd h9 (by omega)) (fun h9 => rowC_z (rowC_0 rfl rfl hD2) (zsq_z h_za) h_zb h9) (Nat.lt_succ_self _) _ _ hP hD hS _ (lv_sub hl [0, 1, 2] rfl)
