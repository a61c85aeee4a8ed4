set_option maxHeartbeats 4000000 in
set_option maxRecDepth 100000 in
theorem c_X3_door (l : Launch) (G : lzG) (x : Nat) (q : Nat → Nat) (S : Nat → Int32) (qt : Nat → Nat) (U tb : Nat → Int32) (qh : Nat → Nat) (D : Nat → Int32) (F : Nat → Nat → Int32) (qs : Nat → Nat) (DS : Nat → Int32) (FS : Nat → Nat → Int32) (qa : Nat → Nat) (V : Nat → Int32) (L : Nat) (aK aV : Nat) (hL : U 1 = nI L) (hL1 : L ≤ 120) (hby : ∀ k : Nat, k < L → inR (tb k) 0 255 = true) : Met l yX3_door wsX3_door ({ frames := 7, cells := 0, slots := 0, locals := 157 }) (va_Pc [.ref x] (rwsP G (lzX x q S ++ (lzTp (q 4) qt U ++ (lzI G (qt 0) 120 tb ++ (lzDoor G (q 6) qh D F ++ (lzDoor G (q 7) qs DS FS ++ (lzAc (q 8) qa V)))))) aK aV)) (va_Qi (S := (Int32 × Nat) × ((Nat → Int32) × (Nat → Nat → Int32))) (fun (r : Int32) u9 => drC tb L (clrF FS) u9.1.1 u9.1 u9.2.1 u9.2.2 ∧ r = (if u9.1.1 = 0 then u9.2.1 2 else -1000100 - nI u9.1.2)) (rwB G (fun u9 : (Int32 × Nat) × ((Nat → Int32) × (Nat → Nat → Int32)) => (lzX x q (upd S 5 (if u9.1.1 = 0 then S 5 else u9.1.1)) ++ (lzTp (q 4) qt (upd (upd (upd U 2 (nI u9.1.2)) 3 u9.1.1) 1 0) ++ (lzI G (qt 0) 120 tb ++ (lzDoor G (q 6) qh (if u9.1.1 = 0 then tfS u9.2.1 D else D) (if u9.1.1 = 0 then tfF u9.2.2 F else F) ++ (lzDoor G (q 7) qs u9.2.1 u9.2.2 ++ (lzAc (q 8) qa (upd V 2 (if u9.1.1 = 0 then 0 else V 2)))))))))) (lzA (lzX x q S ++ (lzTp (q 4) qt U ++ (lzI G (qt 0) 120 tb ++ (lzDoor G (q 6) qh D F ++ (lzDoor G (q 7) qs DS FS ++ (lzAc (q 8) qa V)))))))) 0 0 (lzA (lzX x q S ++ (lzTp (q 4) qt U ++ (lzI G (qt 0) 120 tb ++ (lzDoor G (q 6) qh D F ++ (lzDoor G (q 7) qs DS FS ++ (lzAc (q 8) qa V))))))) := by
  refine rws_start (S := (Int32 × Nat) × ((Nat → Int32) × (Nat → Nat → Int32))) (cc := cX3_door) (maxL := 2) (ret := (some .int)) (by decide) rfl (Nat.le_of_ble_eq_true rfl) ?_
  intro pp ee ss mm bl me cd A hx hb hr hlk hml hts hown hP hK hD hAe hS hSt ls hl
  have hA0 : ∀ zz : Nat, lzA (lzX x q S ++ (lzTp (q 4) qt U ++ (lzI G (qt 0) 120 tb ++ (lzDoor G (q 6) qh D F ++ (lzDoor G (q 7) qs DS FS ++ (lzAc (q 8) qa V)))))) zz → A zz := fun zz h9 => by rw [hAe]; exact h9
  rw [← hAe]
  clear hAe
  have hown : ss.vm.findClass RX3 = some mm.cls := hown
  have hw1 := hts (.fieldLink RX3 42 "LampSquares" "spare" "LLampSquares$Door;") (List.mem_of_getElem? (i := 1) rfl)
  have hw2 := hts (.fieldLink RX3 28 "LampSquares" "tape" "LLampSquares$Tape;") (List.mem_of_getElem? (i := 2) rfl)
  have hw3 := hts (.fieldLink RX3 109 "LampSquares$Tape" "length" "I") (List.mem_of_getElem? (i := 3) rfl)
  have hw4 := hts (.fieldLink RX3 32 "LampSquares" "latestFault" "I") (List.mem_of_getElem? (i := 4) rfl)
  have hw5 := hts (.constant RX3 120 (-1000100)) (List.mem_of_getElem? (i := 5) rfl)
  have hw6 := hts (.fieldLink RX3 121 "LampSquares$Tape" "at" "I") (List.mem_of_getElem? (i := 6) rfl)
  have hw7 := hts (.fieldLink RX3 38 "LampSquares" "here" "LLampSquares$Door;") (List.mem_of_getElem? (i := 7) rfl)
  have hw8 := hts (.fieldLink RX3 48 "LampSquares" "acts" "LLampSquares$Acts;") (List.mem_of_getElem? (i := 8) rfl)
  have hw9 := hts (.fieldLink RX3 131 "LampSquares$Door" "squares" "I") (List.mem_of_getElem? (i := 9) rfl)
  have hu_wsX10 : ∀ w ∈ wsX10, w.before ([.ref x] : List Value).toArray ss = true := fun w h9 => hts w (List.mem_cons_of_mem _ (List.mem_append_left _ (List.mem_append_right _ h9)))
  have hu_wsX20 : ∀ w ∈ wsX20, w.before ([.ref x] : List Value).toArray ss = true := fun w h9 => hts w (List.mem_cons_of_mem _ (List.mem_append_left _ (List.mem_append_left _ (List.mem_append_right _ h9))))
  have hu_wsX30 : ∀ w ∈ wsX30, w.before ([.ref x] : List Value).toArray ss = true := fun w h9 => hts w (List.mem_cons_of_mem _ (List.mem_append_left _ (List.mem_append_left _ (List.mem_append_left _ (List.mem_append_right _ h9)))))
  have hl : lv_has ls 2 [(0, .ref x)] := hl
  refine lv_aload_n hx hb dX3_door_0 rfl (lv_at hl 0 rfl) ?_
  refine lz_get (G := G) (ci := 3) (v := .ref (q 7)) (C := RX3) (T := TX3) (N := 13) hx hb hu_wsX30 (fun _ h9 => h9) hown hK hP 0 rfl rfl 7 (by decide) hw1 rfl rfl dX3_door_1 ?_
  have hPc := hP.sub (ws' := lzDoor G (q 7) qs DS FS) [14, 15, 16, 17, 18, 19, 20, 21, 22, 23, 24] rfl
  have hDc := hD.sub (ws' := lzDoor G (q 7) qs DS FS) [14, 15, 16, 17, 18, 19, 20, 21, 22, 23, 24] (by decide) rfl
  have hFc : ∀ zz : Nat, lzA (lzDoor G (q 7) qs DS FS) zz → A zz := lz_free hD [14, 15, 16, 17, 18, 19, 20, 21, 22, 23, 24] rfl
  refine va_callv (va_runV (As := []) (rest := []) ⟨hx, hb, hml, hown, hts⟩ (c_X1_clear l G (q 7) qs DS FS ) (cwV 0 hts gX3_door_X1_clear rfl rfl rfl (by decide +kernel) ⟨Nat.le_of_ble_eq_true rfl, Nat.le_of_ble_eq_true rfl⟩) (rw_preV hK hPc hDc hP (ci := 1) (q0 := 14) rfl rfl) rfl rfl hl.1 rfl (lv_room (Nat.le_of_ble_eq_true rfl)) dX3_door_4 ⟨Nat.zero_le _, Nat.zero_le _⟩) hS (fun q _ h => hFc q h) hFc (fun u_2 t9 H1 locs ht hvm hr_1 hB hz1 hk1 hS => ?_)
  replace hB : va_P G.1 lzC _ t9.heap := hB
  rw [ht] at hB
  obtain ⟨hP, hD⟩ := lz_join (wc := lzDoor G (q 7) qs DS FS) (wr := ([(x, .inr (3, [.ref (q 0), .ref (q 1), .ref (q 2), .int (S 3), .ref (q 4), .int (S 5), .ref (q 6), .ref (q 7), .ref (q 8), .ref (q 9), .ref (q 10), .int (S 11), .ref (q 12)])), (q 4, .inr (2, [.ref (qt 0), .int (U 1), .int (U 2), .int (U 3)])), (qt 0, .inl (G.2 0, 120, .inl tb)), (q 6, .inr (1, [.int (D 0), .int (D 1), .int (D 2), .int (D 3), .ref (qh 4), .ref (qh 5), .ref (qh 6), .ref (qh 7), .ref (qh 8), .ref (qh 9), .ref (qh 10), .ref (qh 11), .ref (qh 12), .ref (qh 13)])), (qh 4, .inl (G.2 0, 8, .inl (F 4))), (qh 5, .inl (G.2 0, 8, .inl (F 5))), (qh 6, .inl (G.2 0, 8, .inl (F 6))), (qh 7, .inl (G.2 0, 8, .inl (F 7))), (qh 8, .inl (G.2 0, 8, .inl (F 8))), (qh 9, .inl (G.2 0, 5, .inl (F 9))), (qh 10, .inl (G.2 0, 5, .inl (F 10))), (qh 11, .inl (G.2 0, 5, .inl (F 11))), (qh 12, .inl (G.2 0, 5, .inl (F 12))), (qh 13, .inl (G.2 0, 5, .inl (F 13))), (q 8, .inr (0, [.ref (qa 0), .int (V 1), .int (V 2)]))] : va_W)) (w1 := lzDoor G (q 7) qs (upd (upd (upd (upd DS 0 0) 1 0) 2 0) 3 0) (lzF (lzF (lzF (lzF (lzF FS 6 (fa_fill (fun _ => 0) ((FS 6)) 8)) 7 (fa_fill (fun _ => 0) ((FS 7)) 8)) 8 (fa_fill (fun _ => -1000000) ((FS 8)) 8)) 11 (fa_fill (fun _ => 0) ((FS 11)) 5)) 12 (fa_fill (fun _ => 0) ((FS 12)) 5))) hP hD [14, 15, 16, 17, 18, 19, 20, 21, 22, 23, 24] [0, 1, 2, 3, 4, 5, 6, 7, 8, 9, 10, 11, 12, 13, 25] rfl rfl (by decide) (by decide) rfl hk1 hB
  replace hP := hP.sub (ws' := (lzX x q S ++ (lzTp (q 4) qt U ++ (lzI G (qt 0) 120 tb ++ (lzDoor G (q 6) qh D F ++ (lzDoor G (q 7) qs (upd (upd (upd (upd DS 0 0) 1 0) 2 0) 3 0) (lzF (lzF (lzF (lzF (lzF FS 6 (fa_fill (fun _ => 0) ((FS 6)) 8)) 7 (fa_fill (fun _ => 0) ((FS 7)) 8)) 8 (fa_fill (fun _ => -1000000) ((FS 8)) 8)) 11 (fa_fill (fun _ => 0) ((FS 11)) 5)) 12 (fa_fill (fun _ => 0) ((FS 12)) 5)) ++ (lzAc (q 8) qa V))))))) [0, 1, 2, 3, 4, 5, 6, 7, 8, 9, 10, 11, 12, 13, 15, 16, 17, 18, 19, 20, 21, 22, 23, 24, 25, 14] rfl
  replace hD := hD.sub (ws' := (lzX x q S ++ (lzTp (q 4) qt U ++ (lzI G (qt 0) 120 tb ++ (lzDoor G (q 6) qh D F ++ (lzDoor G (q 7) qs (upd (upd (upd (upd DS 0 0) 1 0) 2 0) 3 0) (lzF (lzF (lzF (lzF (lzF FS 6 (fa_fill (fun _ => 0) ((FS 6)) 8)) 7 (fa_fill (fun _ => 0) ((FS 7)) 8)) 8 (fa_fill (fun _ => -1000000) ((FS 8)) 8)) 11 (fa_fill (fun _ => 0) ((FS 11)) 5)) 12 (fa_fill (fun _ => 0) ((FS 12)) 5)) ++ (lzAc (q 8) qa V))))))) [0, 1, 2, 3, 4, 5, 6, 7, 8, 9, 10, 11, 12, 13, 15, 16, 17, 18, 19, 20, 21, 22, 23, 24, 25, 14] (by decide) rfl
  clear ht hvm hB hz1 hk1
  generalize H1 = H at hP hS ⊢
  refine lv_aload_n hx hb dX3_door_7 rfl (lv_at hl 0 rfl) ?_
  refine lz_get (G := G) (ci := 3) (v := .ref (q 4)) (C := RX3) (T := TX3) (N := 13) hx hb hu_wsX30 (fun _ h9 => h9) hown hK hP 0 rfl rfl 4 (by decide) hw2 rfl rfl dX3_door_8 ?_
  refine lv_aload_n hx hb dX3_door_11 rfl (lv_at hl 0 rfl) ?_
  refine lz_get (G := G) (ci := 3) (v := .ref (q 7)) (C := RX3) (T := TX3) (N := 13) hx hb hu_wsX30 (fun _ h9 => h9) hown hK hP 0 rfl rfl 7 (by decide) hw1 rfl rfl dX3_door_12 ?_
  have hPc := hP.sub (ws' := (lzTp (q 4) qt U ++ (lzI G (qt 0) 120 tb ++ (lzDoor G (q 7) qs (upd (upd (upd (upd DS 0 0) 1 0) 2 0) 3 0) (lzF (lzF (lzF (lzF (lzF FS 6 (fa_fill (fun _ => 0) ((FS 6)) 8)) 7 (fa_fill (fun _ => 0) ((FS 7)) 8)) 8 (fa_fill (fun _ => -1000000) ((FS 8)) 8)) 11 (fa_fill (fun _ => 0) ((FS 11)) 5)) 12 (fa_fill (fun _ => 0) ((FS 12)) 5)))))) [1, 2, 14, 15, 16, 17, 18, 19, 20, 21, 22, 23, 24] rfl
  have hDc := hD.sub (ws' := (lzTp (q 4) qt U ++ (lzI G (qt 0) 120 tb ++ (lzDoor G (q 7) qs (upd (upd (upd (upd DS 0 0) 1 0) 2 0) 3 0) (lzF (lzF (lzF (lzF (lzF FS 6 (fa_fill (fun _ => 0) ((FS 6)) 8)) 7 (fa_fill (fun _ => 0) ((FS 7)) 8)) 8 (fa_fill (fun _ => -1000000) ((FS 8)) 8)) 11 (fa_fill (fun _ => 0) ((FS 11)) 5)) 12 (fa_fill (fun _ => 0) ((FS 12)) 5)))))) [1, 2, 14, 15, 16, 17, 18, 19, 20, 21, 22, 23, 24] (by decide) rfl
  have hFc : ∀ zz : Nat, lzA (lzTp (q 4) qt U ++ (lzI G (qt 0) 120 tb ++ (lzDoor G (q 7) qs (upd (upd (upd (upd DS 0 0) 1 0) 2 0) 3 0) (lzF (lzF (lzF (lzF (lzF FS 6 (fa_fill (fun _ => 0) ((FS 6)) 8)) 7 (fa_fill (fun _ => 0) ((FS 7)) 8)) 8 (fa_fill (fun _ => -1000000) ((FS 8)) 8)) 11 (fa_fill (fun _ => 0) ((FS 11)) 5)) 12 (fa_fill (fun _ => 0) ((FS 12)) 5))))) zz → A zz := lz_free hD [1, 2, 14, 15, 16, 17, 18, 19, 20, 21, 22, 23, 24] rfl
  refine va_calli (va_runV (As := [.ref (q 7)]) (rest := []) ⟨hx, hb, hml, hown, hts⟩ (c_X2_readInto l G (q 4) qt U tb L (q 7) qs (upd (upd (upd (upd DS 0 0) 1 0) 2 0) 3 0) (lzF (lzF (lzF (lzF (lzF FS 6 (fa_fill (fun _ => 0) ((FS 6)) 8)) 7 (fa_fill (fun _ => 0) ((FS 7)) 8)) 8 (fa_fill (fun _ => -1000000) ((FS 8)) 8)) 11 (fa_fill (fun _ => 0) ((FS 11)) 5)) 12 (fa_fill (fun _ => 0) ((FS 12)) 5)) aK aV (hL) (hL1) (hby) (rfl) (rfl)) (cwV 1 hts gX3_door_X2_readInto rfl rfl rfl (by decide +kernel) ⟨Nat.le_of_ble_eq_true rfl, Nat.le_of_ble_eq_true rfl⟩) (rws_preV hK hPc hDc hSt hS hFc (va_recv hK.1 hP (ci := 2) (q0 := 1) rfl rfl)) rfl rfl hl.1 rfl (lv_room (Nat.le_of_ble_eq_true rfl)) dX3_door_15 ⟨Nat.zero_le _, Nat.zero_le _⟩) hS (fun q _ h => hFc q h) hFc (fun r_3 u_4 t9 H1 locs ht hvm hr_3 hB hz1 hk1 hS => ?_)
  replace hB : va_P G.1 lzC _ t9.heap := hB
  rw [ht] at hB
  obtain ⟨hP, hD⟩ := lz_join (wc := (lzTp (q 4) qt U ++ (lzI G (qt 0) 120 tb ++ (lzDoor G (q 7) qs (upd (upd (upd (upd DS 0 0) 1 0) 2 0) 3 0) (lzF (lzF (lzF (lzF (lzF FS 6 (fa_fill (fun _ => 0) ((FS 6)) 8)) 7 (fa_fill (fun _ => 0) ((FS 7)) 8)) 8 (fa_fill (fun _ => -1000000) ((FS 8)) 8)) 11 (fa_fill (fun _ => 0) ((FS 11)) 5)) 12 (fa_fill (fun _ => 0) ((FS 12)) 5)))))) (wr := ([(x, .inr (3, [.ref (q 0), .ref (q 1), .ref (q 2), .int (S 3), .ref (q 4), .int (S 5), .ref (q 6), .ref (q 7), .ref (q 8), .ref (q 9), .ref (q 10), .int (S 11), .ref (q 12)])), (q 6, .inr (1, [.int (D 0), .int (D 1), .int (D 2), .int (D 3), .ref (qh 4), .ref (qh 5), .ref (qh 6), .ref (qh 7), .ref (qh 8), .ref (qh 9), .ref (qh 10), .ref (qh 11), .ref (qh 12), .ref (qh 13)])), (qh 4, .inl (G.2 0, 8, .inl (F 4))), (qh 5, .inl (G.2 0, 8, .inl (F 5))), (qh 6, .inl (G.2 0, 8, .inl (F 6))), (qh 7, .inl (G.2 0, 8, .inl (F 7))), (qh 8, .inl (G.2 0, 8, .inl (F 8))), (qh 9, .inl (G.2 0, 5, .inl (F 9))), (qh 10, .inl (G.2 0, 5, .inl (F 10))), (qh 11, .inl (G.2 0, 5, .inl (F 11))), (qh 12, .inl (G.2 0, 5, .inl (F 12))), (qh 13, .inl (G.2 0, 5, .inl (F 13))), (q 8, .inr (0, [.ref (qa 0), .int (V 1), .int (V 2)]))] : va_W)) (w1 := (lzTp (q 4) qt (upd (upd U 2 (nI u_4.1.2)) 3 u_4.1.1) ++ (lzI G (qt 0) 120 tb ++ (lzDoor G (q 7) qs u_4.2.1 u_4.2.2)))) hP hD [1, 2, 14, 15, 16, 17, 18, 19, 20, 21, 22, 23, 24] [0, 3, 4, 5, 6, 7, 8, 9, 10, 11, 12, 13, 25] rfl rfl (by decide) (by decide) rfl hk1 hB
  replace hP := hP.sub (ws' := (lzX x q S ++ (lzTp (q 4) qt (upd (upd U 2 (nI u_4.1.2)) 3 u_4.1.1) ++ (lzI G (qt 0) 120 tb ++ (lzDoor G (q 6) qh D F ++ (lzDoor G (q 7) qs u_4.2.1 u_4.2.2 ++ (lzAc (q 8) qa V))))))) [0, 13, 14, 1, 2, 3, 4, 5, 6, 7, 8, 9, 10, 11, 15, 16, 17, 18, 19, 20, 21, 22, 23, 24, 25, 12] rfl
  replace hD := hD.sub (ws' := (lzX x q S ++ (lzTp (q 4) qt (upd (upd U 2 (nI u_4.1.2)) 3 u_4.1.1) ++ (lzI G (qt 0) 120 tb ++ (lzDoor G (q 6) qh D F ++ (lzDoor G (q 7) qs u_4.2.1 u_4.2.2 ++ (lzAc (q 8) qa V))))))) [0, 13, 14, 1, 2, 3, 4, 5, 6, 7, 8, 9, 10, 11, 15, 16, 17, 18, 19, 20, 21, 22, 23, 24, 25, 12] (by decide) rfl
  clear ht hvm hB hz1 hk1
  generalize H1 = H at hP hS ⊢
  have hr9 : r_3 = u_4.1.1 := by obtain ⟨J, W, h1, h2, h3, h4, h5⟩ := hr_3; exact h4
  have hd9 : drC tb L (clrF FS) u_4.1.1 u_4.1 u_4.2.1 u_4.2.2 := by rw [← hr9]; exact hr_3
  refine lv_istore_n (lv' := [(1, .int r_3), (0, .ref x)]) hx hb dX3_door_18 rfl hl (by decide) rfl (fun ls hl => ?_)
  refine lv_aload_n hx hb dX3_door_19 rfl (lv_at hl 1 rfl) ?_
  refine lz_get (G := G) (ci := 3) (v := .ref (q 4)) (C := RX3) (T := TX3) (N := 13) hx hb hu_wsX30 (fun _ h9 => h9) hown hK hP 0 rfl rfl 4 (by decide) hw2 rfl rfl dX3_door_20 ?_
  refine lv_iconst (v := 0) hx hb dX3_door_23 (by decide) ?_
  refine lz_put (G := G) (ci := 2) (C := RX2) (T := TX2) (N := 4) hx hb hu_wsX20 (fun _ h9 => h9) tyX2 tyX2_ok nmX2 hown hK hP hD hS 1 rfl rfl 1 (by decide) hw3 rfl rfl (by decide +kernel) (Nat.le_of_ble_eq_true rfl) dX3_door_24 (lzX x q S ++ (lzTp (q 4) qt (upd (upd (upd U 2 (nI u_4.1.2)) 3 u_4.1.1) 1 0) ++ (lzI G (qt 0) 120 tb ++ (lzDoor G (q 6) qh D F ++ (lzDoor G (q 7) qs u_4.2.1 u_4.2.2 ++ (lzAc (q 8) qa V)))))) rfl (fun H locs hP hD hS => ?_)
  refine lv_iload_n hx hb dX3_door_27 rfl (lv_at hl 0 rfl) ?_
  refine lv_if_eq (tgt := 47) hx hb dX3_door_28 (by decide) (fun c_28 => ?_) (fun c_28 => ?_)
  · skip
    refine lv_aload_n hx hb dX3_door_47 rfl (lv_at hl 1 rfl) ?_
    refine lz_get (G := G) (ci := 3) (v := .ref (q 6)) (C := RX3) (T := TX3) (N := 13) hx hb hu_wsX30 (fun _ h9 => h9) hown hK hP 0 rfl rfl 6 (by decide) hw7 rfl rfl dX3_door_48 ?_
    refine lv_aload_n hx hb dX3_door_51 rfl (lv_at hl 1 rfl) ?_
    refine lz_get (G := G) (ci := 3) (v := .ref (q 7)) (C := RX3) (T := TX3) (N := 13) hx hb hu_wsX30 (fun _ h9 => h9) hown hK hP 0 rfl rfl 7 (by decide) hw1 rfl rfl dX3_door_52 ?_
    have hPc := hP.sub (ws' := (lzDoor G (q 6) qh D F ++ lzDoor G (q 7) qs u_4.2.1 u_4.2.2)) [3, 4, 5, 6, 7, 8, 9, 10, 11, 12, 13, 14, 15, 16, 17, 18, 19, 20, 21, 22, 23, 24] rfl
    have hDc := hD.sub (ws' := (lzDoor G (q 6) qh D F ++ lzDoor G (q 7) qs u_4.2.1 u_4.2.2)) [3, 4, 5, 6, 7, 8, 9, 10, 11, 12, 13, 14, 15, 16, 17, 18, 19, 20, 21, 22, 23, 24] (by decide) rfl
    have hFc : ∀ zz : Nat, lzA (lzDoor G (q 6) qh D F ++ lzDoor G (q 7) qs u_4.2.1 u_4.2.2) zz → A zz := lz_free hD [3, 4, 5, 6, 7, 8, 9, 10, 11, 12, 13, 14, 15, 16, 17, 18, 19, 20, 21, 22, 23, 24] rfl
    refine va_callv (va_runV (As := [.ref (q 7)]) (rest := []) ⟨hx, hb, hml, hown, hts⟩ (c_X1_takeFrom l G (q 6) qh D F (q 7) qs u_4.2.1 u_4.2.2 ) (cwV 1 hts gX3_door_X1_takeFrom rfl rfl rfl (by decide +kernel) ⟨Nat.le_of_ble_eq_true rfl, Nat.le_of_ble_eq_true rfl⟩) (rw_preV hK hPc hDc hP (ci := 1) (q0 := 3) rfl rfl) rfl rfl hl.1 rfl (lv_room (Nat.le_of_ble_eq_true rfl)) dX3_door_55 ⟨Nat.zero_le _, Nat.zero_le _⟩) hS (fun q _ h => hFc q h) hFc (fun u_6 t9 H1 locs ht hvm hr_5 hB hz1 hk1 hS => ?_)
    replace hB : va_P G.1 lzC _ t9.heap := hB
    rw [ht] at hB
    obtain ⟨hP, hD⟩ := lz_join (wc := (lzDoor G (q 6) qh D F ++ lzDoor G (q 7) qs u_4.2.1 u_4.2.2)) (wr := ([(x, .inr (3, [.ref (q 0), .ref (q 1), .ref (q 2), .int (S 3), .ref (q 4), .int (S 5), .ref (q 6), .ref (q 7), .ref (q 8), .ref (q 9), .ref (q 10), .int (S 11), .ref (q 12)])), (q 4, .inr (2, [.ref (qt 0), .int 0, .int (nI u_4.1.2), .int u_4.1.1])), (qt 0, .inl (G.2 0, 120, .inl tb)), (q 8, .inr (0, [.ref (qa 0), .int (V 1), .int (V 2)]))] : va_W)) (w1 := (lzDoor G (q 6) qh (upd (upd (upd (upd D 0 (u_4.2.1 0)) 1 (u_4.2.1 1)) 2 (u_4.2.1 2)) 3 (u_4.2.1 3)) (lzF (lzF (lzF (lzF (lzF (lzF (lzF (lzF (lzF F 4 (va_cpy ((u_4.2.2 4)) ((F 4)) 0 0 8)) 5 (va_cpy ((u_4.2.2 5)) ((F 5)) 0 0 8)) 6 (va_cpy ((u_4.2.2 6)) ((F 6)) 0 0 8)) 7 (va_cpy ((u_4.2.2 7)) ((F 7)) 0 0 8)) 8 (va_cpy ((u_4.2.2 8)) ((F 8)) 0 0 8)) 9 (va_cpy ((u_4.2.2 9)) ((F 9)) 0 0 5)) 10 (va_cpy ((u_4.2.2 10)) ((F 10)) 0 0 5)) 11 (va_cpy ((u_4.2.2 11)) ((F 11)) 0 0 5)) 12 (va_cpy ((u_4.2.2 12)) ((F 12)) 0 0 5)) ++ lzDoor G (q 7) qs u_4.2.1 u_4.2.2)) hP hD [3, 4, 5, 6, 7, 8, 9, 10, 11, 12, 13, 14, 15, 16, 17, 18, 19, 20, 21, 22, 23, 24] [0, 1, 2, 25] rfl rfl (by decide) (by decide) rfl hk1 hB
    replace hP := hP.sub (ws' := (lzX x q S ++ (lzTp (q 4) qt (upd (upd (upd U 2 (nI u_4.1.2)) 3 u_4.1.1) 1 0) ++ (lzI G (qt 0) 120 tb ++ (lzDoor G (q 6) qh (upd (upd (upd (upd D 0 (u_4.2.1 0)) 1 (u_4.2.1 1)) 2 (u_4.2.1 2)) 3 (u_4.2.1 3)) (lzF (lzF (lzF (lzF (lzF (lzF (lzF (lzF (lzF F 4 (va_cpy ((u_4.2.2 4)) ((F 4)) 0 0 8)) 5 (va_cpy ((u_4.2.2 5)) ((F 5)) 0 0 8)) 6 (va_cpy ((u_4.2.2 6)) ((F 6)) 0 0 8)) 7 (va_cpy ((u_4.2.2 7)) ((F 7)) 0 0 8)) 8 (va_cpy ((u_4.2.2 8)) ((F 8)) 0 0 8)) 9 (va_cpy ((u_4.2.2 9)) ((F 9)) 0 0 5)) 10 (va_cpy ((u_4.2.2 10)) ((F 10)) 0 0 5)) 11 (va_cpy ((u_4.2.2 11)) ((F 11)) 0 0 5)) 12 (va_cpy ((u_4.2.2 12)) ((F 12)) 0 0 5)) ++ (lzDoor G (q 7) qs u_4.2.1 u_4.2.2 ++ (lzAc (q 8) qa V))))))) [0, 1, 2, 4, 5, 6, 7, 8, 9, 10, 11, 12, 13, 14, 15, 16, 17, 18, 19, 20, 21, 22, 23, 24, 25, 3] rfl
    replace hD := hD.sub (ws' := (lzX x q S ++ (lzTp (q 4) qt (upd (upd (upd U 2 (nI u_4.1.2)) 3 u_4.1.1) 1 0) ++ (lzI G (qt 0) 120 tb ++ (lzDoor G (q 6) qh (upd (upd (upd (upd D 0 (u_4.2.1 0)) 1 (u_4.2.1 1)) 2 (u_4.2.1 2)) 3 (u_4.2.1 3)) (lzF (lzF (lzF (lzF (lzF (lzF (lzF (lzF (lzF F 4 (va_cpy ((u_4.2.2 4)) ((F 4)) 0 0 8)) 5 (va_cpy ((u_4.2.2 5)) ((F 5)) 0 0 8)) 6 (va_cpy ((u_4.2.2 6)) ((F 6)) 0 0 8)) 7 (va_cpy ((u_4.2.2 7)) ((F 7)) 0 0 8)) 8 (va_cpy ((u_4.2.2 8)) ((F 8)) 0 0 8)) 9 (va_cpy ((u_4.2.2 9)) ((F 9)) 0 0 5)) 10 (va_cpy ((u_4.2.2 10)) ((F 10)) 0 0 5)) 11 (va_cpy ((u_4.2.2 11)) ((F 11)) 0 0 5)) 12 (va_cpy ((u_4.2.2 12)) ((F 12)) 0 0 5)) ++ (lzDoor G (q 7) qs u_4.2.1 u_4.2.2 ++ (lzAc (q 8) qa V))))))) [0, 1, 2, 4, 5, 6, 7, 8, 9, 10, 11, 12, 13, 14, 15, 16, 17, 18, 19, 20, 21, 22, 23, 24, 25, 3] (by decide) rfl
    clear ht hvm hB hz1 hk1
    generalize H1 = H at hP hS ⊢
    refine lv_aload_n hx hb dX3_door_58 rfl (lv_at hl 1 rfl) ?_
    refine lz_get (G := G) (ci := 3) (v := .ref (q 8)) (C := RX3) (T := TX3) (N := 13) hx hb hu_wsX30 (fun _ h9 => h9) hown hK hP 0 rfl rfl 8 (by decide) hw8 rfl rfl dX3_door_59 ?_
    have hPc := hP.sub (ws' := lzAc (q 8) qa V) [25] rfl
    have hDc := hD.sub (ws' := lzAc (q 8) qa V) [25] (by decide) rfl
    have hFc : ∀ zz : Nat, lzA (lzAc (q 8) qa V) zz → A zz := lz_free hD [25] rfl
    refine va_callv (va_runV (As := []) (rest := []) ⟨hx, hb, hml, hown, hts⟩ (c_X0_forgetAll l G (q 8) qa V ) (cwV 0 hts gX3_door_X0_forgetAll rfl rfl rfl (by decide +kernel) ⟨Nat.le_of_ble_eq_true rfl, Nat.le_of_ble_eq_true rfl⟩) (rw_preV hK hPc hDc hP (ci := 0) (q0 := 25) rfl rfl) rfl rfl hl.1 rfl (lv_room (Nat.le_of_ble_eq_true rfl)) dX3_door_62 ⟨Nat.zero_le _, Nat.zero_le _⟩) hS (fun q _ h => hFc q h) hFc (fun u_8 t9 H1 locs ht hvm hr_7 hB hz1 hk1 hS => ?_)
    replace hB : va_P G.1 lzC _ t9.heap := hB
    rw [ht] at hB
    obtain ⟨hP, hD⟩ := lz_join (wc := lzAc (q 8) qa V) (wr := ([(x, .inr (3, [.ref (q 0), .ref (q 1), .ref (q 2), .int (S 3), .ref (q 4), .int (S 5), .ref (q 6), .ref (q 7), .ref (q 8), .ref (q 9), .ref (q 10), .int (S 11), .ref (q 12)])), (q 4, .inr (2, [.ref (qt 0), .int 0, .int (nI u_4.1.2), .int u_4.1.1])), (qt 0, .inl (G.2 0, 120, .inl tb)), (q 6, .inr (1, [.int (u_4.2.1 0), .int (u_4.2.1 1), .int (u_4.2.1 2), .int (u_4.2.1 3), .ref (qh 4), .ref (qh 5), .ref (qh 6), .ref (qh 7), .ref (qh 8), .ref (qh 9), .ref (qh 10), .ref (qh 11), .ref (qh 12), .ref (qh 13)])), (qh 4, .inl (G.2 0, 8, .inl (va_cpy ((u_4.2.2 4)) ((F 4)) 0 0 8))), (qh 5, .inl (G.2 0, 8, .inl (va_cpy ((u_4.2.2 5)) ((F 5)) 0 0 8))), (qh 6, .inl (G.2 0, 8, .inl (va_cpy ((u_4.2.2 6)) ((F 6)) 0 0 8))), (qh 7, .inl (G.2 0, 8, .inl (va_cpy ((u_4.2.2 7)) ((F 7)) 0 0 8))), (qh 8, .inl (G.2 0, 8, .inl (va_cpy ((u_4.2.2 8)) ((F 8)) 0 0 8))), (qh 9, .inl (G.2 0, 5, .inl (va_cpy ((u_4.2.2 9)) ((F 9)) 0 0 5))), (qh 10, .inl (G.2 0, 5, .inl (va_cpy ((u_4.2.2 10)) ((F 10)) 0 0 5))), (qh 11, .inl (G.2 0, 5, .inl (va_cpy ((u_4.2.2 11)) ((F 11)) 0 0 5))), (qh 12, .inl (G.2 0, 5, .inl (va_cpy ((u_4.2.2 12)) ((F 12)) 0 0 5))), (qh 13, .inl (G.2 0, 5, .inl (F 13))), (q 7, .inr (1, [.int (u_4.2.1 0), .int (u_4.2.1 1), .int (u_4.2.1 2), .int (u_4.2.1 3), .ref (qs 4), .ref (qs 5), .ref (qs 6), .ref (qs 7), .ref (qs 8), .ref (qs 9), .ref (qs 10), .ref (qs 11), .ref (qs 12), .ref (qs 13)])), (qs 4, .inl (G.2 0, 8, .inl (u_4.2.2 4))), (qs 5, .inl (G.2 0, 8, .inl (u_4.2.2 5))), (qs 6, .inl (G.2 0, 8, .inl (u_4.2.2 6))), (qs 7, .inl (G.2 0, 8, .inl (u_4.2.2 7))), (qs 8, .inl (G.2 0, 8, .inl (u_4.2.2 8))), (qs 9, .inl (G.2 0, 5, .inl (u_4.2.2 9))), (qs 10, .inl (G.2 0, 5, .inl (u_4.2.2 10))), (qs 11, .inl (G.2 0, 5, .inl (u_4.2.2 11))), (qs 12, .inl (G.2 0, 5, .inl (u_4.2.2 12))), (qs 13, .inl (G.2 0, 5, .inl (u_4.2.2 13)))] : va_W)) (w1 := lzAc (q 8) qa (upd V 2 0)) hP hD [25] [0, 1, 2, 3, 4, 5, 6, 7, 8, 9, 10, 11, 12, 13, 14, 15, 16, 17, 18, 19, 20, 21, 22, 23, 24] rfl rfl (by decide) (by decide) rfl hk1 hB
    replace hP := hP.sub (ws' := (lzX x q S ++ (lzTp (q 4) qt (upd (upd (upd U 2 (nI u_4.1.2)) 3 u_4.1.1) 1 0) ++ (lzI G (qt 0) 120 tb ++ (lzDoor G (q 6) qh (upd (upd (upd (upd D 0 (u_4.2.1 0)) 1 (u_4.2.1 1)) 2 (u_4.2.1 2)) 3 (u_4.2.1 3)) (lzF (lzF (lzF (lzF (lzF (lzF (lzF (lzF (lzF F 4 (va_cpy ((u_4.2.2 4)) ((F 4)) 0 0 8)) 5 (va_cpy ((u_4.2.2 5)) ((F 5)) 0 0 8)) 6 (va_cpy ((u_4.2.2 6)) ((F 6)) 0 0 8)) 7 (va_cpy ((u_4.2.2 7)) ((F 7)) 0 0 8)) 8 (va_cpy ((u_4.2.2 8)) ((F 8)) 0 0 8)) 9 (va_cpy ((u_4.2.2 9)) ((F 9)) 0 0 5)) 10 (va_cpy ((u_4.2.2 10)) ((F 10)) 0 0 5)) 11 (va_cpy ((u_4.2.2 11)) ((F 11)) 0 0 5)) 12 (va_cpy ((u_4.2.2 12)) ((F 12)) 0 0 5)) ++ (lzDoor G (q 7) qs u_4.2.1 u_4.2.2 ++ (lzAc (q 8) qa (upd V 2 0)))))))) [0, 1, 2, 3, 4, 5, 6, 7, 8, 9, 10, 11, 12, 13, 14, 15, 16, 17, 18, 19, 20, 21, 22, 23, 24, 25] rfl
    replace hD := hD.sub (ws' := (lzX x q S ++ (lzTp (q 4) qt (upd (upd (upd U 2 (nI u_4.1.2)) 3 u_4.1.1) 1 0) ++ (lzI G (qt 0) 120 tb ++ (lzDoor G (q 6) qh (upd (upd (upd (upd D 0 (u_4.2.1 0)) 1 (u_4.2.1 1)) 2 (u_4.2.1 2)) 3 (u_4.2.1 3)) (lzF (lzF (lzF (lzF (lzF (lzF (lzF (lzF (lzF F 4 (va_cpy ((u_4.2.2 4)) ((F 4)) 0 0 8)) 5 (va_cpy ((u_4.2.2 5)) ((F 5)) 0 0 8)) 6 (va_cpy ((u_4.2.2 6)) ((F 6)) 0 0 8)) 7 (va_cpy ((u_4.2.2 7)) ((F 7)) 0 0 8)) 8 (va_cpy ((u_4.2.2 8)) ((F 8)) 0 0 8)) 9 (va_cpy ((u_4.2.2 9)) ((F 9)) 0 0 5)) 10 (va_cpy ((u_4.2.2 10)) ((F 10)) 0 0 5)) 11 (va_cpy ((u_4.2.2 11)) ((F 11)) 0 0 5)) 12 (va_cpy ((u_4.2.2 12)) ((F 12)) 0 0 5)) ++ (lzDoor G (q 7) qs u_4.2.1 u_4.2.2 ++ (lzAc (q 8) qa (upd V 2 0)))))))) [0, 1, 2, 3, 4, 5, 6, 7, 8, 9, 10, 11, 12, 13, 14, 15, 16, 17, 18, 19, 20, 21, 22, 23, 24, 25] (by decide) rfl
    clear ht hvm hB hz1 hk1
    generalize H1 = H at hP hS ⊢
    refine lv_aload_n hx hb dX3_door_65 rfl (lv_at hl 1 rfl) ?_
    refine lz_get (G := G) (ci := 3) (v := .ref (q 6)) (C := RX3) (T := TX3) (N := 13) hx hb hu_wsX30 (fun _ h9 => h9) hown hK hP 0 rfl rfl 6 (by decide) hw7 rfl rfl dX3_door_66 ?_
    refine lz_get (G := G) (ci := 1) (v := .int (u_4.2.1 2)) (C := RX1) (T := TX1) (N := 14) hx hb hu_wsX10 (fun _ h9 => h9) hown hK hP 3 rfl rfl 2 (by decide) hw9 rfl rfl dX3_door_69 ?_
    have h0 := c_28
    rw [hr9] at h0
    exact rw_iret (S := (Int32 × Nat) × ((Nat → Int32) × (Nat → Nat → Int32))) (G := G) (Wd := fun u9 : (Int32 × Nat) × ((Nat → Int32) × (Nat → Nat → Int32)) => (lzX x q (upd S 5 (if u9.1.1 = 0 then S 5 else u9.1.1)) ++ (lzTp (q 4) qt (upd (upd (upd U 2 (nI u9.1.2)) 3 u9.1.1) 1 0) ++ (lzI G (qt 0) 120 tb ++ (lzDoor G (q 6) qh (if u9.1.1 = 0 then tfS u9.2.1 D else D) (if u9.1.1 = 0 then tfF u9.2.2 F else F) ++ (lzDoor G (q 7) qs u9.2.1 u9.2.2 ++ (lzAc (q 8) qa (upd V 2 (if u9.1.1 = 0 then 0 else V 2))))))))) u_4 hx hb hr hlk dX3_door_72 hS (by show va_P G.1 lzC (lzX x q (upd S 5 (if u_4.1.1 = 0 then S 5 else u_4.1.1)) ++ (lzTp (q 4) qt (upd (upd (upd U 2 (nI u_4.1.2)) 3 u_4.1.1) 1 0) ++ (lzI G (qt 0) 120 tb ++ (lzDoor G (q 6) qh (if u_4.1.1 = 0 then tfS u_4.2.1 D else D) (if u_4.1.1 = 0 then tfF u_4.2.2 F else F) ++ (lzDoor G (q 7) qs u_4.2.1 u_4.2.2 ++ (lzAc (q 8) qa (upd V 2 (if u_4.1.1 = 0 then 0 else V 2)))))))) _; rw [if_pos h0, if_pos h0, if_pos h0, if_pos h0]; exact hP) (⟨hd9, (if_pos h0).symm⟩)
  · skip
    refine lv_aload_n hx hb dX3_door_31 rfl (lv_at hl 1 rfl) ?_
    refine lv_iload_n hx hb dX3_door_32 rfl (lv_at hl 0 rfl) ?_
    refine lz_put (G := G) (ci := 3) (C := RX3) (T := TX3) (N := 13) hx hb hu_wsX30 (fun _ h9 => h9) tyX3 tyX3_ok nmX3 hown hK hP hD hS 0 rfl rfl 5 (by decide) hw4 rfl rfl (by decide +kernel) (Nat.le_of_ble_eq_true rfl) dX3_door_33 (lzX x q (upd S 5 r_3) ++ (lzTp (q 4) qt (upd (upd (upd U 2 (nI u_4.1.2)) 3 u_4.1.1) 1 0) ++ (lzI G (qt 0) 120 tb ++ (lzDoor G (q 6) qh D F ++ (lzDoor G (q 7) qs u_4.2.1 u_4.2.2 ++ (lzAc (q 8) qa V)))))) rfl (fun H locs hP hD hS => ?_)
    refine lv_ldc hx hb hown hw5 dX3_door_36 ?_
    refine lv_aload_n hx hb dX3_door_38 rfl (lv_at hl 1 rfl) ?_
    refine lz_get (G := G) (ci := 3) (v := .ref (q 4)) (C := RX3) (T := TX3) (N := 13) hx hb hu_wsX30 (fun _ h9 => h9) hown hK hP 0 rfl rfl 4 (by decide) hw2 rfl rfl dX3_door_39 ?_
    refine lz_get (G := G) (ci := 2) (v := .int (nI u_4.1.2)) (C := RX2) (T := TX2) (N := 4) hx hb hu_wsX20 (fun _ h9 => h9) hown hK hP 1 rfl rfl 2 (by decide) hw6 rfl rfl dX3_door_42 ?_
    refine lv_isub hx hb dX3_door_45 ?_
    have h0 := c_28
    rw [hr9] at h0 hP
    exact rw_iret (S := (Int32 × Nat) × ((Nat → Int32) × (Nat → Nat → Int32))) (G := G) (Wd := fun u9 : (Int32 × Nat) × ((Nat → Int32) × (Nat → Nat → Int32)) => (lzX x q (upd S 5 (if u9.1.1 = 0 then S 5 else u9.1.1)) ++ (lzTp (q 4) qt (upd (upd (upd U 2 (nI u9.1.2)) 3 u9.1.1) 1 0) ++ (lzI G (qt 0) 120 tb ++ (lzDoor G (q 6) qh (if u9.1.1 = 0 then tfS u9.2.1 D else D) (if u9.1.1 = 0 then tfF u9.2.2 F else F) ++ (lzDoor G (q 7) qs u9.2.1 u9.2.2 ++ (lzAc (q 8) qa (upd V 2 (if u9.1.1 = 0 then 0 else V 2))))))))) u_4 hx hb hr hlk dX3_door_46 hS (by show va_P G.1 lzC (lzX x q (upd S 5 (if u_4.1.1 = 0 then S 5 else u_4.1.1)) ++ (lzTp (q 4) qt (upd (upd (upd U 2 (nI u_4.1.2)) 3 u_4.1.1) 1 0) ++ (lzI G (qt 0) 120 tb ++ (lzDoor G (q 6) qh (if u_4.1.1 = 0 then tfS u_4.2.1 D else D) (if u_4.1.1 = 0 then tfF u_4.2.2 F else F) ++ (lzDoor G (q 7) qs u_4.2.1 u_4.2.2 ++ (lzAc (q 8) qa (upd V 2 (if u_4.1.1 = 0 then 0 else V 2)))))))) _; rw [if_neg h0, if_neg h0, if_neg h0, if_neg h0]; exact hP) (⟨hd9, by rw [if_neg h0]⟩)
set_option maxHeartbeats 4000000 in
set_option maxRecDepth 100000 in
theorem c_X3_count (l : Launch) (G : lzG) (x : Nat) (q : Nat → Nat) (S ln : Nat → Int32) (qt : Nat → Nat) (U : Nat → Int32) (qh : Nat → Nat) (D : Nat → Int32) (F : Nat → Nat → Int32) (qa : Nat → Nat) (V : Nat → Int32) (what : Int32) (N : Nat) (hN : D 2 = nI N) (hN8 : N ≤ 8) : Met l yX3_count wsX3_count ({ frames := 3, cells := 0, slots := 0, locals := 64 }) (va_Pc [.ref x, .int what] (roP G (lzX x q S ++ (lzI G (q 2) 8 ln ++ (lzTp (q 4) qt U ++ (lzDoor G (q 6) qh D F ++ (lzAc (q 8) qa V))))))) (vp_Si (fun r => r = countC U V D ln F N what)) 0 0 (fun _ => False) := by
  refine ro_start (cc := cX3_count) (maxL := 2) (ret := (some .int)) (by decide) rfl (Nat.le_of_ble_eq_true rfl) ?_
  intro pp ee ss mm bl me cd hx hb hr hlk hml hts hown hP hK ls hl
  have hown : ss.vm.findClass RX3 = some mm.cls := hown
  have hw1 := hts (.fieldLink RX3 38 "LampSquares" "here" "LLampSquares$Door;") (List.mem_of_getElem? (i := 1) rfl)
  have hw2 := hts (.fieldLink RX3 131 "LampSquares$Door" "squares" "I") (List.mem_of_getElem? (i := 2) rfl)
  have hw3 := hts (.fieldLink RX3 246 "LampSquares$Door" "visitors" "I") (List.mem_of_getElem? (i := 3) rfl)
  have hw4 := hts (.fieldLink RX3 158 "LampSquares$Door" "strict" "I") (List.mem_of_getElem? (i := 4) rfl)
  have hw5 := hts (.fieldLink RX3 48 "LampSquares" "acts" "LLampSquares$Acts;") (List.mem_of_getElem? (i := 5) rfl)
  have hw6 := hts (.fieldLink RX3 134 "LampSquares$Acts" "kept" "I") (List.mem_of_getElem? (i := 6) rfl)
  have hw7 := hts (.fieldLink RX3 28 "LampSquares" "tape" "LLampSquares$Tape;") (List.mem_of_getElem? (i := 7) rfl)
  have hw8 := hts (.fieldLink RX3 109 "LampSquares$Tape" "length" "I") (List.mem_of_getElem? (i := 8) rfl)
  have hw9 := hts (.constant RX3 81 (-1000001)) (List.mem_of_getElem? (i := 9) rfl)
  have hu_wsX00 : ∀ w ∈ wsX00, w.before ([.ref x, .int what] : List Value).toArray ss = true := fun w h9 => hts w (List.mem_cons_of_mem _ (List.mem_append_left _ (List.mem_append_right _ h9)))
  have hu_wsX10 : ∀ w ∈ wsX10, w.before ([.ref x, .int what] : List Value).toArray ss = true := fun w h9 => hts w (List.mem_cons_of_mem _ (List.mem_append_left _ (List.mem_append_left _ (List.mem_append_right _ h9))))
  have hu_wsX20 : ∀ w ∈ wsX20, w.before ([.ref x, .int what] : List Value).toArray ss = true := fun w h9 => hts w (List.mem_cons_of_mem _ (List.mem_append_right _ h9))
  have hu_wsX30 : ∀ w ∈ wsX30, w.before ([.ref x, .int what] : List Value).toArray ss = true := fun w h9 => hts w (List.mem_cons_of_mem _ (List.mem_append_left _ (List.mem_append_left _ (List.mem_append_left _ (List.mem_append_right _ h9)))))
  have hl : lv_has ls 2 [(0, .ref x), (1, .int what)] := hl
  refine lv_iload_n hx hb dX3_count_0 rfl (lv_at hl 1 rfl) ?_
  by_cases v_1_0 : what = 0
  · refine lv_tableIn (off := 47) (tgt := 48) hx hb dX3_count_1 (by rw [v_1_0]; decide) (by rw [v_1_0]; decide) (by rw [v_1_0]; rfl) (by decide) ?_
    refine lv_aload_n hx hb dX3_count_48 rfl (lv_at hl 0 rfl) ?_
    have hPc := hP.sub (ws' := (lzX x q S ++ lzI G (q 2) 8 ln)) [0, 1] rfl
    refine ro_calli (va_runV (As := []) (rest := []) ⟨hx, hb, hml, hown, hts⟩ (c_X3_rowsThere l G x q S ln ) (cwV 0 hts gX3_count_X3_rowsThere rfl rfl rfl (by decide +kernel) ⟨Nat.le_of_ble_eq_true rfl, Nat.le_of_ble_eq_true rfl⟩) (ro_preV hK hPc hP (ci := 3) (q0 := 0) rfl rfl) rfl rfl hl.1 rfl (lv_room (Nat.le_of_ble_eq_true rfl)) dX3_count_49 ⟨Nat.zero_le _, Nat.zero_le _⟩) (fun r_1 hr_1 => ?_)
    refine lz_top (y := cntI (fun z => !decide (ln z = -1000000)) 8) hr_1 ?_
    exact ro_iret hx hb hr hlk dX3_count_52 (by simp [countC, v_1_0])
  by_cases v_1_1 : what = 1
  · refine lv_tableIn (off := 52) (tgt := 53) hx hb dX3_count_1 (by rw [v_1_1]; decide) (by rw [v_1_1]; decide) (by rw [v_1_1]; rfl) (by decide) ?_
    refine lv_aload_n hx hb dX3_count_53 rfl (lv_at hl 0 rfl) ?_
    refine lz_get (G := G) (ci := 3) (v := .ref (q 6)) (C := RX3) (T := TX3) (N := 13) hx hb hu_wsX30 (fun _ h9 => h9) hown hK hP 0 rfl rfl 6 (by decide) hw1 rfl rfl dX3_count_54 ?_
    refine lz_get (G := G) (ci := 1) (v := .int (D 2)) (C := RX1) (T := TX1) (N := 14) hx hb hu_wsX10 (fun _ h9 => h9) hown hK hP 3 rfl rfl 2 (by decide) hw2 rfl rfl dX3_count_57 ?_
    exact ro_iret hx hb hr hlk dX3_count_60 (by simp [countC, v_1_1])
  by_cases v_1_2 : what = 2
  · refine lv_tableIn (off := 60) (tgt := 61) hx hb dX3_count_1 (by rw [v_1_2]; decide) (by rw [v_1_2]; decide) (by rw [v_1_2]; rfl) (by decide) ?_
    refine lv_aload_n hx hb dX3_count_61 rfl (lv_at hl 0 rfl) ?_
    refine lz_get (G := G) (ci := 3) (v := .ref (q 6)) (C := RX3) (T := TX3) (N := 13) hx hb hu_wsX30 (fun _ h9 => h9) hown hK hP 0 rfl rfl 6 (by decide) hw1 rfl rfl dX3_count_62 ?_
    refine lz_get (G := G) (ci := 1) (v := .int (D 3)) (C := RX1) (T := TX1) (N := 14) hx hb hu_wsX10 (fun _ h9 => h9) hown hK hP 3 rfl rfl 3 (by decide) hw3 rfl rfl dX3_count_65 ?_
    exact ro_iret hx hb hr hlk dX3_count_68 (by simp [countC, v_1_2])
  by_cases v_1_3 : what = 3
  · refine lv_tableIn (off := 68) (tgt := 69) hx hb dX3_count_1 (by rw [v_1_3]; decide) (by rw [v_1_3]; decide) (by rw [v_1_3]; rfl) (by decide) ?_
    refine lv_aload_n hx hb dX3_count_69 rfl (lv_at hl 0 rfl) ?_
    refine lz_get (G := G) (ci := 3) (v := .ref (q 6)) (C := RX3) (T := TX3) (N := 13) hx hb hu_wsX30 (fun _ h9 => h9) hown hK hP 0 rfl rfl 6 (by decide) hw1 rfl rfl dX3_count_70 ?_
    refine lz_get (G := G) (ci := 1) (v := .int (D 1)) (C := RX1) (T := TX1) (N := 14) hx hb hu_wsX10 (fun _ h9 => h9) hown hK hP 3 rfl rfl 1 (by decide) hw4 rfl rfl dX3_count_73 ?_
    exact ro_iret hx hb hr hlk dX3_count_76 (by simp [countC, v_1_3])
  by_cases v_1_4 : what = 4
  · refine lv_tableIn (off := 76) (tgt := 77) hx hb dX3_count_1 (by rw [v_1_4]; decide) (by rw [v_1_4]; decide) (by rw [v_1_4]; rfl) (by decide) ?_
    refine lv_aload_n hx hb dX3_count_77 rfl (lv_at hl 0 rfl) ?_
    refine lz_get (G := G) (ci := 3) (v := .ref (q 6)) (C := RX3) (T := TX3) (N := 13) hx hb hu_wsX30 (fun _ h9 => h9) hown hK hP 0 rfl rfl 6 (by decide) hw1 rfl rfl dX3_count_78 ?_
    have hPc := hP.sub (ws' := lzDoor G (q 6) qh D F) [3, 4, 5, 6, 7, 8, 9, 10, 11, 12, 13] rfl
    refine ro_calli (va_runV (As := []) (rest := []) ⟨hx, hb, hml, hown, hts⟩ (c_X1_countedBits l G (q 6) qh D F N (hN) (hN8)) (cwV 0 hts gX3_count_X1_countedBits rfl rfl rfl (by decide +kernel) ⟨Nat.le_of_ble_eq_true rfl, Nat.le_of_ble_eq_true rfl⟩) (ro_preV hK hPc hP (ci := 1) (q0 := 3) rfl rfl) rfl rfl hl.1 rfl (lv_room (Nat.le_of_ble_eq_true rfl)) dX3_count_81 ⟨Nat.zero_le _, Nat.zero_le _⟩) (fun r_2 hr_2 => ?_)
    refine lz_top (y := bitsI (cntD F) N) hr_2 ?_
    exact ro_iret hx hb hr hlk dX3_count_84 (by simp [countC, v_1_4])
  by_cases v_1_5 : what = 5
  · refine lv_tableIn (off := 84) (tgt := 85) hx hb dX3_count_1 (by rw [v_1_5]; decide) (by rw [v_1_5]; decide) (by rw [v_1_5]; rfl) (by decide) ?_
    refine lv_aload_n hx hb dX3_count_85 rfl (lv_at hl 0 rfl) ?_
    refine lz_get (G := G) (ci := 3) (v := .ref (q 6)) (C := RX3) (T := TX3) (N := 13) hx hb hu_wsX30 (fun _ h9 => h9) hown hK hP 0 rfl rfl 6 (by decide) hw1 rfl rfl dX3_count_86 ?_
    have hPc := hP.sub (ws' := lzDoor G (q 6) qh D F) [3, 4, 5, 6, 7, 8, 9, 10, 11, 12, 13] rfl
    refine ro_calli (va_runV (As := []) (rest := []) ⟨hx, hb, hml, hown, hts⟩ (c_X1_allVotes l G (q 6) qh D F N (hN) (hN8)) (cwV 0 hts gX3_count_X1_allVotes rfl rfl rfl (by decide +kernel) ⟨Nat.le_of_ble_eq_true rfl, Nat.le_of_ble_eq_true rfl⟩) (ro_preV hK hPc hP (ci := 1) (q0 := 3) rfl rfl) rfl rfl hl.1 rfl (lv_room (Nat.le_of_ble_eq_true rfl)) dX3_count_89 ⟨Nat.zero_le _, Nat.zero_le _⟩) (fun r_3 hr_3 => ?_)
    refine lz_top (y := sumI (fun s => (F 6) s + (F 7) s) N) hr_3 ?_
    exact ro_iret hx hb hr hlk dX3_count_92 (by simp [countC, v_1_5])
  by_cases v_1_6 : what = 6
  · refine lv_tableIn (off := 92) (tgt := 93) hx hb dX3_count_1 (by rw [v_1_6]; decide) (by rw [v_1_6]; decide) (by rw [v_1_6]; rfl) (by decide) ?_
    refine lv_aload_n hx hb dX3_count_93 rfl (lv_at hl 0 rfl) ?_
    refine lz_get (G := G) (ci := 3) (v := .ref (q 8)) (C := RX3) (T := TX3) (N := 13) hx hb hu_wsX30 (fun _ h9 => h9) hown hK hP 0 rfl rfl 8 (by decide) hw5 rfl rfl dX3_count_94 ?_
    refine lz_get (G := G) (ci := 0) (v := .int (V 2)) (C := RX0) (T := TX0) (N := 3) hx hb hu_wsX00 (fun _ h9 => h9) hown hK hP 14 rfl rfl 2 (by decide) hw6 rfl rfl dX3_count_97 ?_
    exact ro_iret hx hb hr hlk dX3_count_100 (by simp [countC, v_1_6])
  by_cases v_1_7 : what = 7
  · refine lv_tableIn (off := 100) (tgt := 101) hx hb dX3_count_1 (by rw [v_1_7]; decide) (by rw [v_1_7]; decide) (by rw [v_1_7]; rfl) (by decide) ?_
    refine lv_aload_n hx hb dX3_count_101 rfl (lv_at hl 0 rfl) ?_
    refine lz_get (G := G) (ci := 3) (v := .ref (q 4)) (C := RX3) (T := TX3) (N := 13) hx hb hu_wsX30 (fun _ h9 => h9) hown hK hP 0 rfl rfl 4 (by decide) hw7 rfl rfl dX3_count_102 ?_
    refine lz_get (G := G) (ci := 2) (v := .int (U 1)) (C := RX2) (T := TX2) (N := 4) hx hb hu_wsX20 (fun _ h9 => h9) hown hK hP 2 rfl rfl 1 (by decide) hw8 rfl rfl dX3_count_105 ?_
    exact ro_iret hx hb hr hlk dX3_count_108 (by simp [countC, v_1_7])
  have v_1_0T : ¬ Int32.toInt what = 0 := lv_neT v_1_0 rfl
  have v_1_1T : ¬ Int32.toInt what = 1 := lv_neT v_1_1 rfl
  have v_1_2T : ¬ Int32.toInt what = 2 := lv_neT v_1_2 rfl
  have v_1_3T : ¬ Int32.toInt what = 3 := lv_neT v_1_3 rfl
  have v_1_4T : ¬ Int32.toInt what = 4 := lv_neT v_1_4 rfl
  have v_1_5T : ¬ Int32.toInt what = 5 := lv_neT v_1_5 rfl
  have v_1_6T : ¬ Int32.toInt what = 6 := lv_neT v_1_6 rfl
  have v_1_7T : ¬ Int32.toInt what = 7 := lv_neT v_1_7 rfl
  refine lv_tableOut (tgt := 109) hx hb dX3_count_1 (by omega) (by decide) ?_
  refine lv_ldc hx hb hown hw9 dX3_count_109 ?_
  exact ro_iret hx hb hr hlk dX3_count_111 (by simp [countC, v_1_0, v_1_1, v_1_2, v_1_3, v_1_4, v_1_5, v_1_6, v_1_7])
set_option maxHeartbeats 4000000 in
set_option maxRecDepth 100000 in
theorem c_X3_ask_bad (l : Launch) (G : lzG) (x : Nat) (q : Nat → Nat) (S : Nat → Int32) (qh : Nat → Nat) (D : Nat → Int32) (F : Nat → Nat → Int32) (a what : Int32) (hbad : (inR a 0 (D 2 - 1) && inR what 0 1) = false) : Met l yX3_ask wsX3_ask ({ frames := 2, cells := 0, slots := 0, locals := 43 }) (va_Pc [.ref x, .int a, .int what] (roP G (lzX x q S ++ lzDoor G (q 6) qh D F))) (vp_Si (fun r => r = -1000001)) 0 0 (fun _ => False) := by
  refine ro_start (cc := cX3_ask) (maxL := 3) (ret := (some .int)) (by decide) rfl (Nat.le_of_ble_eq_true rfl) ?_
  intro pp ee ss mm bl me cd hx hb hr hlk hml hts hown hP hK ls hl
  have hown : ss.vm.findClass RX3 = some mm.cls := hown
  have hw1 := hts (.fieldLink RX3 38 "LampSquares" "here" "LLampSquares$Door;") (List.mem_of_getElem? (i := 1) rfl)
  have hw2 := hts (.constant RX3 81 (-1000001)) (List.mem_of_getElem? (i := 2) rfl)
  have hu_wsX30 : ∀ w ∈ wsX30, w.before ([.ref x, .int a, .int what] : List Value).toArray ss = true := fun w h9 => hts w (List.mem_cons_of_mem _ (List.mem_append_left _ (List.mem_append_right _ h9)))
  have hl : lv_has ls 3 [(0, .ref x), (1, .int a), (2, .int what)] := hl
  refine lv_aload_n hx hb dX3_ask_0 rfl (lv_at hl 0 rfl) ?_
  refine lz_get (G := G) (ci := 3) (v := .ref (q 6)) (C := RX3) (T := TX3) (N := 13) hx hb hu_wsX30 (fun _ h9 => h9) hown hK hP 0 rfl rfl 6 (by decide) hw1 rfl rfl dX3_ask_1 ?_
  refine lv_iload_n hx hb dX3_ask_4 rfl (lv_at hl 1 rfl) ?_
  have hPc := hP.sub (ws' := lzDoor G (q 6) qh D F) [1, 2, 3, 4, 5, 6, 7, 8, 9, 10, 11] rfl
  refine ro_calli (va_runV (As := [.int a]) (rest := []) ⟨hx, hb, hml, hown, hts⟩ (c_X1_isSquare l G (q 6) qh D F a ) (cwV 1 hts gX3_ask_X1_isSquare rfl rfl rfl (by decide +kernel) ⟨Nat.le_of_ble_eq_true rfl, Nat.le_of_ble_eq_true rfl⟩) (ro_preV hK hPc hP (ci := 1) (q0 := 1) rfl rfl) rfl rfl hl.1 rfl (lv_room (Nat.le_of_ble_eq_true rfl)) dX3_ask_5 ⟨Nat.zero_le _, Nat.zero_le _⟩) (fun r_1 hr_1 => ?_)
  refine lv_if_eq (tgt := 20) hx hb dX3_ask_8 (by decide) (fun c_8 => ?_) (fun c_8 => ?_)
  · skip
    have c_8 := b2_z hr_1 c_8
    refine lv_ldc hx hb hown hw2 dX3_ask_20 ?_
    exact ro_iret hx hb hr hlk dX3_ask_22 (rfl)
  · skip
    have c_8 := b2_n hr_1 c_8
    refine lv_iload_n hx hb dX3_ask_11 rfl (lv_at hl 2 rfl) ?_
    refine lv_iconst (v := 0) hx hb dX3_ask_12 (by decide) ?_
    refine lv_iconst (v := 1) hx hb dX3_ask_13 (by decide) ?_
    refine ro_calli (va_runS (As := [.int what, .int 0, .int 1]) (rest := []) ⟨hx, hb, hml, hown, hts⟩ (c_X3_isIn l G what 0 1 ) (cwS 3 hts gX3_ask_X3_isIn rfl rfl rfl (by decide +kernel) ⟨Nat.le_of_ble_eq_true rfl, Nat.le_of_ble_eq_true rfl⟩) (ro_pre hK (fun k q h => by simp at h)) rfl rfl hl.1 rfl (lv_room (Nat.le_of_ble_eq_true rfl)) dX3_ask_14 ⟨Nat.zero_le _, Nat.zero_le _⟩) (fun r_2 hr_2 => ?_)
    refine lv_if_ne (tgt := 23) hx hb dX3_ask_17 (by decide) (fun c_17 => ?_) (fun c_17 => ?_)
    · skip
      have c_17 := b2_n hr_2 c_17
      exact Bool.noConfusion (hbad.symm.trans (by rw [c_8, c_17] <;> rfl))
    · skip
      have c_17 := b2_z hr_2 c_17
      refine lv_ldc hx hb hown hw2 dX3_ask_20 ?_
      exact ro_iret hx hb hr hlk dX3_ask_22 (rfl)
set_option maxHeartbeats 4000000 in
set_option maxRecDepth 100000 in
theorem c_X3_ask_ksize (l : Launch) (G : lzG) (x : Nat) (q : Nat → Nat) (S : Nat → Int32) (t : Nat → Int32) (qh : Nat → Nat) (D : Nat → Int32) (F : Nat → Nat → Int32) (s N M : Nat) (what : Int32) (hN : D 2 = nI N) (hN8 : N ≤ 8) (hM : D 3 = nI M) (hM5 : M ≤ 5) (hs : s < N) (hw : inR what 0 1 = true) (hkn : ofK (F 4 s) 1 = true) (hw0 : what = 0) : Met l yX3_ask wsX3_ask ({ frames := 6, cells := 0, slots := 0, locals := 139 }) (va_Pc [.ref x, .int (nI s), .int what] (rwP G (lzX x q S ++ (lzI G (q 10) 16 t ++ (lzDoor G (q 6) qh D F))))) (va_Qi (S := Unit) (fun (r : Int32) (_ : Unit) => r = ksV (F 4 s) (F 5 s) (kmV (F 4 s) (nI s + (sumI (fun v => bitsI (clkD F v) N >>> (nI s &&& 31) &&& 1) M)))) (rwB G (fun _ : Unit => (lzX x q (upd S 11 (nI (0 + (ksL (F 4 s)).length))) ++ (lzI G (q 10) 16 (trL t 0 (ksL (F 4 s))) ++ (lzDoor G (q 6) qh D F))))) (lzA (lzX x q S ++ (lzI G (q 10) 16 t ++ (lzDoor G (q 6) qh D F))))) 0 0 (lzA (lzX x q S ++ (lzI G (q 10) 16 t ++ (lzDoor G (q 6) qh D F)))) := by
  have hB : inR (nI s) 0 (D 2 - 1) = true := inR_ok hN hs (by omega)
  refine rw_start (S := Unit) (cc := cX3_ask) (maxL := 3) (ret := (some .int)) (by decide) rfl (Nat.le_of_ble_eq_true rfl) ?_
  intro pp ee ss mm bl me cd A hx hb hr hlk hml hts hown hP hK hD hAe hS ls hl
  have hA0 : ∀ zz : Nat, lzA (lzX x q S ++ (lzI G (q 10) 16 t ++ (lzDoor G (q 6) qh D F))) zz → A zz := fun zz h9 => by rw [hAe]; exact h9
  rw [← hAe]
  clear hAe
  have hown : ss.vm.findClass RX3 = some mm.cls := hown
  have hw1 := hts (.fieldLink RX3 38 "LampSquares" "here" "LLampSquares$Door;") (List.mem_of_getElem? (i := 1) rfl)
  have hw3 := hts (.fieldLink RX3 59 "LampSquares" "tracedCount" "I") (List.mem_of_getElem? (i := 3) rfl)
  have hw4 := hts (.fieldLink RX3 197 "LampSquares$Door" "kindOf" "[I") (List.mem_of_getElem? (i := 4) rfl)
  have hu_wsX10 : ∀ w ∈ wsX10, w.before ([.ref x, .int (nI s), .int what] : List Value).toArray ss = true := fun w h9 => hts w (List.mem_cons_of_mem _ (List.mem_append_right _ h9))
  have hu_wsX30 : ∀ w ∈ wsX30, w.before ([.ref x, .int (nI s), .int what] : List Value).toArray ss = true := fun w h9 => hts w (List.mem_cons_of_mem _ (List.mem_append_left _ (List.mem_append_right _ h9)))
  have hl : lv_has ls 3 [(0, .ref x), (1, .int (nI s)), (2, .int what)] := hl
  refine lv_aload_n hx hb dX3_ask_0 rfl (lv_at hl 0 rfl) ?_
  refine lz_get (G := G) (ci := 3) (v := .ref (q 6)) (C := RX3) (T := TX3) (N := 13) hx hb hu_wsX30 (fun _ h9 => h9) hown hK hP 0 rfl rfl 6 (by decide) hw1 rfl rfl dX3_ask_1 ?_
  refine lv_iload_n hx hb dX3_ask_4 rfl (lv_at hl 1 rfl) ?_
  have hPc := hP.sub (ws' := lzDoor G (q 6) qh D F) [2, 3, 4, 5, 6, 7, 8, 9, 10, 11, 12] rfl
  refine ro_calli (va_runV (As := [.int (nI s)]) (rest := []) ⟨hx, hb, hml, hown, hts⟩ (c_X1_isSquare l G (q 6) qh D F (nI s) ) (cwV 1 hts gX3_ask_X1_isSquare rfl rfl rfl (by decide +kernel) ⟨Nat.le_of_ble_eq_true rfl, Nat.le_of_ble_eq_true rfl⟩) (ro_preV hK hPc hP (ci := 1) (q0 := 2) rfl rfl) rfl rfl hl.1 rfl (lv_room (Nat.le_of_ble_eq_true rfl)) dX3_ask_5 ⟨Nat.zero_le _, Nat.zero_le _⟩) (fun r_1 hr_1 => ?_)
  refine lv_if_eq (tgt := 20) hx hb dX3_ask_8 (by decide) (fun c_8 => ?_) (fun c_8 => ?_)
  · skip
    have c_8 := b2_z hr_1 c_8
    exact Bool.noConfusion (hB.symm.trans c_8)
  · skip
    have c_8 := b2_n hr_1 c_8
    refine lv_iload_n hx hb dX3_ask_11 rfl (lv_at hl 2 rfl) ?_
    refine lv_iconst (v := 0) hx hb dX3_ask_12 (by decide) ?_
    refine lv_iconst (v := 1) hx hb dX3_ask_13 (by decide) ?_
    refine ro_calli (va_runS (As := [.int what, .int 0, .int 1]) (rest := []) ⟨hx, hb, hml, hown, hts⟩ (c_X3_isIn l G what 0 1 ) (cwS 3 hts gX3_ask_X3_isIn rfl rfl rfl (by decide +kernel) ⟨Nat.le_of_ble_eq_true rfl, Nat.le_of_ble_eq_true rfl⟩) (ro_pre hK (fun k q h => by simp at h)) rfl rfl hl.1 rfl (lv_room (Nat.le_of_ble_eq_true rfl)) dX3_ask_14 ⟨Nat.zero_le _, Nat.zero_le _⟩) (fun r_2 hr_2 => ?_)
    refine lv_if_ne (tgt := 23) hx hb dX3_ask_17 (by decide) (fun c_17 => ?_) (fun c_17 => ?_)
    · skip
      have c_17 := b2_n hr_2 c_17
      refine lv_aload_n hx hb dX3_ask_23 rfl (lv_at hl 0 rfl) ?_
      refine lv_iconst (v := 0) hx hb dX3_ask_24 (by decide) ?_
      refine lz_put (G := G) (ci := 3) (C := RX3) (T := TX3) (N := 13) hx hb hu_wsX30 (fun _ h9 => h9) tyX3 tyX3_ok nmX3 hown hK hP hD hS 0 rfl rfl 11 (by decide) hw3 rfl rfl (by decide +kernel) (Nat.le_of_ble_eq_true rfl) dX3_ask_25 (lzX x q (upd S 11 0) ++ (lzI G (q 10) 16 t ++ (lzDoor G (q 6) qh D F))) rfl (fun H locs hP hD hS => ?_)
      refine lv_aload_n hx hb dX3_ask_28 rfl (lv_at hl 0 rfl) ?_
      refine lz_get (G := G) (ci := 3) (v := .ref (q 6)) (C := RX3) (T := TX3) (N := 13) hx hb hu_wsX30 (fun _ h9 => h9) hown hK hP 0 rfl rfl 6 (by decide) hw1 rfl rfl dX3_ask_29 ?_
      refine lz_get (G := G) (ci := 1) (v := .ref (qh 4)) (C := RX1) (T := TX1) (N := 14) hx hb hu_wsX10 (fun _ h9 => h9) hown hK hP 2 rfl rfl 4 (by decide) hw4 rfl rfl dX3_ask_32 ?_
      refine lv_iload_n hx hb dX3_ask_35 rfl (lv_at hl 1 rfl) ?_
      refine lz_iald (f := F 4) hx hb hK hP 3 rfl s (by omega) (Nat.le_of_ble_eq_true rfl) dX3_ask_36 ?_
      refine lv_iconst (v := 1) hx hb dX3_ask_37 (by decide) ?_
      refine ro_calli (va_runS (As := [.int ((F 4) s), .int 1]) (rest := []) ⟨hx, hb, hml, hown, hts⟩ (c_X3_isOfKind l G ((F 4) s) 1 ) (cwS 2 hts gX3_ask_X3_isOfKind rfl rfl rfl (by decide +kernel) ⟨Nat.le_of_ble_eq_true rfl, Nat.le_of_ble_eq_true rfl⟩) (ro_pre hK (fun k q h => by simp at h)) rfl rfl hl.1 rfl (lv_room (Nat.le_of_ble_eq_true rfl)) dX3_ask_38 ⟨Nat.zero_le _, Nat.zero_le _⟩) (fun r_3 hr_3 => ?_)
      refine lv_if_eq (tgt := 62) hx hb dX3_ask_41 (by decide) (fun c_41 => ?_) (fun c_41 => ?_)
      · skip
        have c_41 := b2_z hr_3 c_41
        exact Bool.noConfusion (hkn.symm.trans c_41)
      · skip
        have c_41 := b2_n hr_3 c_41
        refine lv_iload_n hx hb dX3_ask_44 rfl (lv_at hl 2 rfl) ?_
        refine lv_if_ne (tgt := 56) hx hb dX3_ask_45 (by decide) (fun c_45 => ?_) (fun c_45 => ?_)
        · skip
          exact absurd hw0 c_45
        · skip
          refine lv_aload_n hx hb dX3_ask_48 rfl (lv_at hl 0 rfl) ?_
          refine lv_iload_n hx hb dX3_ask_49 rfl (lv_at hl 1 rfl) ?_
          have hFc : ∀ zz : Nat, lzA (lzX x q (upd S 11 0) ++ (lzI G (q 10) 16 t ++ (lzDoor G (q 6) qh D F))) zz → A zz := lz_free hD [0, 1, 2, 3, 4, 5, 6, 7, 8, 9, 10, 11, 12] rfl
          refine va_calli (va_runV (As := [.int (nI s)]) (rest := []) ⟨hx, hb, hml, hown, hts⟩ (c_X3_knownSize l G x q (upd S 11 0) t qh D F s N M 0 (by omega) (hN) (hN8) (hM) (hM5) (rfl) (by omega)) (cwV 1 hts gX3_ask_X3_knownSize rfl rfl rfl (by decide +kernel) ⟨Nat.le_of_ble_eq_true rfl, Nat.le_of_ble_eq_true rfl⟩) (rw_preV hK hP hD hP (ci := 3) (q0 := 0) rfl rfl) rfl rfl hl.1 rfl (lv_room (Nat.le_of_ble_eq_true rfl)) dX3_ask_50 ⟨Nat.zero_le _, Nat.zero_le _⟩) hS (fun q _ h => hFc q h) hFc (fun r_4 u_5 t9 H1 locs ht hvm hr_4 hB hz1 hk1 hS => ?_)
          replace hB : va_P G.1 lzC _ t9.heap := hB
          rw [ht] at hB
          obtain ⟨hP, hD⟩ := lz_join (wc := (lzX x q (upd S 11 0) ++ (lzI G (q 10) 16 t ++ (lzDoor G (q 6) qh D F)))) (wr := ([] : va_W)) (w1 := (lzX x q (upd S 11 (nI (0 + (ksL ((F 4) s)).length))) ++ (lzI G (q 10) 16 (trL t 0 (ksL ((F 4) s))) ++ (lzDoor G (q 6) qh D F)))) hP hD [0, 1, 2, 3, 4, 5, 6, 7, 8, 9, 10, 11, 12] [] rfl rfl (by decide) (by decide) rfl hk1 hB
          replace hP := hP.sub (ws' := (lzX x q (upd S 11 (nI (0 + (ksL ((F 4) s)).length))) ++ (lzI G (q 10) 16 (trL t 0 (ksL ((F 4) s))) ++ (lzDoor G (q 6) qh D F)))) [0, 1, 2, 3, 4, 5, 6, 7, 8, 9, 10, 11, 12] rfl
          replace hD := hD.sub (ws' := (lzX x q (upd S 11 (nI (0 + (ksL ((F 4) s)).length))) ++ (lzI G (q 10) 16 (trL t 0 (ksL ((F 4) s))) ++ (lzDoor G (q 6) qh D F)))) [0, 1, 2, 3, 4, 5, 6, 7, 8, 9, 10, 11, 12] (by decide) rfl
          clear ht hvm hB hz1 hk1
          generalize H1 = H at hP hS ⊢
          refine lz_top (y := ksV ((F 4) s) ((F 5) s) (kmV ((F 4) s) (nI s + (sumI (fun v => bitsI (clkD F v) N >>> (nI s &&& 31) &&& 1) M)))) hr_4 ?_
          refine lv_goto (tgt := 61) hx hb dX3_ask_53 (by decide) ?_
          exact rw_iret (S := Unit) (G := G) (Wd := fun _ : Unit => (lzX x q (upd S 11 (nI (0 + (ksL (F 4 s)).length))) ++ (lzI G (q 10) 16 (trL t 0 (ksL (F 4 s))) ++ (lzDoor G (q 6) qh D F)))) () hx hb hr hlk dX3_ask_61 hS (hP) (rfl)
    · skip
      have c_17 := b2_z hr_2 c_17
      exact Bool.noConfusion (hw.symm.trans c_17)
set_option maxHeartbeats 4000000 in
set_option maxRecDepth 100000 in
theorem c_X3_ask_kmark (l : Launch) (G : lzG) (x : Nat) (q : Nat → Nat) (S : Nat → Int32) (t : Nat → Int32) (qh : Nat → Nat) (D : Nat → Int32) (F : Nat → Nat → Int32) (s N M : Nat) (what : Int32) (hN : D 2 = nI N) (hN8 : N ≤ 8) (hM : D 3 = nI M) (hM5 : M ≤ 5) (hs : s < N) (hw : inR what 0 1 = true) (hkn : ofK (F 4 s) 1 = true) (hw0 : ¬ what = 0) : Met l yX3_ask wsX3_ask ({ frames := 5, cells := 0, slots := 0, locals := 115 }) (va_Pc [.ref x, .int (nI s), .int what] (rwP G (lzX x q S ++ (lzI G (q 10) 16 t ++ (lzDoor G (q 6) qh D F))))) (va_Qi (S := Unit) (fun (r : Int32) (_ : Unit) => r = kmV (F 4 s) (nI s + (sumI (fun v => bitsI (clkD F v) N >>> (nI s &&& 31) &&& 1) M))) (rwB G (fun _ : Unit => (lzX x q (upd S 11 (nI (0 + (kmL (F 4 s)).length))) ++ (lzI G (q 10) 16 (trL t 0 (kmL (F 4 s))) ++ (lzDoor G (q 6) qh D F))))) (lzA (lzX x q S ++ (lzI G (q 10) 16 t ++ (lzDoor G (q 6) qh D F))))) 0 0 (lzA (lzX x q S ++ (lzI G (q 10) 16 t ++ (lzDoor G (q 6) qh D F)))) := by
  have hB : inR (nI s) 0 (D 2 - 1) = true := inR_ok hN hs (by omega)
  refine rw_start (S := Unit) (cc := cX3_ask) (maxL := 3) (ret := (some .int)) (by decide) rfl (Nat.le_of_ble_eq_true rfl) ?_
  intro pp ee ss mm bl me cd A hx hb hr hlk hml hts hown hP hK hD hAe hS ls hl
  have hA0 : ∀ zz : Nat, lzA (lzX x q S ++ (lzI G (q 10) 16 t ++ (lzDoor G (q 6) qh D F))) zz → A zz := fun zz h9 => by rw [hAe]; exact h9
  rw [← hAe]
  clear hAe
  have hown : ss.vm.findClass RX3 = some mm.cls := hown
  have hw1 := hts (.fieldLink RX3 38 "LampSquares" "here" "LLampSquares$Door;") (List.mem_of_getElem? (i := 1) rfl)
  have hw3 := hts (.fieldLink RX3 59 "LampSquares" "tracedCount" "I") (List.mem_of_getElem? (i := 3) rfl)
  have hw4 := hts (.fieldLink RX3 197 "LampSquares$Door" "kindOf" "[I") (List.mem_of_getElem? (i := 4) rfl)
  have hu_wsX10 : ∀ w ∈ wsX10, w.before ([.ref x, .int (nI s), .int what] : List Value).toArray ss = true := fun w h9 => hts w (List.mem_cons_of_mem _ (List.mem_append_right _ h9))
  have hu_wsX30 : ∀ w ∈ wsX30, w.before ([.ref x, .int (nI s), .int what] : List Value).toArray ss = true := fun w h9 => hts w (List.mem_cons_of_mem _ (List.mem_append_left _ (List.mem_append_right _ h9)))
  have hl : lv_has ls 3 [(0, .ref x), (1, .int (nI s)), (2, .int what)] := hl
  refine lv_aload_n hx hb dX3_ask_0 rfl (lv_at hl 0 rfl) ?_
  refine lz_get (G := G) (ci := 3) (v := .ref (q 6)) (C := RX3) (T := TX3) (N := 13) hx hb hu_wsX30 (fun _ h9 => h9) hown hK hP 0 rfl rfl 6 (by decide) hw1 rfl rfl dX3_ask_1 ?_
  refine lv_iload_n hx hb dX3_ask_4 rfl (lv_at hl 1 rfl) ?_
  have hPc := hP.sub (ws' := lzDoor G (q 6) qh D F) [2, 3, 4, 5, 6, 7, 8, 9, 10, 11, 12] rfl
  refine ro_calli (va_runV (As := [.int (nI s)]) (rest := []) ⟨hx, hb, hml, hown, hts⟩ (c_X1_isSquare l G (q 6) qh D F (nI s) ) (cwV 1 hts gX3_ask_X1_isSquare rfl rfl rfl (by decide +kernel) ⟨Nat.le_of_ble_eq_true rfl, Nat.le_of_ble_eq_true rfl⟩) (ro_preV hK hPc hP (ci := 1) (q0 := 2) rfl rfl) rfl rfl hl.1 rfl (lv_room (Nat.le_of_ble_eq_true rfl)) dX3_ask_5 ⟨Nat.zero_le _, Nat.zero_le _⟩) (fun r_1 hr_1 => ?_)
  refine lv_if_eq (tgt := 20) hx hb dX3_ask_8 (by decide) (fun c_8 => ?_) (fun c_8 => ?_)
  · skip
    have c_8 := b2_z hr_1 c_8
    exact Bool.noConfusion (hB.symm.trans c_8)
  · skip
    have c_8 := b2_n hr_1 c_8
    refine lv_iload_n hx hb dX3_ask_11 rfl (lv_at hl 2 rfl) ?_
    refine lv_iconst (v := 0) hx hb dX3_ask_12 (by decide) ?_
    refine lv_iconst (v := 1) hx hb dX3_ask_13 (by decide) ?_
    refine ro_calli (va_runS (As := [.int what, .int 0, .int 1]) (rest := []) ⟨hx, hb, hml, hown, hts⟩ (c_X3_isIn l G what 0 1 ) (cwS 3 hts gX3_ask_X3_isIn rfl rfl rfl (by decide +kernel) ⟨Nat.le_of_ble_eq_true rfl, Nat.le_of_ble_eq_true rfl⟩) (ro_pre hK (fun k q h => by simp at h)) rfl rfl hl.1 rfl (lv_room (Nat.le_of_ble_eq_true rfl)) dX3_ask_14 ⟨Nat.zero_le _, Nat.zero_le _⟩) (fun r_2 hr_2 => ?_)
    refine lv_if_ne (tgt := 23) hx hb dX3_ask_17 (by decide) (fun c_17 => ?_) (fun c_17 => ?_)
    · skip
      have c_17 := b2_n hr_2 c_17
      refine lv_aload_n hx hb dX3_ask_23 rfl (lv_at hl 0 rfl) ?_
      refine lv_iconst (v := 0) hx hb dX3_ask_24 (by decide) ?_
      refine lz_put (G := G) (ci := 3) (C := RX3) (T := TX3) (N := 13) hx hb hu_wsX30 (fun _ h9 => h9) tyX3 tyX3_ok nmX3 hown hK hP hD hS 0 rfl rfl 11 (by decide) hw3 rfl rfl (by decide +kernel) (Nat.le_of_ble_eq_true rfl) dX3_ask_25 (lzX x q (upd S 11 0) ++ (lzI G (q 10) 16 t ++ (lzDoor G (q 6) qh D F))) rfl (fun H locs hP hD hS => ?_)
      refine lv_aload_n hx hb dX3_ask_28 rfl (lv_at hl 0 rfl) ?_
      refine lz_get (G := G) (ci := 3) (v := .ref (q 6)) (C := RX3) (T := TX3) (N := 13) hx hb hu_wsX30 (fun _ h9 => h9) hown hK hP 0 rfl rfl 6 (by decide) hw1 rfl rfl dX3_ask_29 ?_
      refine lz_get (G := G) (ci := 1) (v := .ref (qh 4)) (C := RX1) (T := TX1) (N := 14) hx hb hu_wsX10 (fun _ h9 => h9) hown hK hP 2 rfl rfl 4 (by decide) hw4 rfl rfl dX3_ask_32 ?_
      refine lv_iload_n hx hb dX3_ask_35 rfl (lv_at hl 1 rfl) ?_
      refine lz_iald (f := F 4) hx hb hK hP 3 rfl s (by omega) (Nat.le_of_ble_eq_true rfl) dX3_ask_36 ?_
      refine lv_iconst (v := 1) hx hb dX3_ask_37 (by decide) ?_
      refine ro_calli (va_runS (As := [.int ((F 4) s), .int 1]) (rest := []) ⟨hx, hb, hml, hown, hts⟩ (c_X3_isOfKind l G ((F 4) s) 1 ) (cwS 2 hts gX3_ask_X3_isOfKind rfl rfl rfl (by decide +kernel) ⟨Nat.le_of_ble_eq_true rfl, Nat.le_of_ble_eq_true rfl⟩) (ro_pre hK (fun k q h => by simp at h)) rfl rfl hl.1 rfl (lv_room (Nat.le_of_ble_eq_true rfl)) dX3_ask_38 ⟨Nat.zero_le _, Nat.zero_le _⟩) (fun r_3 hr_3 => ?_)
      refine lv_if_eq (tgt := 62) hx hb dX3_ask_41 (by decide) (fun c_41 => ?_) (fun c_41 => ?_)
      · skip
        have c_41 := b2_z hr_3 c_41
        exact Bool.noConfusion (hkn.symm.trans c_41)
      · skip
        have c_41 := b2_n hr_3 c_41
        refine lv_iload_n hx hb dX3_ask_44 rfl (lv_at hl 2 rfl) ?_
        refine lv_if_ne (tgt := 56) hx hb dX3_ask_45 (by decide) (fun c_45 => ?_) (fun c_45 => ?_)
        · skip
          refine lv_aload_n hx hb dX3_ask_56 rfl (lv_at hl 0 rfl) ?_
          refine lv_iload_n hx hb dX3_ask_57 rfl (lv_at hl 1 rfl) ?_
          have hFc : ∀ zz : Nat, lzA (lzX x q (upd S 11 0) ++ (lzI G (q 10) 16 t ++ (lzDoor G (q 6) qh D F))) zz → A zz := lz_free hD [0, 1, 2, 3, 4, 5, 6, 7, 8, 9, 10, 11, 12] rfl
          refine va_calli (va_runV (As := [.int (nI s)]) (rest := []) ⟨hx, hb, hml, hown, hts⟩ (c_X3_knownMark l G x q (upd S 11 0) t qh D F s N M 0 (by omega) (hN) (hN8) (hM) (hM5) (rfl) (by omega)) (cwV 1 hts gX3_ask_X3_knownMark rfl rfl rfl (by decide +kernel) ⟨Nat.le_of_ble_eq_true rfl, Nat.le_of_ble_eq_true rfl⟩) (rw_preV hK hP hD hP (ci := 3) (q0 := 0) rfl rfl) rfl rfl hl.1 rfl (lv_room (Nat.le_of_ble_eq_true rfl)) dX3_ask_58 ⟨Nat.zero_le _, Nat.zero_le _⟩) hS (fun q _ h => hFc q h) hFc (fun r_4 u_5 t9 H1 locs ht hvm hr_4 hB hz1 hk1 hS => ?_)
          replace hB : va_P G.1 lzC _ t9.heap := hB
          rw [ht] at hB
          obtain ⟨hP, hD⟩ := lz_join (wc := (lzX x q (upd S 11 0) ++ (lzI G (q 10) 16 t ++ (lzDoor G (q 6) qh D F)))) (wr := ([] : va_W)) (w1 := (lzX x q (upd S 11 (nI (0 + (kmL ((F 4) s)).length))) ++ (lzI G (q 10) 16 (trL t 0 (kmL ((F 4) s))) ++ (lzDoor G (q 6) qh D F)))) hP hD [0, 1, 2, 3, 4, 5, 6, 7, 8, 9, 10, 11, 12] [] rfl rfl (by decide) (by decide) rfl hk1 hB
          replace hP := hP.sub (ws' := (lzX x q (upd S 11 (nI (0 + (kmL ((F 4) s)).length))) ++ (lzI G (q 10) 16 (trL t 0 (kmL ((F 4) s))) ++ (lzDoor G (q 6) qh D F)))) [0, 1, 2, 3, 4, 5, 6, 7, 8, 9, 10, 11, 12] rfl
          replace hD := hD.sub (ws' := (lzX x q (upd S 11 (nI (0 + (kmL ((F 4) s)).length))) ++ (lzI G (q 10) 16 (trL t 0 (kmL ((F 4) s))) ++ (lzDoor G (q 6) qh D F)))) [0, 1, 2, 3, 4, 5, 6, 7, 8, 9, 10, 11, 12] (by decide) rfl
          clear ht hvm hB hz1 hk1
          generalize H1 = H at hP hS ⊢
          refine lz_top (y := kmV ((F 4) s) (nI s + (sumI (fun v => bitsI (clkD F v) N >>> (nI s &&& 31) &&& 1) M))) hr_4 ?_
          exact rw_iret (S := Unit) (G := G) (Wd := fun _ : Unit => (lzX x q (upd S 11 (nI (0 + (kmL (F 4 s)).length))) ++ (lzI G (q 10) 16 (trL t 0 (kmL (F 4 s))) ++ (lzDoor G (q 6) qh D F)))) () hx hb hr hlk dX3_ask_61 hS (hP) (rfl)
        · skip
          exact absurd c_45 hw0
    · skip
      have c_17 := b2_z hr_2 c_17
      exact Bool.noConfusion (hw.symm.trans c_17)
set_option maxHeartbeats 4000000 in
set_option maxRecDepth 100000 in
theorem c_X3_ask_usize (l : Launch) (G : lzG) (x : Nat) (q : Nat → Nat) (S : Nat → Int32) (t : Nat → Int32) (qh : Nat → Nat) (D : Nat → Int32) (F : Nat → Nat → Int32) (s N M : Nat) (what : Int32) (hN : D 2 = nI N) (hN8 : N ≤ 8) (hM : D 3 = nI M) (hM5 : M ≤ 5) (hs : s < N) (hw : inR what 0 1 = true) (hkn : ofK (F 4 s) 1 = false) (hw0 : what = 0) : Met l yX3_ask wsX3_ask ({ frames := 3, cells := 0, slots := 0, locals := 65 }) (va_Pc [.ref x, .int (nI s), .int what] (rwP G (lzX x q S ++ (lzI G (q 10) 16 t ++ (lzDoor G (q 6) qh D F))))) (va_Qi (S := Unit) (fun (r : Int32) (_ : Unit) => r = usV (F 4 s) (F 5 s)) (rwB G (fun _ : Unit => (lzX x q (upd S 11 (nI (0 + (usL (F 4 s)).length))) ++ (lzI G (q 10) 16 (trL t 0 (usL (F 4 s))) ++ (lzDoor G (q 6) qh D F))))) (lzA (lzX x q S ++ (lzI G (q 10) 16 t ++ (lzDoor G (q 6) qh D F))))) 0 0 (lzA (lzX x q S ++ (lzI G (q 10) 16 t ++ (lzDoor G (q 6) qh D F)))) := by
  have hB : inR (nI s) 0 (D 2 - 1) = true := inR_ok hN hs (by omega)
  refine rw_start (S := Unit) (cc := cX3_ask) (maxL := 3) (ret := (some .int)) (by decide) rfl (Nat.le_of_ble_eq_true rfl) ?_
  intro pp ee ss mm bl me cd A hx hb hr hlk hml hts hown hP hK hD hAe hS ls hl
  have hA0 : ∀ zz : Nat, lzA (lzX x q S ++ (lzI G (q 10) 16 t ++ (lzDoor G (q 6) qh D F))) zz → A zz := fun zz h9 => by rw [hAe]; exact h9
  rw [← hAe]
  clear hAe
  have hown : ss.vm.findClass RX3 = some mm.cls := hown
  have hw1 := hts (.fieldLink RX3 38 "LampSquares" "here" "LLampSquares$Door;") (List.mem_of_getElem? (i := 1) rfl)
  have hw3 := hts (.fieldLink RX3 59 "LampSquares" "tracedCount" "I") (List.mem_of_getElem? (i := 3) rfl)
  have hw4 := hts (.fieldLink RX3 197 "LampSquares$Door" "kindOf" "[I") (List.mem_of_getElem? (i := 4) rfl)
  have hu_wsX10 : ∀ w ∈ wsX10, w.before ([.ref x, .int (nI s), .int what] : List Value).toArray ss = true := fun w h9 => hts w (List.mem_cons_of_mem _ (List.mem_append_right _ h9))
  have hu_wsX30 : ∀ w ∈ wsX30, w.before ([.ref x, .int (nI s), .int what] : List Value).toArray ss = true := fun w h9 => hts w (List.mem_cons_of_mem _ (List.mem_append_left _ (List.mem_append_right _ h9)))
  have hl : lv_has ls 3 [(0, .ref x), (1, .int (nI s)), (2, .int what)] := hl
  refine lv_aload_n hx hb dX3_ask_0 rfl (lv_at hl 0 rfl) ?_
  refine lz_get (G := G) (ci := 3) (v := .ref (q 6)) (C := RX3) (T := TX3) (N := 13) hx hb hu_wsX30 (fun _ h9 => h9) hown hK hP 0 rfl rfl 6 (by decide) hw1 rfl rfl dX3_ask_1 ?_
  refine lv_iload_n hx hb dX3_ask_4 rfl (lv_at hl 1 rfl) ?_
  have hPc := hP.sub (ws' := lzDoor G (q 6) qh D F) [2, 3, 4, 5, 6, 7, 8, 9, 10, 11, 12] rfl
  refine ro_calli (va_runV (As := [.int (nI s)]) (rest := []) ⟨hx, hb, hml, hown, hts⟩ (c_X1_isSquare l G (q 6) qh D F (nI s) ) (cwV 1 hts gX3_ask_X1_isSquare rfl rfl rfl (by decide +kernel) ⟨Nat.le_of_ble_eq_true rfl, Nat.le_of_ble_eq_true rfl⟩) (ro_preV hK hPc hP (ci := 1) (q0 := 2) rfl rfl) rfl rfl hl.1 rfl (lv_room (Nat.le_of_ble_eq_true rfl)) dX3_ask_5 ⟨Nat.zero_le _, Nat.zero_le _⟩) (fun r_1 hr_1 => ?_)
  refine lv_if_eq (tgt := 20) hx hb dX3_ask_8 (by decide) (fun c_8 => ?_) (fun c_8 => ?_)
  · skip
    have c_8 := b2_z hr_1 c_8
    exact Bool.noConfusion (hB.symm.trans c_8)
  · skip
    have c_8 := b2_n hr_1 c_8
    refine lv_iload_n hx hb dX3_ask_11 rfl (lv_at hl 2 rfl) ?_
    refine lv_iconst (v := 0) hx hb dX3_ask_12 (by decide) ?_
    refine lv_iconst (v := 1) hx hb dX3_ask_13 (by decide) ?_
    refine ro_calli (va_runS (As := [.int what, .int 0, .int 1]) (rest := []) ⟨hx, hb, hml, hown, hts⟩ (c_X3_isIn l G what 0 1 ) (cwS 3 hts gX3_ask_X3_isIn rfl rfl rfl (by decide +kernel) ⟨Nat.le_of_ble_eq_true rfl, Nat.le_of_ble_eq_true rfl⟩) (ro_pre hK (fun k q h => by simp at h)) rfl rfl hl.1 rfl (lv_room (Nat.le_of_ble_eq_true rfl)) dX3_ask_14 ⟨Nat.zero_le _, Nat.zero_le _⟩) (fun r_2 hr_2 => ?_)
    refine lv_if_ne (tgt := 23) hx hb dX3_ask_17 (by decide) (fun c_17 => ?_) (fun c_17 => ?_)
    · skip
      have c_17 := b2_n hr_2 c_17
      refine lv_aload_n hx hb dX3_ask_23 rfl (lv_at hl 0 rfl) ?_
      refine lv_iconst (v := 0) hx hb dX3_ask_24 (by decide) ?_
      refine lz_put (G := G) (ci := 3) (C := RX3) (T := TX3) (N := 13) hx hb hu_wsX30 (fun _ h9 => h9) tyX3 tyX3_ok nmX3 hown hK hP hD hS 0 rfl rfl 11 (by decide) hw3 rfl rfl (by decide +kernel) (Nat.le_of_ble_eq_true rfl) dX3_ask_25 (lzX x q (upd S 11 0) ++ (lzI G (q 10) 16 t ++ (lzDoor G (q 6) qh D F))) rfl (fun H locs hP hD hS => ?_)
      refine lv_aload_n hx hb dX3_ask_28 rfl (lv_at hl 0 rfl) ?_
      refine lz_get (G := G) (ci := 3) (v := .ref (q 6)) (C := RX3) (T := TX3) (N := 13) hx hb hu_wsX30 (fun _ h9 => h9) hown hK hP 0 rfl rfl 6 (by decide) hw1 rfl rfl dX3_ask_29 ?_
      refine lz_get (G := G) (ci := 1) (v := .ref (qh 4)) (C := RX1) (T := TX1) (N := 14) hx hb hu_wsX10 (fun _ h9 => h9) hown hK hP 2 rfl rfl 4 (by decide) hw4 rfl rfl dX3_ask_32 ?_
      refine lv_iload_n hx hb dX3_ask_35 rfl (lv_at hl 1 rfl) ?_
      refine lz_iald (f := F 4) hx hb hK hP 3 rfl s (by omega) (Nat.le_of_ble_eq_true rfl) dX3_ask_36 ?_
      refine lv_iconst (v := 1) hx hb dX3_ask_37 (by decide) ?_
      refine ro_calli (va_runS (As := [.int ((F 4) s), .int 1]) (rest := []) ⟨hx, hb, hml, hown, hts⟩ (c_X3_isOfKind l G ((F 4) s) 1 ) (cwS 2 hts gX3_ask_X3_isOfKind rfl rfl rfl (by decide +kernel) ⟨Nat.le_of_ble_eq_true rfl, Nat.le_of_ble_eq_true rfl⟩) (ro_pre hK (fun k q h => by simp at h)) rfl rfl hl.1 rfl (lv_room (Nat.le_of_ble_eq_true rfl)) dX3_ask_38 ⟨Nat.zero_le _, Nat.zero_le _⟩) (fun r_3 hr_3 => ?_)
      refine lv_if_eq (tgt := 62) hx hb dX3_ask_41 (by decide) (fun c_41 => ?_) (fun c_41 => ?_)
      · skip
        have c_41 := b2_z hr_3 c_41
        refine lv_iload_n hx hb dX3_ask_62 rfl (lv_at hl 2 rfl) ?_
        refine lv_if_ne (tgt := 74) hx hb dX3_ask_63 (by decide) (fun c_63 => ?_) (fun c_63 => ?_)
        · skip
          exact absurd hw0 c_63
        · skip
          refine lv_aload_n hx hb dX3_ask_66 rfl (lv_at hl 0 rfl) ?_
          refine lv_iload_n hx hb dX3_ask_67 rfl (lv_at hl 1 rfl) ?_
          have hFc : ∀ zz : Nat, lzA (lzX x q (upd S 11 0) ++ (lzI G (q 10) 16 t ++ (lzDoor G (q 6) qh D F))) zz → A zz := lz_free hD [0, 1, 2, 3, 4, 5, 6, 7, 8, 9, 10, 11, 12] rfl
          refine va_calli (va_runV (As := [.int (nI s)]) (rest := []) ⟨hx, hb, hml, hown, hts⟩ (c_X3_unknownSize l G x q (upd S 11 0) t qh D F s 0 (by omega) (rfl) (by omega)) (cwV 1 hts gX3_ask_X3_unknownSize rfl rfl rfl (by decide +kernel) ⟨Nat.le_of_ble_eq_true rfl, Nat.le_of_ble_eq_true rfl⟩) (rw_preV hK hP hD hP (ci := 3) (q0 := 0) rfl rfl) rfl rfl hl.1 rfl (lv_room (Nat.le_of_ble_eq_true rfl)) dX3_ask_68 ⟨Nat.zero_le _, Nat.zero_le _⟩) hS (fun q _ h => hFc q h) hFc (fun r_4 u_5 t9 H1 locs ht hvm hr_4 hB hz1 hk1 hS => ?_)
          replace hB : va_P G.1 lzC _ t9.heap := hB
          rw [ht] at hB
          obtain ⟨hP, hD⟩ := lz_join (wc := (lzX x q (upd S 11 0) ++ (lzI G (q 10) 16 t ++ (lzDoor G (q 6) qh D F)))) (wr := ([] : va_W)) (w1 := (lzX x q (upd S 11 (nI (0 + (usL ((F 4) s)).length))) ++ (lzI G (q 10) 16 (trL t 0 (usL ((F 4) s))) ++ (lzDoor G (q 6) qh D F)))) hP hD [0, 1, 2, 3, 4, 5, 6, 7, 8, 9, 10, 11, 12] [] rfl rfl (by decide) (by decide) rfl hk1 hB
          replace hP := hP.sub (ws' := (lzX x q (upd S 11 (nI (0 + (usL ((F 4) s)).length))) ++ (lzI G (q 10) 16 (trL t 0 (usL ((F 4) s))) ++ (lzDoor G (q 6) qh D F)))) [0, 1, 2, 3, 4, 5, 6, 7, 8, 9, 10, 11, 12] rfl
          replace hD := hD.sub (ws' := (lzX x q (upd S 11 (nI (0 + (usL ((F 4) s)).length))) ++ (lzI G (q 10) 16 (trL t 0 (usL ((F 4) s))) ++ (lzDoor G (q 6) qh D F)))) [0, 1, 2, 3, 4, 5, 6, 7, 8, 9, 10, 11, 12] (by decide) rfl
          clear ht hvm hB hz1 hk1
          generalize H1 = H at hP hS ⊢
          refine lz_top (y := usV ((F 4) s) ((F 5) s)) hr_4 ?_
          refine lv_goto (tgt := 79) hx hb dX3_ask_71 (by decide) ?_
          exact rw_iret (S := Unit) (G := G) (Wd := fun _ : Unit => (lzX x q (upd S 11 (nI (0 + (usL (F 4 s)).length))) ++ (lzI G (q 10) 16 (trL t 0 (usL (F 4 s))) ++ (lzDoor G (q 6) qh D F)))) () hx hb hr hlk dX3_ask_79 hS (hP) (rfl)
      · skip
        have c_41 := b2_n hr_3 c_41
        exact Bool.noConfusion (hkn.symm.trans c_41)
    · skip
      have c_17 := b2_z hr_2 c_17
      exact Bool.noConfusion (hw.symm.trans c_17)
set_option maxHeartbeats 4000000 in
set_option maxRecDepth 100000 in
theorem c_X3_ask_umark (l : Launch) (G : lzG) (x : Nat) (q : Nat → Nat) (S : Nat → Int32) (t : Nat → Int32) (qh : Nat → Nat) (D : Nat → Int32) (F : Nat → Nat → Int32) (s N M : Nat) (what : Int32) (hN : D 2 = nI N) (hN8 : N ≤ 8) (hM : D 3 = nI M) (hM5 : M ≤ 5) (hs : s < N) (hw : inR what 0 1 = true) (hkn : ofK (F 4 s) 1 = false) (hw0 : ¬ what = 0) : Met l yX3_ask wsX3_ask ({ frames := 4, cells := 0, slots := 0, locals := 87 }) (va_Pc [.ref x, .int (nI s), .int what] (rwP G (lzX x q S ++ (lzI G (q 10) 16 t ++ (lzDoor G (q 6) qh D F))))) (va_Qi (S := Unit) (fun (r : Int32) (_ : Unit) => r = nI s - usV (F 4 s) (F 5 s)) (rwB G (fun _ : Unit => (lzX x q (upd S 11 (nI (0 + (umL (F 4 s)).length))) ++ (lzI G (q 10) 16 (trL t 0 (umL (F 4 s))) ++ (lzDoor G (q 6) qh D F))))) (lzA (lzX x q S ++ (lzI G (q 10) 16 t ++ (lzDoor G (q 6) qh D F))))) 0 0 (lzA (lzX x q S ++ (lzI G (q 10) 16 t ++ (lzDoor G (q 6) qh D F)))) := by
  have hB : inR (nI s) 0 (D 2 - 1) = true := inR_ok hN hs (by omega)
  refine rw_start (S := Unit) (cc := cX3_ask) (maxL := 3) (ret := (some .int)) (by decide) rfl (Nat.le_of_ble_eq_true rfl) ?_
  intro pp ee ss mm bl me cd A hx hb hr hlk hml hts hown hP hK hD hAe hS ls hl
  have hA0 : ∀ zz : Nat, lzA (lzX x q S ++ (lzI G (q 10) 16 t ++ (lzDoor G (q 6) qh D F))) zz → A zz := fun zz h9 => by rw [hAe]; exact h9
  rw [← hAe]
  clear hAe
  have hown : ss.vm.findClass RX3 = some mm.cls := hown
  have hw1 := hts (.fieldLink RX3 38 "LampSquares" "here" "LLampSquares$Door;") (List.mem_of_getElem? (i := 1) rfl)
  have hw3 := hts (.fieldLink RX3 59 "LampSquares" "tracedCount" "I") (List.mem_of_getElem? (i := 3) rfl)
  have hw4 := hts (.fieldLink RX3 197 "LampSquares$Door" "kindOf" "[I") (List.mem_of_getElem? (i := 4) rfl)
  have hu_wsX10 : ∀ w ∈ wsX10, w.before ([.ref x, .int (nI s), .int what] : List Value).toArray ss = true := fun w h9 => hts w (List.mem_cons_of_mem _ (List.mem_append_right _ h9))
  have hu_wsX30 : ∀ w ∈ wsX30, w.before ([.ref x, .int (nI s), .int what] : List Value).toArray ss = true := fun w h9 => hts w (List.mem_cons_of_mem _ (List.mem_append_left _ (List.mem_append_right _ h9)))
  have hl : lv_has ls 3 [(0, .ref x), (1, .int (nI s)), (2, .int what)] := hl
  refine lv_aload_n hx hb dX3_ask_0 rfl (lv_at hl 0 rfl) ?_
  refine lz_get (G := G) (ci := 3) (v := .ref (q 6)) (C := RX3) (T := TX3) (N := 13) hx hb hu_wsX30 (fun _ h9 => h9) hown hK hP 0 rfl rfl 6 (by decide) hw1 rfl rfl dX3_ask_1 ?_
  refine lv_iload_n hx hb dX3_ask_4 rfl (lv_at hl 1 rfl) ?_
  have hPc := hP.sub (ws' := lzDoor G (q 6) qh D F) [2, 3, 4, 5, 6, 7, 8, 9, 10, 11, 12] rfl
  refine ro_calli (va_runV (As := [.int (nI s)]) (rest := []) ⟨hx, hb, hml, hown, hts⟩ (c_X1_isSquare l G (q 6) qh D F (nI s) ) (cwV 1 hts gX3_ask_X1_isSquare rfl rfl rfl (by decide +kernel) ⟨Nat.le_of_ble_eq_true rfl, Nat.le_of_ble_eq_true rfl⟩) (ro_preV hK hPc hP (ci := 1) (q0 := 2) rfl rfl) rfl rfl hl.1 rfl (lv_room (Nat.le_of_ble_eq_true rfl)) dX3_ask_5 ⟨Nat.zero_le _, Nat.zero_le _⟩) (fun r_1 hr_1 => ?_)
  refine lv_if_eq (tgt := 20) hx hb dX3_ask_8 (by decide) (fun c_8 => ?_) (fun c_8 => ?_)
  · skip
    have c_8 := b2_z hr_1 c_8
    exact Bool.noConfusion (hB.symm.trans c_8)
  · skip
    have c_8 := b2_n hr_1 c_8
    refine lv_iload_n hx hb dX3_ask_11 rfl (lv_at hl 2 rfl) ?_
    refine lv_iconst (v := 0) hx hb dX3_ask_12 (by decide) ?_
    refine lv_iconst (v := 1) hx hb dX3_ask_13 (by decide) ?_
    refine ro_calli (va_runS (As := [.int what, .int 0, .int 1]) (rest := []) ⟨hx, hb, hml, hown, hts⟩ (c_X3_isIn l G what 0 1 ) (cwS 3 hts gX3_ask_X3_isIn rfl rfl rfl (by decide +kernel) ⟨Nat.le_of_ble_eq_true rfl, Nat.le_of_ble_eq_true rfl⟩) (ro_pre hK (fun k q h => by simp at h)) rfl rfl hl.1 rfl (lv_room (Nat.le_of_ble_eq_true rfl)) dX3_ask_14 ⟨Nat.zero_le _, Nat.zero_le _⟩) (fun r_2 hr_2 => ?_)
    refine lv_if_ne (tgt := 23) hx hb dX3_ask_17 (by decide) (fun c_17 => ?_) (fun c_17 => ?_)
    · skip
      have c_17 := b2_n hr_2 c_17
      refine lv_aload_n hx hb dX3_ask_23 rfl (lv_at hl 0 rfl) ?_
      refine lv_iconst (v := 0) hx hb dX3_ask_24 (by decide) ?_
      refine lz_put (G := G) (ci := 3) (C := RX3) (T := TX3) (N := 13) hx hb hu_wsX30 (fun _ h9 => h9) tyX3 tyX3_ok nmX3 hown hK hP hD hS 0 rfl rfl 11 (by decide) hw3 rfl rfl (by decide +kernel) (Nat.le_of_ble_eq_true rfl) dX3_ask_25 (lzX x q (upd S 11 0) ++ (lzI G (q 10) 16 t ++ (lzDoor G (q 6) qh D F))) rfl (fun H locs hP hD hS => ?_)
      refine lv_aload_n hx hb dX3_ask_28 rfl (lv_at hl 0 rfl) ?_
      refine lz_get (G := G) (ci := 3) (v := .ref (q 6)) (C := RX3) (T := TX3) (N := 13) hx hb hu_wsX30 (fun _ h9 => h9) hown hK hP 0 rfl rfl 6 (by decide) hw1 rfl rfl dX3_ask_29 ?_
      refine lz_get (G := G) (ci := 1) (v := .ref (qh 4)) (C := RX1) (T := TX1) (N := 14) hx hb hu_wsX10 (fun _ h9 => h9) hown hK hP 2 rfl rfl 4 (by decide) hw4 rfl rfl dX3_ask_32 ?_
      refine lv_iload_n hx hb dX3_ask_35 rfl (lv_at hl 1 rfl) ?_
      refine lz_iald (f := F 4) hx hb hK hP 3 rfl s (by omega) (Nat.le_of_ble_eq_true rfl) dX3_ask_36 ?_
      refine lv_iconst (v := 1) hx hb dX3_ask_37 (by decide) ?_
      refine ro_calli (va_runS (As := [.int ((F 4) s), .int 1]) (rest := []) ⟨hx, hb, hml, hown, hts⟩ (c_X3_isOfKind l G ((F 4) s) 1 ) (cwS 2 hts gX3_ask_X3_isOfKind rfl rfl rfl (by decide +kernel) ⟨Nat.le_of_ble_eq_true rfl, Nat.le_of_ble_eq_true rfl⟩) (ro_pre hK (fun k q h => by simp at h)) rfl rfl hl.1 rfl (lv_room (Nat.le_of_ble_eq_true rfl)) dX3_ask_38 ⟨Nat.zero_le _, Nat.zero_le _⟩) (fun r_3 hr_3 => ?_)
      refine lv_if_eq (tgt := 62) hx hb dX3_ask_41 (by decide) (fun c_41 => ?_) (fun c_41 => ?_)
      · skip
        have c_41 := b2_z hr_3 c_41
        refine lv_iload_n hx hb dX3_ask_62 rfl (lv_at hl 2 rfl) ?_
        refine lv_if_ne (tgt := 74) hx hb dX3_ask_63 (by decide) (fun c_63 => ?_) (fun c_63 => ?_)
        · skip
          refine lv_aload_n hx hb dX3_ask_74 rfl (lv_at hl 0 rfl) ?_
          refine lv_iload_n hx hb dX3_ask_75 rfl (lv_at hl 1 rfl) ?_
          have hFc : ∀ zz : Nat, lzA (lzX x q (upd S 11 0) ++ (lzI G (q 10) 16 t ++ (lzDoor G (q 6) qh D F))) zz → A zz := lz_free hD [0, 1, 2, 3, 4, 5, 6, 7, 8, 9, 10, 11, 12] rfl
          refine va_calli (va_runV (As := [.int (nI s)]) (rest := []) ⟨hx, hb, hml, hown, hts⟩ (c_X3_unknownMark l G x q (upd S 11 0) t qh D F s 0 (by omega) (rfl) (by omega)) (cwV 1 hts gX3_ask_X3_unknownMark rfl rfl rfl (by decide +kernel) ⟨Nat.le_of_ble_eq_true rfl, Nat.le_of_ble_eq_true rfl⟩) (rw_preV hK hP hD hP (ci := 3) (q0 := 0) rfl rfl) rfl rfl hl.1 rfl (lv_room (Nat.le_of_ble_eq_true rfl)) dX3_ask_76 ⟨Nat.zero_le _, Nat.zero_le _⟩) hS (fun q _ h => hFc q h) hFc (fun r_4 u_5 t9 H1 locs ht hvm hr_4 hB hz1 hk1 hS => ?_)
          replace hB : va_P G.1 lzC _ t9.heap := hB
          rw [ht] at hB
          obtain ⟨hP, hD⟩ := lz_join (wc := (lzX x q (upd S 11 0) ++ (lzI G (q 10) 16 t ++ (lzDoor G (q 6) qh D F)))) (wr := ([] : va_W)) (w1 := (lzX x q (upd S 11 (nI (0 + (umL ((F 4) s)).length))) ++ (lzI G (q 10) 16 (trL t 0 (umL ((F 4) s))) ++ (lzDoor G (q 6) qh D F)))) hP hD [0, 1, 2, 3, 4, 5, 6, 7, 8, 9, 10, 11, 12] [] rfl rfl (by decide) (by decide) rfl hk1 hB
          replace hP := hP.sub (ws' := (lzX x q (upd S 11 (nI (0 + (umL ((F 4) s)).length))) ++ (lzI G (q 10) 16 (trL t 0 (umL ((F 4) s))) ++ (lzDoor G (q 6) qh D F)))) [0, 1, 2, 3, 4, 5, 6, 7, 8, 9, 10, 11, 12] rfl
          replace hD := hD.sub (ws' := (lzX x q (upd S 11 (nI (0 + (umL ((F 4) s)).length))) ++ (lzI G (q 10) 16 (trL t 0 (umL ((F 4) s))) ++ (lzDoor G (q 6) qh D F)))) [0, 1, 2, 3, 4, 5, 6, 7, 8, 9, 10, 11, 12] (by decide) rfl
          clear ht hvm hB hz1 hk1
          generalize H1 = H at hP hS ⊢
          refine lz_top (y := nI s - usV ((F 4) s) ((F 5) s)) hr_4 ?_
          exact rw_iret (S := Unit) (G := G) (Wd := fun _ : Unit => (lzX x q (upd S 11 (nI (0 + (umL (F 4 s)).length))) ++ (lzI G (q 10) 16 (trL t 0 (umL (F 4 s))) ++ (lzDoor G (q 6) qh D F)))) () hx hb hr hlk dX3_ask_79 hS (hP) (rfl)
        · skip
          exact absurd c_63 hw0
      · skip
        have c_41 := b2_n hr_3 c_41
        exact Bool.noConfusion (hkn.symm.trans c_41)
    · skip
      have c_17 := b2_z hr_2 c_17
      exact Bool.noConfusion (hw.symm.trans c_17)
set_option maxHeartbeats 4000000 in
set_option maxRecDepth 100000 in
theorem c_X3_save_state (l : Launch) (G : lzG) (x : Nat) (q : Nat → Nat) (S : Nat → Int32) (qh : Nat → Nat) (D : Nat → Int32) (F : Nat → Nat → Int32) (set what : Int32) (hR : (decide (0 < D 2) && decide (0 < D 3)) = false) : Met l yX3_save wsX3_save ({ frames := 1, cells := 0, slots := 0, locals := 20 }) (va_Pc [.ref x, .int set, .int what] (roP G (lzX x q S ++ lzDoor G (q 6) qh D F))) (vp_Si (fun r => r = -1000002)) 0 0 (fun _ => False) := by
  refine ro_start (cc := cX3_save) (maxL := 3) (ret := (some .int)) (by decide) rfl (Nat.le_of_ble_eq_true rfl) ?_
  intro pp ee ss mm bl me cd hx hb hr hlk hml hts hown hP hK ls hl
  have hown : ss.vm.findClass RX3 = some mm.cls := hown
  have hw1 := hts (.fieldLink RX3 38 "LampSquares" "here" "LLampSquares$Door;") (List.mem_of_getElem? (i := 1) rfl)
  have hw2 := hts (.constant RX3 137 (-1000002)) (List.mem_of_getElem? (i := 2) rfl)
  have hu_wsX30 : ∀ w ∈ wsX30, w.before ([.ref x, .int set, .int what] : List Value).toArray ss = true := fun w h9 => hts w (List.mem_cons_of_mem _ (List.mem_append_left _ (List.mem_append_right _ h9)))
  have hl : lv_has ls 3 [(0, .ref x), (1, .int set), (2, .int what)] := hl
  refine lv_aload_n hx hb dX3_save_0 rfl (lv_at hl 0 rfl) ?_
  refine lz_get (G := G) (ci := 3) (v := .ref (q 6)) (C := RX3) (T := TX3) (N := 13) hx hb hu_wsX30 (fun _ h9 => h9) hown hK hP 0 rfl rfl 6 (by decide) hw1 rfl rfl dX3_save_1 ?_
  have hPc := hP.sub (ws' := lzDoor G (q 6) qh D F) [1, 2, 3, 4, 5, 6, 7, 8, 9, 10, 11] rfl
  refine ro_calli (va_runV (As := []) (rest := []) ⟨hx, hb, hml, hown, hts⟩ (c_X1_isRead l G (q 6) qh D F ) (cwV 0 hts gX3_save_X1_isRead rfl rfl rfl (by decide +kernel) ⟨Nat.le_of_ble_eq_true rfl, Nat.le_of_ble_eq_true rfl⟩) (ro_preV hK hPc hP (ci := 1) (q0 := 1) rfl rfl) rfl rfl hl.1 rfl (lv_room (Nat.le_of_ble_eq_true rfl)) dX3_save_4 ⟨Nat.zero_le _, Nat.zero_le _⟩) (fun r_1 hr_1 => ?_)
  refine lv_if_ne (tgt := 13) hx hb dX3_save_7 (by decide) (fun c_7 => ?_) (fun c_7 => ?_)
  · skip
    have c_7 := b2_n hr_1 c_7
    exact Bool.noConfusion (hR.symm.trans c_7)
  · skip
    have c_7 := b2_z hr_1 c_7
    refine lv_ldc hx hb hown hw2 dX3_save_10 ?_
    exact ro_iret hx hb hr hlk dX3_save_12 (rfl)
set_option maxHeartbeats 4000000 in
set_option maxRecDepth 100000 in
theorem c_X3_save_bad (l : Launch) (G : lzG) (x : Nat) (q : Nat → Nat) (S : Nat → Int32) (qh : Nat → Nat) (D : Nat → Int32) (F : Nat → Nat → Int32) (set what : Int32) (hR : (decide (0 < D 2) && decide (0 < D 3)) = true) (hbad : (inR set 0 ((1 <<< (D 2 &&& 31)) - 1) && inR what 0 1) = false) : Met l yX3_save wsX3_save ({ frames := 2, cells := 0, slots := 0, locals := 43 }) (va_Pc [.ref x, .int set, .int what] (roP G (lzX x q S ++ lzDoor G (q 6) qh D F))) (vp_Si (fun r => r = -1000001)) 0 0 (fun _ => False) := by
  refine ro_start (cc := cX3_save) (maxL := 3) (ret := (some .int)) (by decide) rfl (Nat.le_of_ble_eq_true rfl) ?_
  intro pp ee ss mm bl me cd hx hb hr hlk hml hts hown hP hK ls hl
  have hown : ss.vm.findClass RX3 = some mm.cls := hown
  have hw1 := hts (.fieldLink RX3 38 "LampSquares" "here" "LLampSquares$Door;") (List.mem_of_getElem? (i := 1) rfl)
  have hw3 := hts (.constant RX3 81 (-1000001)) (List.mem_of_getElem? (i := 3) rfl)
  have hu_wsX30 : ∀ w ∈ wsX30, w.before ([.ref x, .int set, .int what] : List Value).toArray ss = true := fun w h9 => hts w (List.mem_cons_of_mem _ (List.mem_append_left _ (List.mem_append_right _ h9)))
  have hl : lv_has ls 3 [(0, .ref x), (1, .int set), (2, .int what)] := hl
  refine lv_aload_n hx hb dX3_save_0 rfl (lv_at hl 0 rfl) ?_
  refine lz_get (G := G) (ci := 3) (v := .ref (q 6)) (C := RX3) (T := TX3) (N := 13) hx hb hu_wsX30 (fun _ h9 => h9) hown hK hP 0 rfl rfl 6 (by decide) hw1 rfl rfl dX3_save_1 ?_
  have hPc := hP.sub (ws' := lzDoor G (q 6) qh D F) [1, 2, 3, 4, 5, 6, 7, 8, 9, 10, 11] rfl
  refine ro_calli (va_runV (As := []) (rest := []) ⟨hx, hb, hml, hown, hts⟩ (c_X1_isRead l G (q 6) qh D F ) (cwV 0 hts gX3_save_X1_isRead rfl rfl rfl (by decide +kernel) ⟨Nat.le_of_ble_eq_true rfl, Nat.le_of_ble_eq_true rfl⟩) (ro_preV hK hPc hP (ci := 1) (q0 := 1) rfl rfl) rfl rfl hl.1 rfl (lv_room (Nat.le_of_ble_eq_true rfl)) dX3_save_4 ⟨Nat.zero_le _, Nat.zero_le _⟩) (fun r_1 hr_1 => ?_)
  refine lv_if_ne (tgt := 13) hx hb dX3_save_7 (by decide) (fun c_7 => ?_) (fun c_7 => ?_)
  · skip
    have c_7 := b2_n hr_1 c_7
    refine lv_aload_n hx hb dX3_save_13 rfl (lv_at hl 0 rfl) ?_
    refine lz_get (G := G) (ci := 3) (v := .ref (q 6)) (C := RX3) (T := TX3) (N := 13) hx hb hu_wsX30 (fun _ h9 => h9) hown hK hP 0 rfl rfl 6 (by decide) hw1 rfl rfl dX3_save_14 ?_
    refine lv_iload_n hx hb dX3_save_17 rfl (lv_at hl 1 rfl) ?_
    have hPc := hP.sub (ws' := lzDoor G (q 6) qh D F) [1, 2, 3, 4, 5, 6, 7, 8, 9, 10, 11] rfl
    refine ro_calli (va_runV (As := [.int set]) (rest := []) ⟨hx, hb, hml, hown, hts⟩ (c_X1_areSquares l G (q 6) qh D F set ) (cwV 1 hts gX3_save_X1_areSquares rfl rfl rfl (by decide +kernel) ⟨Nat.le_of_ble_eq_true rfl, Nat.le_of_ble_eq_true rfl⟩) (ro_preV hK hPc hP (ci := 1) (q0 := 1) rfl rfl) rfl rfl hl.1 rfl (lv_room (Nat.le_of_ble_eq_true rfl)) dX3_save_18 ⟨Nat.zero_le _, Nat.zero_le _⟩) (fun r_2 hr_2 => ?_)
    refine lv_if_eq (tgt := 33) hx hb dX3_save_21 (by decide) (fun c_21 => ?_) (fun c_21 => ?_)
    · skip
      have c_21 := b2_z hr_2 c_21
      refine lv_ldc hx hb hown hw3 dX3_save_33 ?_
      exact ro_iret hx hb hr hlk dX3_save_35 (rfl)
    · skip
      have c_21 := b2_n hr_2 c_21
      refine lv_iload_n hx hb dX3_save_24 rfl (lv_at hl 2 rfl) ?_
      refine lv_iconst (v := 0) hx hb dX3_save_25 (by decide) ?_
      refine lv_iconst (v := 1) hx hb dX3_save_26 (by decide) ?_
      refine ro_calli (va_runS (As := [.int what, .int 0, .int 1]) (rest := []) ⟨hx, hb, hml, hown, hts⟩ (c_X3_isIn l G what 0 1 ) (cwS 3 hts gX3_save_X3_isIn rfl rfl rfl (by decide +kernel) ⟨Nat.le_of_ble_eq_true rfl, Nat.le_of_ble_eq_true rfl⟩) (ro_pre hK (fun k q h => by simp at h)) rfl rfl hl.1 rfl (lv_room (Nat.le_of_ble_eq_true rfl)) dX3_save_27 ⟨Nat.zero_le _, Nat.zero_le _⟩) (fun r_3 hr_3 => ?_)
      refine lv_if_ne (tgt := 36) hx hb dX3_save_30 (by decide) (fun c_30 => ?_) (fun c_30 => ?_)
      · skip
        have c_30 := b2_n hr_3 c_30
        exact Bool.noConfusion (hbad.symm.trans (by rw [c_21, c_30] <;> rfl))
      · skip
        have c_30 := b2_z hr_3 c_30
        refine lv_ldc hx hb hown hw3 dX3_save_33 ?_
        exact ro_iret hx hb hr hlk dX3_save_35 (rfl)
  · skip
    have c_7 := b2_z hr_1 c_7
    exact Bool.noConfusion (hR.symm.trans c_7)
set_option maxHeartbeats 4000000 in
set_option maxRecDepth 100000 in
theorem c_X3_save_ok (l : Launch) (G : lzG) (x : Nat) (q : Nat → Nat) (S : Nat → Int32) (qh : Nat → Nat) (D : Nat → Int32) (F : Nat → Nat → Int32) (O : Nat) (what : Int32) (N M : Nat) (hN : D 2 = nI N) (hN8 : N ≤ 8) (hM : D 3 = nI M) (hM5 : M ≤ 5) (hR : (decide (0 < D 2) && decide (0 < D 3)) = true) (hO : O < 256) (hset : inR (nI O) 0 ((1 <<< (D 2 &&& 31)) - 1) = true) (hw : inR what 0 1 = true) : Met l yX3_save wsX3_save ({ frames := 6, cells := 0, slots := 0, locals := 137 }) (va_Pc [.ref x, .int (nI O), .int what] (rwP G (lzX x q S ++ lzDoor G (q 6) qh D F))) (va_Qi (S := Unit) (fun (r : Int32) (_ : Unit) => r = sizeB (fewD D (lzF F 13 (fa_fill (fun v => wrbD D F v N) (F 13) M)) (nI O) (gstD D F (nI O) N M) N M (O + 1)).1 what) (rwB G (fun _ : Unit => (lzX x q S ++ lzDoor G (q 6) qh D (lzF F 13 (fa_fill (fun v => wrbD D (lzF F 13 (fa_fill (fun v => wrbD D F v N) (F 13) M)) v N) (fa_fill (fun v => wrbD D F v N) (F 13) M) M))))) (lzA (lzX x q S ++ lzDoor G (q 6) qh D F))) 0 0 (lzA (lzX x q S ++ lzDoor G (q 6) qh D F)) := by
  refine rw_start (S := Unit) (cc := cX3_save) (maxL := 3) (ret := (some .int)) (by decide) rfl (Nat.le_of_ble_eq_true rfl) ?_
  intro pp ee ss mm bl me cd A hx hb hr hlk hml hts hown hP hK hD hAe hS ls hl
  have hA0 : ∀ zz : Nat, lzA (lzX x q S ++ lzDoor G (q 6) qh D F) zz → A zz := fun zz h9 => by rw [hAe]; exact h9
  rw [← hAe]
  clear hAe
  have hown : ss.vm.findClass RX3 = some mm.cls := hown
  have hw1 := hts (.fieldLink RX3 38 "LampSquares" "here" "LLampSquares$Door;") (List.mem_of_getElem? (i := 1) rfl)
  have hu_wsX30 : ∀ w ∈ wsX30, w.before ([.ref x, .int (nI O), .int what] : List Value).toArray ss = true := fun w h9 => hts w (List.mem_cons_of_mem _ (List.mem_append_left _ (List.mem_append_right _ h9)))
  have hl : lv_has ls 3 [(0, .ref x), (1, .int (nI O)), (2, .int what)] := hl
  refine lv_aload_n hx hb dX3_save_0 rfl (lv_at hl 0 rfl) ?_
  refine lz_get (G := G) (ci := 3) (v := .ref (q 6)) (C := RX3) (T := TX3) (N := 13) hx hb hu_wsX30 (fun _ h9 => h9) hown hK hP 0 rfl rfl 6 (by decide) hw1 rfl rfl dX3_save_1 ?_
  have hPc := hP.sub (ws' := lzDoor G (q 6) qh D F) [1, 2, 3, 4, 5, 6, 7, 8, 9, 10, 11] rfl
  refine ro_calli (va_runV (As := []) (rest := []) ⟨hx, hb, hml, hown, hts⟩ (c_X1_isRead l G (q 6) qh D F ) (cwV 0 hts gX3_save_X1_isRead rfl rfl rfl (by decide +kernel) ⟨Nat.le_of_ble_eq_true rfl, Nat.le_of_ble_eq_true rfl⟩) (ro_preV hK hPc hP (ci := 1) (q0 := 1) rfl rfl) rfl rfl hl.1 rfl (lv_room (Nat.le_of_ble_eq_true rfl)) dX3_save_4 ⟨Nat.zero_le _, Nat.zero_le _⟩) (fun r_1 hr_1 => ?_)
  refine lv_if_ne (tgt := 13) hx hb dX3_save_7 (by decide) (fun c_7 => ?_) (fun c_7 => ?_)
  · skip
    have c_7 := b2_n hr_1 c_7
    refine lv_aload_n hx hb dX3_save_13 rfl (lv_at hl 0 rfl) ?_
    refine lz_get (G := G) (ci := 3) (v := .ref (q 6)) (C := RX3) (T := TX3) (N := 13) hx hb hu_wsX30 (fun _ h9 => h9) hown hK hP 0 rfl rfl 6 (by decide) hw1 rfl rfl dX3_save_14 ?_
    refine lv_iload_n hx hb dX3_save_17 rfl (lv_at hl 1 rfl) ?_
    have hPc := hP.sub (ws' := lzDoor G (q 6) qh D F) [1, 2, 3, 4, 5, 6, 7, 8, 9, 10, 11] rfl
    refine ro_calli (va_runV (As := [.int (nI O)]) (rest := []) ⟨hx, hb, hml, hown, hts⟩ (c_X1_areSquares l G (q 6) qh D F (nI O) ) (cwV 1 hts gX3_save_X1_areSquares rfl rfl rfl (by decide +kernel) ⟨Nat.le_of_ble_eq_true rfl, Nat.le_of_ble_eq_true rfl⟩) (ro_preV hK hPc hP (ci := 1) (q0 := 1) rfl rfl) rfl rfl hl.1 rfl (lv_room (Nat.le_of_ble_eq_true rfl)) dX3_save_18 ⟨Nat.zero_le _, Nat.zero_le _⟩) (fun r_2 hr_2 => ?_)
    refine lv_if_eq (tgt := 33) hx hb dX3_save_21 (by decide) (fun c_21 => ?_) (fun c_21 => ?_)
    · skip
      have c_21 := b2_z hr_2 c_21
      exact Bool.noConfusion (hset.symm.trans c_21)
    · skip
      have c_21 := b2_n hr_2 c_21
      refine lv_iload_n hx hb dX3_save_24 rfl (lv_at hl 2 rfl) ?_
      refine lv_iconst (v := 0) hx hb dX3_save_25 (by decide) ?_
      refine lv_iconst (v := 1) hx hb dX3_save_26 (by decide) ?_
      refine ro_calli (va_runS (As := [.int what, .int 0, .int 1]) (rest := []) ⟨hx, hb, hml, hown, hts⟩ (c_X3_isIn l G what 0 1 ) (cwS 3 hts gX3_save_X3_isIn rfl rfl rfl (by decide +kernel) ⟨Nat.le_of_ble_eq_true rfl, Nat.le_of_ble_eq_true rfl⟩) (ro_pre hK (fun k q h => by simp at h)) rfl rfl hl.1 rfl (lv_room (Nat.le_of_ble_eq_true rfl)) dX3_save_27 ⟨Nat.zero_le _, Nat.zero_le _⟩) (fun r_3 hr_3 => ?_)
      refine lv_if_ne (tgt := 36) hx hb dX3_save_30 (by decide) (fun c_30 => ?_) (fun c_30 => ?_)
      · skip
        have c_30 := b2_n hr_3 c_30
        refine lv_aload_n hx hb dX3_save_36 rfl (lv_at hl 0 rfl) ?_
        refine lz_get (G := G) (ci := 3) (v := .ref (q 6)) (C := RX3) (T := TX3) (N := 13) hx hb hu_wsX30 (fun _ h9 => h9) hown hK hP 0 rfl rfl 6 (by decide) hw1 rfl rfl dX3_save_37 ?_
        refine lv_iload_n hx hb dX3_save_40 rfl (lv_at hl 1 rfl) ?_
        refine lv_aload_n hx hb dX3_save_41 rfl (lv_at hl 0 rfl) ?_
        refine lz_get (G := G) (ci := 3) (v := .ref (q 6)) (C := RX3) (T := TX3) (N := 13) hx hb hu_wsX30 (fun _ h9 => h9) hown hK hP 0 rfl rfl 6 (by decide) hw1 rfl rfl dX3_save_42 ?_
        refine lv_iload_n hx hb dX3_save_45 rfl (lv_at hl 1 rfl) ?_
        have hPc := hP.sub (ws' := lzDoor G (q 6) qh D F) [1, 2, 3, 4, 5, 6, 7, 8, 9, 10, 11] rfl
        have hDc := hD.sub (ws' := lzDoor G (q 6) qh D F) [1, 2, 3, 4, 5, 6, 7, 8, 9, 10, 11] (by decide) rfl
        have hFc : ∀ zz : Nat, lzA (lzDoor G (q 6) qh D F) zz → A zz := lz_free hD [1, 2, 3, 4, 5, 6, 7, 8, 9, 10, 11] rfl
        refine va_calli (va_runV (As := [.int (nI O)]) (rest := [.int (nI O), .ref (q 6)]) ⟨hx, hb, hml, hown, hts⟩ (c_X1_guestBits l G (q 6) qh D F (nI O) N M (hN) (hN8) (hM) (hM5)) (cwV 1 hts gX3_save_X1_guestBits rfl rfl rfl (by decide +kernel) ⟨Nat.le_of_ble_eq_true rfl, Nat.le_of_ble_eq_true rfl⟩) (rw_preV hK hPc hDc hP (ci := 1) (q0 := 1) rfl rfl) rfl rfl hl.1 rfl (lv_room (Nat.le_of_ble_eq_true rfl)) dX3_save_46 ⟨Nat.zero_le _, Nat.zero_le _⟩) hS (fun q _ h => hFc q h) hFc (fun r_4 u_5 t9 H1 locs ht hvm hr_4 hB hz1 hk1 hS => ?_)
        replace hB : va_P G.1 lzC _ t9.heap := hB
        rw [ht] at hB
        obtain ⟨hP, hD⟩ := lz_join (wc := lzDoor G (q 6) qh D F) (wr := ([(x, .inr (3, [.ref (q 0), .ref (q 1), .ref (q 2), .int (S 3), .ref (q 4), .int (S 5), .ref (q 6), .ref (q 7), .ref (q 8), .ref (q 9), .ref (q 10), .int (S 11), .ref (q 12)]))] : va_W)) (w1 := lzDoor G (q 6) qh D (lzF F 13 (fa_fill (fun v => wrbD D F v N) ((F 13)) M))) hP hD [1, 2, 3, 4, 5, 6, 7, 8, 9, 10, 11] [0] rfl rfl (by decide) (by decide) rfl hk1 hB
        replace hP := hP.sub (ws' := (lzX x q S ++ lzDoor G (q 6) qh D (lzF F 13 (fa_fill (fun v => wrbD D F v N) ((F 13)) M)))) [0, 1, 2, 3, 4, 5, 6, 7, 8, 9, 10, 11] rfl
        replace hD := hD.sub (ws' := (lzX x q S ++ lzDoor G (q 6) qh D (lzF F 13 (fa_fill (fun v => wrbD D F v N) ((F 13)) M)))) [0, 1, 2, 3, 4, 5, 6, 7, 8, 9, 10, 11] (by decide) rfl
        clear ht hvm hB hz1 hk1
        generalize H1 = H at hP hS ⊢
        refine lz_top (y := gstD D F (nI O) N M) hr_4 ?_
        have hPc := hP.sub (ws' := lzDoor G (q 6) qh D (lzF F 13 (fa_fill (fun v => wrbD D F v N) ((F 13)) M))) [1, 2, 3, 4, 5, 6, 7, 8, 9, 10, 11] rfl
        have hDc := hD.sub (ws' := lzDoor G (q 6) qh D (lzF F 13 (fa_fill (fun v => wrbD D F v N) ((F 13)) M))) [1, 2, 3, 4, 5, 6, 7, 8, 9, 10, 11] (by decide) rfl
        have hFc : ∀ zz : Nat, lzA (lzDoor G (q 6) qh D (lzF F 13 (fa_fill (fun v => wrbD D F v N) ((F 13)) M))) zz → A zz := lz_free hD [1, 2, 3, 4, 5, 6, 7, 8, 9, 10, 11] rfl
        refine va_calli (va_runV (As := [.int (nI O), .int (gstD D F (nI O) N M)]) (rest := []) ⟨hx, hb, hml, hown, hts⟩ (c_X1_fewestWithin l G (q 6) qh D (lzF F 13 (fa_fill (fun v => wrbD D F v N) ((F 13)) M)) O (gstD D F (nI O) N M) N M (hN) (hN8) (hM) (hM5) (hO)) (cwV 2 hts gX3_save_X1_fewestWithin rfl rfl rfl (by decide +kernel) ⟨Nat.le_of_ble_eq_true rfl, Nat.le_of_ble_eq_true rfl⟩) (rw_preV hK hPc hDc hP (ci := 1) (q0 := 1) rfl rfl) rfl rfl hl.1 rfl (lv_room (Nat.le_of_ble_eq_true rfl)) dX3_save_49 ⟨Nat.zero_le _, Nat.zero_le _⟩) hS (fun q _ h => hFc q h) hFc (fun r_6 u_7 t9 H1 locs ht hvm hr_6 hB hz1 hk1 hS => ?_)
        replace hB : va_P G.1 lzC _ t9.heap := hB
        rw [ht] at hB
        obtain ⟨hP, hD⟩ := lz_join (wc := lzDoor G (q 6) qh D (lzF F 13 (fa_fill (fun v => wrbD D F v N) ((F 13)) M))) (wr := ([(x, .inr (3, [.ref (q 0), .ref (q 1), .ref (q 2), .int (S 3), .ref (q 4), .int (S 5), .ref (q 6), .ref (q 7), .ref (q 8), .ref (q 9), .ref (q 10), .int (S 11), .ref (q 12)]))] : va_W)) (w1 := lzDoor G (q 6) qh D (lzF F 13 (fa_fill (fun v => wrbD D (lzF F 13 (fa_fill (fun v => wrbD D F v N) ((F 13)) M)) v N) ((fa_fill (fun v => wrbD D F v N) ((F 13)) M)) M))) hP hD [1, 2, 3, 4, 5, 6, 7, 8, 9, 10, 11] [0] rfl rfl (by decide) (by decide) rfl hk1 hB
        replace hP := hP.sub (ws' := (lzX x q S ++ lzDoor G (q 6) qh D (lzF F 13 (fa_fill (fun v => wrbD D (lzF F 13 (fa_fill (fun v => wrbD D F v N) ((F 13)) M)) v N) ((fa_fill (fun v => wrbD D F v N) ((F 13)) M)) M)))) [0, 1, 2, 3, 4, 5, 6, 7, 8, 9, 10, 11] rfl
        replace hD := hD.sub (ws' := (lzX x q S ++ lzDoor G (q 6) qh D (lzF F 13 (fa_fill (fun v => wrbD D (lzF F 13 (fa_fill (fun v => wrbD D F v N) ((F 13)) M)) v N) ((fa_fill (fun v => wrbD D F v N) ((F 13)) M)) M)))) [0, 1, 2, 3, 4, 5, 6, 7, 8, 9, 10, 11] (by decide) rfl
        clear ht hvm hB hz1 hk1
        generalize H1 = H at hP hS ⊢
        refine lz_top (y := (fewD D (lzF F 13 (fa_fill (fun v => wrbD D F v N) ((F 13)) M)) (nI O) (gstD D F (nI O) N M) N M (O + 1)).1) hr_6 ?_
        refine lv_iload_n hx hb dX3_save_52 rfl (lv_at hl 2 rfl) ?_
        refine ro_calli (va_runS (As := [.int ((fewD D (lzF F 13 (fa_fill (fun v => wrbD D F v N) ((F 13)) M)) (nI O) (gstD D F (nI O) N M) N M (O + 1)).1), .int what]) (rest := []) ⟨hx, hb, hml, hown, hts⟩ (c_X3_sizeOrBits l G ((fewD D (lzF F 13 (fa_fill (fun v => wrbD D F v N) ((F 13)) M)) (nI O) (gstD D F (nI O) N M) N M (O + 1)).1) what ) (cwS 2 hts gX3_save_X3_sizeOrBits rfl rfl rfl (by decide +kernel) ⟨Nat.le_of_ble_eq_true rfl, Nat.le_of_ble_eq_true rfl⟩) (ro_pre hK (fun k q h => by simp at h)) rfl rfl hl.1 rfl (lv_room (Nat.le_of_ble_eq_true rfl)) dX3_save_53 ⟨Nat.zero_le _, Nat.zero_le _⟩) (fun r_8 hr_8 => ?_)
        refine lz_top (y := sizeB ((fewD D (lzF F 13 (fa_fill (fun v => wrbD D F v N) ((F 13)) M)) (nI O) (gstD D F (nI O) N M) N M (O + 1)).1) what) hr_8 ?_
        exact rw_iret (S := Unit) (G := G) (Wd := fun _ : Unit => (lzX x q S ++ lzDoor G (q 6) qh D (lzF F 13 (fa_fill (fun v => wrbD D (lzF F 13 (fa_fill (fun v => wrbD D F v N) (F 13) M)) v N) (fa_fill (fun v => wrbD D F v N) (F 13) M) M)))) () hx hb hr hlk dX3_save_56 hS (hP) (rfl)
      · skip
        have c_30 := b2_z hr_3 c_30
        exact Bool.noConfusion (hw.symm.trans c_30)
  · skip
    have c_7 := b2_z hr_1 c_7
    exact Bool.noConfusion (hR.symm.trans c_7)
set_option maxHeartbeats 4000000 in
set_option maxRecDepth 100000 in
theorem c_X3_row_bad (l : Launch) (G : lzG) (x : Nat) (q : Nat → Nat) (S : Nat → Int32) (a lx n : Int32) (hbad : (inR a 0 7 && inR lx 0 2 && decide (n ≤ 40)) = false) : Met l yX3_row wsX3_row ({ frames := 2, cells := 0, slots := 0, locals := 42 }) (va_Pc [.ref x, .int a, .int lx, .int n] (roP G (lzX x q S))) (vp_Si (fun r => r = -1000001)) 0 0 (fun _ => False) := by
  refine ro_start (cc := cX3_row) (maxL := 4) (ret := (some .int)) (by decide) rfl (Nat.le_of_ble_eq_true rfl) ?_
  intro pp ee ss mm bl me cd hx hb hr hlk hml hts hown hP hK ls hl
  have hown : ss.vm.findClass RX3 = some mm.cls := hown
  have hw1 := hts (.constant RX3 81 (-1000001)) (List.mem_of_getElem? (i := 1) rfl)
  have hl : lv_has ls 4 [(0, .ref x), (1, .int a), (2, .int lx), (3, .int n)] := hl
  refine lv_iload_n hx hb dX3_row_0 rfl (lv_at hl 1 rfl) ?_
  refine ro_calli (va_runS (As := [.int a]) (rest := []) ⟨hx, hb, hml, hown, hts⟩ (c_X3_isRow l G a ) (cwS 1 hts gX3_row_X3_isRow rfl rfl rfl (by decide +kernel) ⟨Nat.le_of_ble_eq_true rfl, Nat.le_of_ble_eq_true rfl⟩) (ro_pre hK (fun k q h => by simp at h)) rfl rfl hl.1 rfl (lv_room (Nat.le_of_ble_eq_true rfl)) dX3_row_1 ⟨Nat.zero_le _, Nat.zero_le _⟩) (fun r_1 hr_1 => ?_)
  refine lv_if_eq (tgt := 22) hx hb dX3_row_4 (by decide) (fun c_4 => ?_) (fun c_4 => ?_)
  · skip
    have c_4 := b2_z hr_1 c_4
    refine lv_ldc hx hb hown hw1 dX3_row_22 ?_
    exact ro_iret hx hb hr hlk dX3_row_24 (rfl)
  · skip
    have c_4 := b2_n hr_1 c_4
    refine lv_iload_n hx hb dX3_row_7 rfl (lv_at hl 2 rfl) ?_
    refine lv_iconst (v := 0) hx hb dX3_row_8 (by decide) ?_
    refine lv_iconst (v := 2) hx hb dX3_row_9 (by decide) ?_
    refine ro_calli (va_runS (As := [.int lx, .int 0, .int 2]) (rest := []) ⟨hx, hb, hml, hown, hts⟩ (c_X3_isIn l G lx 0 2 ) (cwS 3 hts gX3_row_X3_isIn rfl rfl rfl (by decide +kernel) ⟨Nat.le_of_ble_eq_true rfl, Nat.le_of_ble_eq_true rfl⟩) (ro_pre hK (fun k q h => by simp at h)) rfl rfl hl.1 rfl (lv_room (Nat.le_of_ble_eq_true rfl)) dX3_row_10 ⟨Nat.zero_le _, Nat.zero_le _⟩) (fun r_2 hr_2 => ?_)
    refine lv_if_eq (tgt := 22) hx hb dX3_row_13 (by decide) (fun c_13 => ?_) (fun c_13 => ?_)
    · skip
      have c_13 := b2_z hr_2 c_13
      refine lv_ldc hx hb hown hw1 dX3_row_22 ?_
      exact ro_iret hx hb hr hlk dX3_row_24 (rfl)
    · skip
      have c_13 := b2_n hr_2 c_13
      refine lv_iload_n hx hb dX3_row_16 rfl (lv_at hl 3 rfl) ?_
      refine lv_bipush (v := 40) hx hb dX3_row_17 (by decide) ?_
      refine lv_icmp_le (tgt := 25) hx hb dX3_row_19 (by decide) (fun c_19 => ?_) (fun c_19 => ?_)
      · skip
        have c_19' := Int32.not_lt.mpr c_19
        exact Bool.noConfusion (hbad.symm.trans (by rw [c_4, c_13, decide_eq_true c_19] <;> rfl))
      · skip
        have c_19' := Int32.not_le.mp c_19
        refine lv_ldc hx hb hown hw1 dX3_row_22 ?_
        exact ro_iret hx hb hr hlk dX3_row_24 (rfl)
set_option maxHeartbeats 4000000 in
set_option maxRecDepth 100000 in
theorem c_X3_row_size (l : Launch) (G : lzG) (x : Nat) (q : Nat → Nat) (S : Nat → Int32) (rr : Nat) (lx n : Int32) (hrw : rr < 8) (hlx : inR lx 0 2 = true) (h40 : n ≤ 40) (hn : n < 0) : Met l yX3_row wsX3_row ({ frames := 2, cells := 0, slots := 0, locals := 42 }) (va_Pc [.ref x, .int (nI rr), .int lx, .int n] (rwP G (lzX x q S))) (va_Qi (S := Unit) (fun (r : Int32) (_ : Unit) => r = -1000014) (rwB G (fun _ : Unit => lzX x q (upd S 3 4))) (lzA (lzX x q S))) 0 0 (lzA (lzX x q S)) := by
  have hA : inR (nI rr) 0 7 = true := inR_row hrw
  refine rw_start (S := Unit) (cc := cX3_row) (maxL := 4) (ret := (some .int)) (by decide) rfl (Nat.le_of_ble_eq_true rfl) ?_
  intro pp ee ss mm bl me cd A hx hb hr hlk hml hts hown hP hK hD hAe hS ls hl
  have hA0 : ∀ zz : Nat, lzA (lzX x q S) zz → A zz := fun zz h9 => by rw [hAe]; exact h9
  rw [← hAe]
  clear hAe
  have hown : ss.vm.findClass RX3 = some mm.cls := hown
  have hl : lv_has ls 4 [(0, .ref x), (1, .int (nI rr)), (2, .int lx), (3, .int n)] := hl
  refine lv_iload_n hx hb dX3_row_0 rfl (lv_at hl 1 rfl) ?_
  refine ro_calli (va_runS (As := [.int (nI rr)]) (rest := []) ⟨hx, hb, hml, hown, hts⟩ (c_X3_isRow l G (nI rr) ) (cwS 1 hts gX3_row_X3_isRow rfl rfl rfl (by decide +kernel) ⟨Nat.le_of_ble_eq_true rfl, Nat.le_of_ble_eq_true rfl⟩) (ro_pre hK (fun k q h => by simp at h)) rfl rfl hl.1 rfl (lv_room (Nat.le_of_ble_eq_true rfl)) dX3_row_1 ⟨Nat.zero_le _, Nat.zero_le _⟩) (fun r_1 hr_1 => ?_)
  refine lv_if_eq (tgt := 22) hx hb dX3_row_4 (by decide) (fun c_4 => ?_) (fun c_4 => ?_)
  · skip
    have c_4 := b2_z hr_1 c_4
    exact Bool.noConfusion (hA.symm.trans c_4)
  · skip
    have c_4 := b2_n hr_1 c_4
    refine lv_iload_n hx hb dX3_row_7 rfl (lv_at hl 2 rfl) ?_
    refine lv_iconst (v := 0) hx hb dX3_row_8 (by decide) ?_
    refine lv_iconst (v := 2) hx hb dX3_row_9 (by decide) ?_
    refine ro_calli (va_runS (As := [.int lx, .int 0, .int 2]) (rest := []) ⟨hx, hb, hml, hown, hts⟩ (c_X3_isIn l G lx 0 2 ) (cwS 3 hts gX3_row_X3_isIn rfl rfl rfl (by decide +kernel) ⟨Nat.le_of_ble_eq_true rfl, Nat.le_of_ble_eq_true rfl⟩) (ro_pre hK (fun k q h => by simp at h)) rfl rfl hl.1 rfl (lv_room (Nat.le_of_ble_eq_true rfl)) dX3_row_10 ⟨Nat.zero_le _, Nat.zero_le _⟩) (fun r_2 hr_2 => ?_)
    refine lv_if_eq (tgt := 22) hx hb dX3_row_13 (by decide) (fun c_13 => ?_) (fun c_13 => ?_)
    · skip
      have c_13 := b2_z hr_2 c_13
      exact Bool.noConfusion (hlx.symm.trans c_13)
    · skip
      have c_13 := b2_n hr_2 c_13
      refine lv_iload_n hx hb dX3_row_16 rfl (lv_at hl 3 rfl) ?_
      refine lv_bipush (v := 40) hx hb dX3_row_17 (by decide) ?_
      refine lv_icmp_le (tgt := 25) hx hb dX3_row_19 (by decide) (fun c_19 => ?_) (fun c_19 => ?_)
      · skip
        have c_19' := Int32.not_lt.mpr c_19
        refine lv_iload_n hx hb dX3_row_25 rfl (lv_at hl 3 rfl) ?_
        refine lv_if_ge (tgt := 35) hx hb dX3_row_26 (by decide) (fun c_26 => ?_) (fun c_26 => ?_)
        · skip
          have c_26' := Int32.not_lt.mpr c_26
          exact absurd hn (Int32.not_lt.mpr c_26)
        · skip
          have c_26' := Int32.not_le.mp c_26
          refine lv_aload_n hx hb dX3_row_29 rfl (lv_at hl 0 rfl) ?_
          refine lv_iconst (v := 4) hx hb dX3_row_30 (by decide) ?_
          have hFc : ∀ zz : Nat, lzA (lzX x q S) zz → A zz := lz_free hD [0] rfl
          refine va_calli (va_runV (As := [.int 4]) (rest := []) ⟨hx, hb, hml, hown, hts⟩ (c_X3_found l G x q S 4 ) (cwV 1 hts gX3_row_X3_found rfl rfl rfl (by decide +kernel) ⟨Nat.le_of_ble_eq_true rfl, Nat.le_of_ble_eq_true rfl⟩) (rw_preV hK hP hD hP (ci := 3) (q0 := 0) rfl rfl) rfl rfl hl.1 rfl (lv_room (Nat.le_of_ble_eq_true rfl)) dX3_row_31 ⟨Nat.zero_le _, Nat.zero_le _⟩) hS (fun q _ h => hFc q h) hFc (fun r_3 u_4 t9 H1 locs ht hvm hr_3 hB hz1 hk1 hS => ?_)
          replace hB : va_P G.1 lzC _ t9.heap := hB
          rw [ht] at hB
          obtain ⟨hP, hD⟩ := lz_join (wc := lzX x q S) (wr := ([] : va_W)) (w1 := lzX x q (upd S 3 4)) hP hD [0] [] rfl rfl (by decide) (by decide) rfl hk1 hB
          replace hP := hP.sub (ws' := lzX x q (upd S 3 4)) [0] rfl
          replace hD := hD.sub (ws' := lzX x q (upd S 3 4)) [0] (by decide) rfl
          clear ht hvm hB hz1 hk1
          generalize H1 = H at hP hS ⊢
          refine lz_top (y := -1000010 - 4) hr_3 ?_
          exact rw_iret (S := Unit) (G := G) (Wd := fun _ : Unit => lzX x q (upd S 3 4)) () hx hb hr hlk dX3_row_34 hS (hP) (rfl)
      · skip
        have c_19' := Int32.not_le.mp c_19
        exact absurd h40 c_19
set_option maxHeartbeats 4000000 in
set_option maxRecDepth 100000 in
theorem c_X3_row_ok (l : Launch) (G : lzG) (x : Nat) (q : Nat → Nat) (S la ln : Nat → Int32) (ih : Nat → Nat) (rr : Nat) (g : Nat → Int32) (lx n : Int32) (hrw : rr < 8) (hlx : inR lx 0 2 = true) (h40 : n ≤ 40) (hn : 0 ≤ n) : Met l yX3_row wsX3_row ({ frames := 2, cells := 0, slots := 0, locals := 42 }) (va_Pc [.ref x, .int (nI rr), .int lx, .int n] (rwP G (lzX x q S ++ (lzI G (q 1) 8 la ++ (lzI G (q 2) 8 ln ++ (lzQ G 4 (q 0) 8 (fun i => some (ih i)) ++ (lzI G (ih rr) 40 g))))))) (va_Qi (S := Unit) (fun (r : Int32) (_ : Unit) => r = n) (rwB G (fun _ : Unit => (lzX x q (upd S 3 0) ++ (lzI G (q 1) 8 (upd la rr lx) ++ (lzI G (q 2) 8 (upd ln rr n) ++ (lzQ G 4 (q 0) 8 (fun i => some (ih i)) ++ (lzI G (ih rr) 40 (fa_fill (fun _ => 0) g 40)))))))) (lzA (lzX x q S ++ (lzI G (q 1) 8 la ++ (lzI G (q 2) 8 ln ++ (lzQ G 4 (q 0) 8 (fun i => some (ih i)) ++ (lzI G (ih rr) 40 g))))))) 0 0 (lzA (lzX x q S ++ (lzI G (q 1) 8 la ++ (lzI G (q 2) 8 ln ++ (lzQ G 4 (q 0) 8 (fun i => some (ih i)) ++ (lzI G (ih rr) 40 g)))))) := by
  have hA : inR (nI rr) 0 7 = true := inR_row hrw
  refine rw_start (S := Unit) (cc := cX3_row) (maxL := 4) (ret := (some .int)) (by decide) rfl (Nat.le_of_ble_eq_true rfl) ?_
  intro pp ee ss mm bl me cd A hx hb hr hlk hml hts hown hP hK hD hAe hS ls hl
  have hA0 : ∀ zz : Nat, lzA (lzX x q S ++ (lzI G (q 1) 8 la ++ (lzI G (q 2) 8 ln ++ (lzQ G 4 (q 0) 8 (fun i => some (ih i)) ++ (lzI G (ih rr) 40 g))))) zz → A zz := fun zz h9 => by rw [hAe]; exact h9
  rw [← hAe]
  clear hAe
  have hown : ss.vm.findClass RX3 = some mm.cls := hown
  have hw2 := hts (.fieldLink RX3 21 "LampSquares" "finding" "I") (List.mem_of_getElem? (i := 2) rfl)
  have hw3 := hts (.fieldLink RX3 14 "LampSquares" "lanes" "[I") (List.mem_of_getElem? (i := 3) rfl)
  have hw4 := hts (.fieldLink RX3 18 "LampSquares" "lengths" "[I") (List.mem_of_getElem? (i := 4) rfl)
  have hw5 := hts (.fieldLink RX3 11 "LampSquares" "items" "[[I") (List.mem_of_getElem? (i := 5) rfl)
  have hu_wsX30 : ∀ w ∈ wsX30, w.before ([.ref x, .int (nI rr), .int lx, .int n] : List Value).toArray ss = true := fun w h9 => hts w (List.mem_cons_of_mem _ (List.mem_append_right _ h9))
  have hl : lv_has ls 4 [(0, .ref x), (1, .int (nI rr)), (2, .int lx), (3, .int n)] := hl
  refine lv_iload_n hx hb dX3_row_0 rfl (lv_at hl 1 rfl) ?_
  refine ro_calli (va_runS (As := [.int (nI rr)]) (rest := []) ⟨hx, hb, hml, hown, hts⟩ (c_X3_isRow l G (nI rr) ) (cwS 1 hts gX3_row_X3_isRow rfl rfl rfl (by decide +kernel) ⟨Nat.le_of_ble_eq_true rfl, Nat.le_of_ble_eq_true rfl⟩) (ro_pre hK (fun k q h => by simp at h)) rfl rfl hl.1 rfl (lv_room (Nat.le_of_ble_eq_true rfl)) dX3_row_1 ⟨Nat.zero_le _, Nat.zero_le _⟩) (fun r_1 hr_1 => ?_)
  refine lv_if_eq (tgt := 22) hx hb dX3_row_4 (by decide) (fun c_4 => ?_) (fun c_4 => ?_)
  · skip
    have c_4 := b2_z hr_1 c_4
    exact Bool.noConfusion (hA.symm.trans c_4)
  · skip
    have c_4 := b2_n hr_1 c_4
    refine lv_iload_n hx hb dX3_row_7 rfl (lv_at hl 2 rfl) ?_
    refine lv_iconst (v := 0) hx hb dX3_row_8 (by decide) ?_
    refine lv_iconst (v := 2) hx hb dX3_row_9 (by decide) ?_
    refine ro_calli (va_runS (As := [.int lx, .int 0, .int 2]) (rest := []) ⟨hx, hb, hml, hown, hts⟩ (c_X3_isIn l G lx 0 2 ) (cwS 3 hts gX3_row_X3_isIn rfl rfl rfl (by decide +kernel) ⟨Nat.le_of_ble_eq_true rfl, Nat.le_of_ble_eq_true rfl⟩) (ro_pre hK (fun k q h => by simp at h)) rfl rfl hl.1 rfl (lv_room (Nat.le_of_ble_eq_true rfl)) dX3_row_10 ⟨Nat.zero_le _, Nat.zero_le _⟩) (fun r_2 hr_2 => ?_)
    refine lv_if_eq (tgt := 22) hx hb dX3_row_13 (by decide) (fun c_13 => ?_) (fun c_13 => ?_)
    · skip
      have c_13 := b2_z hr_2 c_13
      exact Bool.noConfusion (hlx.symm.trans c_13)
    · skip
      have c_13 := b2_n hr_2 c_13
      refine lv_iload_n hx hb dX3_row_16 rfl (lv_at hl 3 rfl) ?_
      refine lv_bipush (v := 40) hx hb dX3_row_17 (by decide) ?_
      refine lv_icmp_le (tgt := 25) hx hb dX3_row_19 (by decide) (fun c_19 => ?_) (fun c_19 => ?_)
      · skip
        have c_19' := Int32.not_lt.mpr c_19
        refine lv_iload_n hx hb dX3_row_25 rfl (lv_at hl 3 rfl) ?_
        refine lv_if_ge (tgt := 35) hx hb dX3_row_26 (by decide) (fun c_26 => ?_) (fun c_26 => ?_)
        · skip
          have c_26' := Int32.not_lt.mpr c_26
          refine lv_aload_n hx hb dX3_row_35 rfl (lv_at hl 0 rfl) ?_
          refine lv_iconst (v := 0) hx hb dX3_row_36 (by decide) ?_
          refine lz_put (G := G) (ci := 3) (C := RX3) (T := TX3) (N := 13) hx hb hu_wsX30 (fun _ h9 => h9) tyX3 tyX3_ok nmX3 hown hK hP hD hS 0 rfl rfl 3 (by decide) hw2 rfl rfl (by decide +kernel) (Nat.le_of_ble_eq_true rfl) dX3_row_37 (lzX x q (upd S 3 0) ++ (lzI G (q 1) 8 la ++ (lzI G (q 2) 8 ln ++ (lzQ G 4 (q 0) 8 (fun i => some (ih i)) ++ (lzI G (ih rr) 40 g))))) rfl (fun H locs hP hD hS => ?_)
          refine lv_aload_n hx hb dX3_row_40 rfl (lv_at hl 0 rfl) ?_
          refine lz_get (G := G) (ci := 3) (v := .ref (q 1)) (C := RX3) (T := TX3) (N := 13) hx hb hu_wsX30 (fun _ h9 => h9) hown hK hP 0 rfl rfl 1 (by decide) hw3 rfl rfl dX3_row_41 ?_
          refine lv_iload_n hx hb dX3_row_44 rfl (lv_at hl 1 rfl) ?_
          refine lv_iload_n hx hb dX3_row_45 rfl (lv_at hl 2 rfl) ?_
          refine lz_iast (f := la) hx hb hK hP hD hS 1 rfl rr (by omega) (Nat.le_of_ble_eq_true rfl) dX3_row_46 (lzX x q (upd S 3 0) ++ (lzI G (q 1) 8 (upd la rr lx) ++ (lzI G (q 2) 8 ln ++ (lzQ G 4 (q 0) 8 (fun i => some (ih i)) ++ (lzI G (ih rr) 40 g))))) rfl (fun H locs hP hD hS => ?_)
          refine lv_aload_n hx hb dX3_row_47 rfl (lv_at hl 0 rfl) ?_
          refine lz_get (G := G) (ci := 3) (v := .ref (q 2)) (C := RX3) (T := TX3) (N := 13) hx hb hu_wsX30 (fun _ h9 => h9) hown hK hP 0 rfl rfl 2 (by decide) hw4 rfl rfl dX3_row_48 ?_
          refine lv_iload_n hx hb dX3_row_51 rfl (lv_at hl 1 rfl) ?_
          refine lv_iload_n hx hb dX3_row_52 rfl (lv_at hl 3 rfl) ?_
          refine lz_iast (f := ln) hx hb hK hP hD hS 2 rfl rr (by omega) (Nat.le_of_ble_eq_true rfl) dX3_row_53 (lzX x q (upd S 3 0) ++ (lzI G (q 1) 8 (upd la rr lx) ++ (lzI G (q 2) 8 (upd ln rr n) ++ (lzQ G 4 (q 0) 8 (fun i => some (ih i)) ++ (lzI G (ih rr) 40 g))))) rfl (fun H locs hP hD hS => ?_)
          refine lv_aload_n hx hb dX3_row_54 rfl (lv_at hl 0 rfl) ?_
          refine lz_get (G := G) (ci := 3) (v := .ref (q 0)) (C := RX3) (T := TX3) (N := 13) hx hb hu_wsX30 (fun _ h9 => h9) hown hK hP 0 rfl rfl 0 (by decide) hw5 rfl rfl dX3_row_55 ?_
          refine lv_iload_n hx hb dX3_row_58 rfl (lv_at hl 1 rfl) ?_
          refine lz_aaldI (f := fun i => some (ih i)) hx hb hK hP 3 rfl rr (ih rr) rfl (by omega) (Nat.le_of_ble_eq_true rfl) dX3_row_59 ?_
          refine lv_iconst (v := 0) hx hb dX3_row_60 (by decide) ?_
          have hPc := hP.sub (ws' := lzI G (ih rr) 40 g) [4] rfl
          have hDc := hD.sub (ws' := lzI G (ih rr) 40 g) [4] (by decide) rfl
          have hFc : ∀ zz : Nat, lzA (lzI G (ih rr) 40 g) zz → A zz := lz_free hD [4] rfl
          refine va_callv (va_runS (As := [.ref (ih rr), .int 0]) (rest := []) ⟨hx, hb, hml, hown, hts⟩ (c_J7_fill_53178 l G (ih rr) 40 g 0 (by decide)) (va_cwS 2 hts gX3_row_J7_fill_53178 rfl rfl rfl (by decide +kernel) ⟨Nat.le_of_ble_eq_true rfl, Nat.le_of_ble_eq_true rfl⟩) (rw_pre hK hPc hDc) rfl rfl hl.1 rfl (lv_room (Nat.le_of_ble_eq_true rfl)) dX3_row_61 ⟨Nat.zero_le _, Nat.zero_le _⟩) hS (fun q _ h => hFc q h) hFc (fun u_4 t9 H1 locs ht hvm hr_3 hB hz1 hk1 hS => ?_)
          replace hB : va_P G.1 lzC _ t9.heap := hB
          rw [ht] at hB
          obtain ⟨hP, hD⟩ := lz_join (wc := lzI G (ih rr) 40 g) (wr := ([(x, .inr (3, [.ref (q 0), .ref (q 1), .ref (q 2), .int 0, .ref (q 4), .int (S 5), .ref (q 6), .ref (q 7), .ref (q 8), .ref (q 9), .ref (q 10), .int (S 11), .ref (q 12)])), (q 1, .inl (G.2 0, 8, .inl (upd la rr lx))), (q 2, .inl (G.2 0, 8, .inl (upd ln rr n))), (q 0, .inl (G.2 4, 8, .inr (.inr (.inr (.inr (fun i => some (ih i)))))))] : va_W)) (w1 := lzI G (ih rr) 40 (fa_fill (fun _ => 0) g 40)) hP hD [4] [0, 1, 2, 3] rfl rfl (by decide) (by decide) rfl hk1 hB
          replace hP := hP.sub (ws' := (lzX x q (upd S 3 0) ++ (lzI G (q 1) 8 (upd la rr lx) ++ (lzI G (q 2) 8 (upd ln rr n) ++ (lzQ G 4 (q 0) 8 (fun i => some (ih i)) ++ (lzI G (ih rr) 40 (fa_fill (fun _ => 0) g 40))))))) [0, 1, 2, 3, 4] rfl
          replace hD := hD.sub (ws' := (lzX x q (upd S 3 0) ++ (lzI G (q 1) 8 (upd la rr lx) ++ (lzI G (q 2) 8 (upd ln rr n) ++ (lzQ G 4 (q 0) 8 (fun i => some (ih i)) ++ (lzI G (ih rr) 40 (fa_fill (fun _ => 0) g 40))))))) [0, 1, 2, 3, 4] (by decide) rfl
          clear ht hvm hB hz1 hk1
          generalize H1 = H at hP hS ⊢
          refine lv_iload_n hx hb dX3_row_64 rfl (lv_at hl 3 rfl) ?_
          exact rw_iret (S := Unit) (G := G) (Wd := fun _ : Unit => (lzX x q (upd S 3 0) ++ (lzI G (q 1) 8 (upd la rr lx) ++ (lzI G (q 2) 8 (upd ln rr n) ++ (lzQ G 4 (q 0) 8 (fun i => some (ih i)) ++ (lzI G (ih rr) 40 (fa_fill (fun _ => 0) g 40))))))) () hx hb hr hlk dX3_row_65 hS (hP) (rfl)
        · skip
          have c_26' := Int32.not_le.mp c_26
          exact absurd hn c_26
      · skip
        have c_19' := Int32.not_le.mp c_19
        exact absurd h40 c_19
set_option maxHeartbeats 4000000 in
set_option maxRecDepth 100000 in
theorem c_X3_set_bad (l : Launch) (G : lzG) (x : Nat) (q : Nat → Nat) (S : Nat → Int32) (a i v : Int32) (hbad : inR a 0 7 = false) : Met l yX3_set wsX3_set ({ frames := 2, cells := 0, slots := 0, locals := 42 }) (va_Pc [.ref x, .int a, .int i, .int v] (roP G (lzX x q S))) (vp_Si (fun r => r = -1000001)) 0 0 (fun _ => False) := by
  refine ro_start (cc := cX3_set) (maxL := 6) (ret := (some .int)) (by decide) rfl (Nat.le_of_ble_eq_true rfl) ?_
  intro pp ee ss mm bl me cd hx hb hr hlk hml hts hown hP hK ls hl
  have hown : ss.vm.findClass RX3 = some mm.cls := hown
  have hw1 := hts (.constant RX3 81 (-1000001)) (List.mem_of_getElem? (i := 1) rfl)
  have hl : lv_has ls 6 [(0, .ref x), (1, .int a), (2, .int i), (3, .int v)] := hl
  refine lv_iload_n hx hb dX3_set_0 rfl (lv_at hl 1 rfl) ?_
  refine ro_calli (va_runS (As := [.int a]) (rest := []) ⟨hx, hb, hml, hown, hts⟩ (c_X3_isRow l G a ) (cwS 1 hts gX3_set_X3_isRow rfl rfl rfl (by decide +kernel) ⟨Nat.le_of_ble_eq_true rfl, Nat.le_of_ble_eq_true rfl⟩) (ro_pre hK (fun k q h => by simp at h)) rfl rfl hl.1 rfl (lv_room (Nat.le_of_ble_eq_true rfl)) dX3_set_1 ⟨Nat.zero_le _, Nat.zero_le _⟩) (fun r_1 hr_1 => ?_)
  refine lv_if_ne (tgt := 10) hx hb dX3_set_4 (by decide) (fun c_4 => ?_) (fun c_4 => ?_)
  · skip
    have c_4 := b2_n hr_1 c_4
    exact Bool.noConfusion (hbad.symm.trans c_4)
  · skip
    have c_4 := b2_z hr_1 c_4
    refine lv_ldc hx hb hown hw1 dX3_set_7 ?_
    exact ro_iret hx hb hr hlk dX3_set_9 (rfl)
set_option maxHeartbeats 4000000 in
set_option maxRecDepth 100000 in
theorem c_X3_set_no (l : Launch) (G : lzG) (x : Nat) (q : Nat → Nat) (S ln : Nat → Int32) (rr : Nat) (i v : Int32) (hrw : rr < 8) (hno : ¬ lookV (ln rr) i 1 = 0) : Met l yX3_set wsX3_set ({ frames := 2, cells := 0, slots := 0, locals := 46 }) (va_Pc [.ref x, .int (nI rr), .int i, .int v] (rwP G (lzX x q S ++ lzI G (q 2) 8 ln))) (va_Qi (S := Unit) (fun (r : Int32) (_ : Unit) => r = lookV (ln rr) i 1) (rwB G (fun _ : Unit => (lzX x q (upd S 3 (lookF (ln rr) i 1)) ++ lzI G (q 2) 8 ln))) (lzA (lzX x q S ++ lzI G (q 2) 8 ln))) 0 0 (lzA (lzX x q S ++ lzI G (q 2) 8 ln)) := by
  have hA : inR (nI rr) 0 7 = true := inR_row hrw
  refine rw_start (S := Unit) (cc := cX3_set) (maxL := 6) (ret := (some .int)) (by decide) rfl (Nat.le_of_ble_eq_true rfl) ?_
  intro pp ee ss mm bl me cd A hx hb hr hlk hml hts hown hP hK hD hAe hS ls hl
  have hA0 : ∀ zz : Nat, lzA (lzX x q S ++ lzI G (q 2) 8 ln) zz → A zz := fun zz h9 => by rw [hAe]; exact h9
  rw [← hAe]
  clear hAe
  have hown : ss.vm.findClass RX3 = some mm.cls := hown
  have hl : lv_has ls 6 [(0, .ref x), (1, .int (nI rr)), (2, .int i), (3, .int v)] := hl
  refine lv_iload_n hx hb dX3_set_0 rfl (lv_at hl 1 rfl) ?_
  refine ro_calli (va_runS (As := [.int (nI rr)]) (rest := []) ⟨hx, hb, hml, hown, hts⟩ (c_X3_isRow l G (nI rr) ) (cwS 1 hts gX3_set_X3_isRow rfl rfl rfl (by decide +kernel) ⟨Nat.le_of_ble_eq_true rfl, Nat.le_of_ble_eq_true rfl⟩) (ro_pre hK (fun k q h => by simp at h)) rfl rfl hl.1 rfl (lv_room (Nat.le_of_ble_eq_true rfl)) dX3_set_1 ⟨Nat.zero_le _, Nat.zero_le _⟩) (fun r_1 hr_1 => ?_)
  refine lv_if_ne (tgt := 10) hx hb dX3_set_4 (by decide) (fun c_4 => ?_) (fun c_4 => ?_)
  · skip
    have c_4 := b2_n hr_1 c_4
    refine lv_aload_n hx hb dX3_set_10 rfl (lv_at hl 0 rfl) ?_
    refine lv_iload_n hx hb dX3_set_11 rfl (lv_at hl 1 rfl) ?_
    refine lv_iload_n hx hb dX3_set_12 rfl (lv_at hl 2 rfl) ?_
    refine lv_iconst (v := 1) hx hb dX3_set_13 (by decide) ?_
    have hFc : ∀ zz : Nat, lzA (lzX x q S ++ lzI G (q 2) 8 ln) zz → A zz := lz_free hD [0, 1] rfl
    refine va_calli (va_runV (As := [.int (nI rr), .int i, .int 1]) (rest := []) ⟨hx, hb, hml, hown, hts⟩ (c_X3_lookAt l G x q S ln rr i 1 (hrw)) (cwV 3 hts gX3_set_X3_lookAt rfl rfl rfl (by decide +kernel) ⟨Nat.le_of_ble_eq_true rfl, Nat.le_of_ble_eq_true rfl⟩) (rw_preV hK hP hD hP (ci := 3) (q0 := 0) rfl rfl) rfl rfl hl.1 rfl (lv_room (Nat.le_of_ble_eq_true rfl)) dX3_set_14 ⟨Nat.zero_le _, Nat.zero_le _⟩) hS (fun q _ h => hFc q h) hFc (fun r_2 u_3 t9 H1 locs ht hvm hr_2 hB hz1 hk1 hS => ?_)
    replace hB : va_P G.1 lzC _ t9.heap := hB
    rw [ht] at hB
    obtain ⟨hP, hD⟩ := lz_join (wc := (lzX x q S ++ lzI G (q 2) 8 ln)) (wr := ([] : va_W)) (w1 := (lzX x q (upd S 3 (lookF (ln rr) i 1)) ++ lzI G (q 2) 8 ln)) hP hD [0, 1] [] rfl rfl (by decide) (by decide) rfl hk1 hB
    replace hP := hP.sub (ws' := (lzX x q (upd S 3 (lookF (ln rr) i 1)) ++ lzI G (q 2) 8 ln)) [0, 1] rfl
    replace hD := hD.sub (ws' := (lzX x q (upd S 3 (lookF (ln rr) i 1)) ++ lzI G (q 2) 8 ln)) [0, 1] (by decide) rfl
    clear ht hvm hB hz1 hk1
    generalize H1 = H at hP hS ⊢
    refine lz_top (y := lookV (ln rr) i 1) hr_2 ?_
    refine lv_istore (lv' := [(4, .int (lookV (ln rr) i 1)), (0, .ref x), (1, .int (nI rr)), (2, .int i), (3, .int v)]) hx hb dX3_set_17 hl (by decide) rfl (fun ls hl => ?_)
    refine lv_iload hx hb dX3_set_19 (lv_at hl 0 rfl) ?_
    refine lv_if_eq (tgt := 27) hx hb dX3_set_21 (by decide) (fun c_21 => ?_) (fun c_21 => ?_)
    · skip
      exact absurd c_21 hno
    · skip
      refine lv_iload hx hb dX3_set_24 (lv_at hl 0 rfl) ?_
      exact rw_iret (S := Unit) (G := G) (Wd := fun _ : Unit => (lzX x q (upd S 3 (lookF (ln rr) i 1)) ++ lzI G (q 2) 8 ln)) () hx hb hr hlk dX3_set_26 hS (hP) (rfl)
  · skip
    have c_4 := b2_z hr_1 c_4
    exact Bool.noConfusion (hA.symm.trans c_4)
set_option maxHeartbeats 4000000 in
set_option maxRecDepth 100000 in
theorem c_X3_set_ok (l : Launch) (G : lzG) (x : Nat) (q : Nat → Nat) (S la ln : Nat → Int32) (ih : Nat → Nat) (rr : Nat) (g : Nat → Int32) (i : Nat) (v : Int32) (hrw : rr < 8) (hno : lookV (ln rr) (nI i) 1 = 0) (hi40 : i < 40) : Met l yX3_set wsX3_set ({ frames := 2, cells := 0, slots := 0, locals := 46 }) (va_Pc [.ref x, .int (nI rr), .int (nI i), .int v] (rwP G (lzX x q S ++ (lzI G (q 1) 8 la ++ (lzI G (q 2) 8 ln ++ (lzQ G 4 (q 0) 8 (fun i => some (ih i)) ++ (lzI G (ih rr) 40 g))))))) (va_Qi (S := Unit) (fun (r : Int32) (_ : Unit) => r = lowB v (la rr)) (rwB G (fun _ : Unit => (lzX x q (upd S 3 (lookF (ln rr) (nI i) 1)) ++ (lzI G (q 1) 8 la ++ (lzI G (q 2) 8 ln ++ (lzQ G 4 (q 0) 8 (fun i => some (ih i)) ++ (lzI G (ih rr) 40 (upd g i (lowB v (la rr)))))))))) (lzA (lzX x q S ++ (lzI G (q 1) 8 la ++ (lzI G (q 2) 8 ln ++ (lzQ G 4 (q 0) 8 (fun i => some (ih i)) ++ (lzI G (ih rr) 40 g))))))) 0 0 (lzA (lzX x q S ++ (lzI G (q 1) 8 la ++ (lzI G (q 2) 8 ln ++ (lzQ G 4 (q 0) 8 (fun i => some (ih i)) ++ (lzI G (ih rr) 40 g)))))) := by
  have hA : inR (nI rr) 0 7 = true := inR_row hrw
  refine rw_start (S := Unit) (cc := cX3_set) (maxL := 6) (ret := (some .int)) (by decide) rfl (Nat.le_of_ble_eq_true rfl) ?_
  intro pp ee ss mm bl me cd A hx hb hr hlk hml hts hown hP hK hD hAe hS ls hl
  have hA0 : ∀ zz : Nat, lzA (lzX x q S ++ (lzI G (q 1) 8 la ++ (lzI G (q 2) 8 ln ++ (lzQ G 4 (q 0) 8 (fun i => some (ih i)) ++ (lzI G (ih rr) 40 g))))) zz → A zz := fun zz h9 => by rw [hAe]; exact h9
  rw [← hAe]
  clear hAe
  have hown : ss.vm.findClass RX3 = some mm.cls := hown
  have hw2 := hts (.fieldLink RX3 14 "LampSquares" "lanes" "[I") (List.mem_of_getElem? (i := 2) rfl)
  have hw3 := hts (.fieldLink RX3 11 "LampSquares" "items" "[[I") (List.mem_of_getElem? (i := 3) rfl)
  have hu_wsX30 : ∀ w ∈ wsX30, w.before ([.ref x, .int (nI rr), .int (nI i), .int v] : List Value).toArray ss = true := fun w h9 => hts w (List.mem_cons_of_mem _ (List.mem_append_right _ h9))
  have hl : lv_has ls 6 [(0, .ref x), (1, .int (nI rr)), (2, .int (nI i)), (3, .int v)] := hl
  refine lv_iload_n hx hb dX3_set_0 rfl (lv_at hl 1 rfl) ?_
  refine ro_calli (va_runS (As := [.int (nI rr)]) (rest := []) ⟨hx, hb, hml, hown, hts⟩ (c_X3_isRow l G (nI rr) ) (cwS 1 hts gX3_set_X3_isRow rfl rfl rfl (by decide +kernel) ⟨Nat.le_of_ble_eq_true rfl, Nat.le_of_ble_eq_true rfl⟩) (ro_pre hK (fun k q h => by simp at h)) rfl rfl hl.1 rfl (lv_room (Nat.le_of_ble_eq_true rfl)) dX3_set_1 ⟨Nat.zero_le _, Nat.zero_le _⟩) (fun r_1 hr_1 => ?_)
  refine lv_if_ne (tgt := 10) hx hb dX3_set_4 (by decide) (fun c_4 => ?_) (fun c_4 => ?_)
  · skip
    have c_4 := b2_n hr_1 c_4
    refine lv_aload_n hx hb dX3_set_10 rfl (lv_at hl 0 rfl) ?_
    refine lv_iload_n hx hb dX3_set_11 rfl (lv_at hl 1 rfl) ?_
    refine lv_iload_n hx hb dX3_set_12 rfl (lv_at hl 2 rfl) ?_
    refine lv_iconst (v := 1) hx hb dX3_set_13 (by decide) ?_
    have hPc := hP.sub (ws' := (lzX x q S ++ lzI G (q 2) 8 ln)) [0, 2] rfl
    have hDc := hD.sub (ws' := (lzX x q S ++ lzI G (q 2) 8 ln)) [0, 2] (by decide) rfl
    have hFc : ∀ zz : Nat, lzA (lzX x q S ++ lzI G (q 2) 8 ln) zz → A zz := lz_free hD [0, 2] rfl
    refine va_calli (va_runV (As := [.int (nI rr), .int (nI i), .int 1]) (rest := []) ⟨hx, hb, hml, hown, hts⟩ (c_X3_lookAt l G x q S ln rr (nI i) 1 (hrw)) (cwV 3 hts gX3_set_X3_lookAt rfl rfl rfl (by decide +kernel) ⟨Nat.le_of_ble_eq_true rfl, Nat.le_of_ble_eq_true rfl⟩) (rw_preV hK hPc hDc hP (ci := 3) (q0 := 0) rfl rfl) rfl rfl hl.1 rfl (lv_room (Nat.le_of_ble_eq_true rfl)) dX3_set_14 ⟨Nat.zero_le _, Nat.zero_le _⟩) hS (fun q _ h => hFc q h) hFc (fun r_2 u_3 t9 H1 locs ht hvm hr_2 hB hz1 hk1 hS => ?_)
    replace hB : va_P G.1 lzC _ t9.heap := hB
    rw [ht] at hB
    obtain ⟨hP, hD⟩ := lz_join (wc := (lzX x q S ++ lzI G (q 2) 8 ln)) (wr := ([(q 1, .inl (G.2 0, 8, .inl la)), (q 0, .inl (G.2 4, 8, .inr (.inr (.inr (.inr (fun i => some (ih i))))))), ((ih rr), .inl (G.2 0, 40, .inl g))] : va_W)) (w1 := (lzX x q (upd S 3 (lookF (ln rr) (nI i) 1)) ++ lzI G (q 2) 8 ln)) hP hD [0, 2] [1, 3, 4] rfl rfl (by decide) (by decide) rfl hk1 hB
    replace hP := hP.sub (ws' := (lzX x q (upd S 3 (lookF (ln rr) (nI i) 1)) ++ (lzI G (q 1) 8 la ++ (lzI G (q 2) 8 ln ++ (lzQ G 4 (q 0) 8 (fun i => some (ih i)) ++ (lzI G (ih rr) 40 g)))))) [3, 0, 4, 1, 2] rfl
    replace hD := hD.sub (ws' := (lzX x q (upd S 3 (lookF (ln rr) (nI i) 1)) ++ (lzI G (q 1) 8 la ++ (lzI G (q 2) 8 ln ++ (lzQ G 4 (q 0) 8 (fun i => some (ih i)) ++ (lzI G (ih rr) 40 g)))))) [3, 0, 4, 1, 2] (by decide) rfl
    clear ht hvm hB hz1 hk1
    generalize H1 = H at hP hS ⊢
    refine lz_top (y := lookV (ln rr) (nI i) 1) hr_2 ?_
    refine lv_istore (lv' := [(4, .int (lookV (ln rr) (nI i) 1)), (0, .ref x), (1, .int (nI rr)), (2, .int (nI i)), (3, .int v)]) hx hb dX3_set_17 hl (by decide) rfl (fun ls hl => ?_)
    refine lv_iload hx hb dX3_set_19 (lv_at hl 0 rfl) ?_
    refine lv_if_eq (tgt := 27) hx hb dX3_set_21 (by decide) (fun c_21 => ?_) (fun c_21 => ?_)
    · skip
      refine lv_iload_n hx hb dX3_set_27 rfl (lv_at hl 4 rfl) ?_
      refine lv_aload_n hx hb dX3_set_28 rfl (lv_at hl 1 rfl) ?_
      refine lz_get (G := G) (ci := 3) (v := .ref (q 1)) (C := RX3) (T := TX3) (N := 13) hx hb hu_wsX30 (fun _ h9 => h9) hown hK hP 0 rfl rfl 1 (by decide) hw2 rfl rfl dX3_set_29 ?_
      refine lv_iload_n hx hb dX3_set_32 rfl (lv_at hl 2 rfl) ?_
      refine lz_iald (f := la) hx hb hK hP 1 rfl rr (by omega) (Nat.le_of_ble_eq_true rfl) dX3_set_33 ?_
      refine ro_calli (va_runS (As := [.int v, .int (la rr)]) (rest := []) ⟨hx, hb, hml, hown, hts⟩ (c_X3_lowestBits l G v (la rr) ) (cwS 2 hts gX3_set_X3_lowestBits rfl rfl rfl (by decide +kernel) ⟨Nat.le_of_ble_eq_true rfl, Nat.le_of_ble_eq_true rfl⟩) (ro_pre hK (fun k q h => by simp at h)) rfl rfl hl.1 rfl (lv_room (Nat.le_of_ble_eq_true rfl)) dX3_set_34 ⟨Nat.zero_le _, Nat.zero_le _⟩) (fun r_4 hr_4 => ?_)
      refine lz_top (y := lowB v (la rr)) hr_4 ?_
      refine lv_istore (lv' := [(5, .int (lowB v (la rr))), (4, .int (lookV (ln rr) (nI i) 1)), (0, .ref x), (1, .int (nI rr)), (2, .int (nI i)), (3, .int v)]) hx hb dX3_set_37 hl (by decide) rfl (fun ls hl => ?_)
      refine lv_aload_n hx hb dX3_set_39 rfl (lv_at hl 2 rfl) ?_
      refine lz_get (G := G) (ci := 3) (v := .ref (q 0)) (C := RX3) (T := TX3) (N := 13) hx hb hu_wsX30 (fun _ h9 => h9) hown hK hP 0 rfl rfl 0 (by decide) hw3 rfl rfl dX3_set_40 ?_
      refine lv_iload_n hx hb dX3_set_43 rfl (lv_at hl 3 rfl) ?_
      refine lz_aaldI (f := fun i => some (ih i)) hx hb hK hP 3 rfl rr (ih rr) rfl (by omega) (Nat.le_of_ble_eq_true rfl) dX3_set_44 ?_
      refine lv_iload_n hx hb dX3_set_45 rfl (lv_at hl 4 rfl) ?_
      refine lv_iload hx hb dX3_set_46 (lv_at hl 0 rfl) ?_
      refine lz_iast (f := g) hx hb hK hP hD hS 4 rfl i (by omega) (Nat.le_of_ble_eq_true rfl) dX3_set_48 (lzX x q (upd S 3 (lookF (ln rr) (nI i) 1)) ++ (lzI G (q 1) 8 la ++ (lzI G (q 2) 8 ln ++ (lzQ G 4 (q 0) 8 (fun i => some (ih i)) ++ (lzI G (ih rr) 40 (upd g i (lowB v (la rr)))))))) rfl (fun H locs hP hD hS => ?_)
      refine lv_iload hx hb dX3_set_49 (lv_at hl 0 rfl) ?_
      exact rw_iret (S := Unit) (G := G) (Wd := fun _ : Unit => (lzX x q (upd S 3 (lookF (ln rr) (nI i) 1)) ++ (lzI G (q 1) 8 la ++ (lzI G (q 2) 8 ln ++ (lzQ G 4 (q 0) 8 (fun i => some (ih i)) ++ (lzI G (ih rr) 40 (upd g i (lowB v (la rr))))))))) () hx hb hr hlk dX3_set_51 hS (hP) (rfl)
    · skip
      exact absurd hno c_21
  · skip
    have c_4 := b2_z hr_1 c_4
    exact Bool.noConfusion (hA.symm.trans c_4)
