set_option maxHeartbeats 4000000 in
set_option maxRecDepth 100000 in
theorem c_X0_keep (l : Launch) (G : lzG) (a : Nat) (q : Nat → Nat) (S : Nat → Int32) (o : Nat) (q2 : Nat → Nat) (T : Nat → Int32) (E : Nat → Nat → Int32) (rh : Nat → Nat) (rq : Nat → Nat → Nat) (RS : Nat → Nat → Int32) (RF : Nat → Nat → Nat → Int32) (X K : Nat) (hX : S 1 = nI X) (hX24 : X < 24) (hK0 : S 2 = nI K) (hK24 : K ≤ 24) : Met l yX0_keep wsX0_keep ({ frames := 2, cells := 0, slots := 0, locals := 61 }) (va_Pc [.ref a, .ref o] (rwP G ((lzAc a q S ++ (lzQ G 3 (q 0) 24 (fun i => some (rh i)) ++ (lzDoor G o q2 T E))) ++ ringW G rh rq RS RF))) (va_Qv (S := Unit) (fun _ : Unit => True) (rwB G (fun _ : Unit => ((lzAc a q (upd (upd S 1 (nI ((X + 1) % 24))) 2 (nI (min (K + 1) 24))) ++ (lzQ G 3 (q 0) 24 (fun i => some (rh i)) ++ (lzDoor G o q2 T E))) ++ ringW G rh rq (lzF RS X (tfS T (RS X))) (lz3 RF X (tfF E (RF X)))))) (lzA ((lzAc a q S ++ (lzQ G 3 (q 0) 24 (fun i => some (rh i)) ++ (lzDoor G o q2 T E))) ++ ringW G rh rq RS RF))) 0 0 (lzA ((lzAc a q S ++ (lzQ G 3 (q 0) 24 (fun i => some (rh i)) ++ (lzDoor G o q2 T E))) ++ ringW G rh rq RS RF)) := by
  refine rw_start (S := Unit) (cc := cX0_keep) (maxL := 2) (ret := none) (by decide) rfl (Nat.le_of_ble_eq_true rfl) ?_
  intro pp ee ss mm bl me cd A hx hb hr hlk hml hts hown hP hK hD hAe hS ls hl
  have hA0 : ∀ zz : Nat, lzA ((lzAc a q S ++ (lzQ G 3 (q 0) 24 (fun i => some (rh i)) ++ (lzDoor G o q2 T E))) ++ ringW G rh rq RS RF) zz → A zz := fun zz h9 => by rw [hAe]; exact h9
  rw [← hAe]
  clear hAe
  have hown : ss.vm.findClass RX0 = some mm.cls := hown
  have hw1 := hts (.fieldLink RX0 11 "LampSquares$Acts" "ahead" "[LLampSquares$Door;") (List.mem_of_getElem? (i := 1) rfl)
  have hw2 := hts (.fieldLink RX0 17 "LampSquares$Acts" "next" "I") (List.mem_of_getElem? (i := 2) rfl)
  have hw3 := hts (.fieldLink RX0 21 "LampSquares$Acts" "kept" "I") (List.mem_of_getElem? (i := 3) rfl)
  have hw4 := hts (.methodLink RX0 29 Lib.Math.min.name) (List.mem_of_getElem? (i := 4) rfl)
  have hw5 := hts (.static Lib.Math.min.name) (List.mem_of_getElem? (i := 5) rfl)
  have hw6 := hts (.initialized "java/lang/Math") (List.mem_of_getElem? (i := 6) rfl)
  have hw7 := hts (.code Lib.Math.min.name Lib.Math.min.code 2 (some .int)) (List.mem_of_getElem? (i := 7) rfl)
  have hu_wsX00 : ∀ w ∈ wsX00, w.before ([.ref a, .ref o] : List Value).toArray ss = true := fun w h9 => hts w (List.mem_cons_of_mem _ (List.mem_append_left _ (List.mem_append_right _ h9)))
  have hl : lv_has ls 2 [(0, .ref a), (1, .ref o)] := hl
  refine lv_aload_n hx hb dX0_keep_0 rfl (lv_at hl 0 rfl) ?_
  refine lz_get (G := G) (ci := 0) (v := .ref (q 0)) (C := RX0) (T := TX0) (N := 3) hx hb hu_wsX00 (fun _ h9 => h9) hown hK hP 0 rfl rfl 0 (by decide) hw1 rfl rfl dX0_keep_1 ?_
  refine lv_aload_n hx hb dX0_keep_4 rfl (lv_at hl 0 rfl) ?_
  refine lz_get (G := G) (ci := 0) (v := .int (S 1)) (C := RX0) (T := TX0) (N := 3) hx hb hu_wsX00 (fun _ h9 => h9) hown hK hP 0 rfl rfl 1 (by decide) hw2 rfl rfl dX0_keep_5 ?_
  refine lz_top (y := nI X) (hX) ?_
  refine lz_aald (f := fun i => some (rh i)) hx hb hK hP 1 rfl X (rh X) rfl (by omega) (Nat.le_of_ble_eq_true rfl) dX0_keep_8 ?_
  refine lv_aload_n hx hb dX0_keep_9 rfl (lv_at hl 1 rfl) ?_
  obtain ⟨hP, hD⟩ := ring_open (X := (lzAc a q S ++ (lzQ G 3 (q 0) 24 (fun i => some (rh i)) ++ (lzDoor G o q2 T E)))) (j := X) (hX24) hP hD
  replace hP : va_P G.1 lzC ((lzAc a q S ++ (lzQ G 3 (q 0) 24 (fun i => some (rh i)) ++ (lzDoor G o q2 T E ++ (lzDoor G (rh X) (rq X) (RS X) (RF X))))) ++ ringR G rh rq RS RF X) ss.heap := hP
  replace hD : va_D A ((lzAc a q S ++ (lzQ G 3 (q 0) 24 (fun i => some (rh i)) ++ (lzDoor G o q2 T E ++ (lzDoor G (rh X) (rq X) (RS X) (RF X))))) ++ ringR G rh rq RS RF X) := hD
  have hPc := hP.sub (ws' := (lzDoor G (rh X) (rq X) (RS X) (RF X) ++ lzDoor G o q2 T E)) [13, 14, 15, 16, 17, 18, 19, 20, 21, 22, 23, 2, 3, 4, 5, 6, 7, 8, 9, 10, 11, 12] rfl
  have hDc := hD.sub (ws' := (lzDoor G (rh X) (rq X) (RS X) (RF X) ++ lzDoor G o q2 T E)) [13, 14, 15, 16, 17, 18, 19, 20, 21, 22, 23, 2, 3, 4, 5, 6, 7, 8, 9, 10, 11, 12] (by decide) rfl
  have hFc : ∀ zz : Nat, lzA (lzDoor G (rh X) (rq X) (RS X) (RF X) ++ lzDoor G o q2 T E) zz → A zz := lz_free hD [13, 14, 15, 16, 17, 18, 19, 20, 21, 22, 23, 2, 3, 4, 5, 6, 7, 8, 9, 10, 11, 12] rfl
  refine va_callv (va_runV (As := [.ref o]) (rest := []) ⟨hx, hb, hml, hown, hts⟩ (c_X1_takeFrom l G (rh X) (rq X) (RS X) (RF X) o q2 T E ) (cwV 1 hts gX0_keep_X1_takeFrom rfl rfl rfl (by decide +kernel) ⟨Nat.le_of_ble_eq_true rfl, Nat.le_of_ble_eq_true rfl⟩) (rw_preV hK hPc hDc hP (ci := 1) (q0 := 13) rfl rfl) rfl rfl hl.1 rfl (lv_room (Nat.le_of_ble_eq_true rfl)) dX0_keep_10 ⟨Nat.zero_le _, Nat.zero_le _⟩) hS (fun q _ h => hFc q h) hFc (fun u_2 t9 H1 locs ht hvm hr_1 hB hz1 hk1 hS => ?_)
  replace hB : va_P G.1 lzC _ t9.heap := hB
  rw [ht] at hB
  obtain ⟨hP, hD⟩ := lz_joinT (wc := (lzDoor G (rh X) (rq X) (RS X) (RF X) ++ lzDoor G o q2 T E)) (wr := ([(a, .inr (0, [.ref (q 0), .int (S 1), .int (S 2)])), (q 0, .inl (G.2 3, 24, .inr (.inr (.inr (.inr (fun i => some (rh i)))))))] : va_W)) (w1 := (lzDoor G (rh X) (rq X) (upd (upd (upd (upd (RS X) 0 (T 0)) 1 (T 1)) 2 (T 2)) 3 (T 3)) (lzF (lzF (lzF (lzF (lzF (lzF (lzF (lzF (lzF (RF X) 4 (va_cpy ((E 4)) (((RF X) 4)) 0 0 8)) 5 (va_cpy ((E 5)) (((RF X) 5)) 0 0 8)) 6 (va_cpy ((E 6)) (((RF X) 6)) 0 0 8)) 7 (va_cpy ((E 7)) (((RF X) 7)) 0 0 8)) 8 (va_cpy ((E 8)) (((RF X) 8)) 0 0 8)) 9 (va_cpy ((E 9)) (((RF X) 9)) 0 0 5)) 10 (va_cpy ((E 10)) (((RF X) 10)) 0 0 5)) 11 (va_cpy ((E 11)) (((RF X) 11)) 0 0 5)) 12 (va_cpy ((E 12)) (((RF X) 12)) 0 0 5)) ++ lzDoor G o q2 T E)) hP hD [13, 14, 15, 16, 17, 18, 19, 20, 21, 22, 23, 2, 3, 4, 5, 6, 7, 8, 9, 10, 11, 12] [0, 1] rfl rfl (by decide) (by decide) rfl hk1 hB
  replace hP := P_subT (ws' := (lzAc a q S ++ (lzQ G 3 (q 0) 24 (fun i => some (rh i)) ++ (lzDoor G o q2 T E ++ (lzDoor G (rh X) (rq X) (upd (upd (upd (upd (RS X) 0 (T 0)) 1 (T 1)) 2 (T 2)) 3 (T 3)) (lzF (lzF (lzF (lzF (lzF (lzF (lzF (lzF (lzF (RF X) 4 (va_cpy ((E 4)) (((RF X) 4)) 0 0 8)) 5 (va_cpy ((E 5)) (((RF X) 5)) 0 0 8)) 6 (va_cpy ((E 6)) (((RF X) 6)) 0 0 8)) 7 (va_cpy ((E 7)) (((RF X) 7)) 0 0 8)) 8 (va_cpy ((E 8)) (((RF X) 8)) 0 0 8)) 9 (va_cpy ((E 9)) (((RF X) 9)) 0 0 5)) 10 (va_cpy ((E 10)) (((RF X) 10)) 0 0 5)) 11 (va_cpy ((E 11)) (((RF X) 11)) 0 0 5)) 12 (va_cpy ((E 12)) (((RF X) 12)) 0 0 5))))))) hP [0, 1, 13, 14, 15, 16, 17, 18, 19, 20, 21, 22, 23, 2, 3, 4, 5, 6, 7, 8, 9, 10, 11, 12] rfl
  replace hD := D_subT (ws' := (lzAc a q S ++ (lzQ G 3 (q 0) 24 (fun i => some (rh i)) ++ (lzDoor G o q2 T E ++ (lzDoor G (rh X) (rq X) (upd (upd (upd (upd (RS X) 0 (T 0)) 1 (T 1)) 2 (T 2)) 3 (T 3)) (lzF (lzF (lzF (lzF (lzF (lzF (lzF (lzF (lzF (RF X) 4 (va_cpy ((E 4)) (((RF X) 4)) 0 0 8)) 5 (va_cpy ((E 5)) (((RF X) 5)) 0 0 8)) 6 (va_cpy ((E 6)) (((RF X) 6)) 0 0 8)) 7 (va_cpy ((E 7)) (((RF X) 7)) 0 0 8)) 8 (va_cpy ((E 8)) (((RF X) 8)) 0 0 8)) 9 (va_cpy ((E 9)) (((RF X) 9)) 0 0 5)) 10 (va_cpy ((E 10)) (((RF X) 10)) 0 0 5)) 11 (va_cpy ((E 11)) (((RF X) 11)) 0 0 5)) 12 (va_cpy ((E 12)) (((RF X) 12)) 0 0 5))))))) hD [0, 1, 13, 14, 15, 16, 17, 18, 19, 20, 21, 22, 23, 2, 3, 4, 5, 6, 7, 8, 9, 10, 11, 12] (by decide) rfl
  clear ht hvm hB hz1 hk1
  generalize H1 = H at hP hS ⊢
  obtain ⟨hP, hD⟩ := ring_close (X := (lzAc a q S ++ (lzQ G 3 (q 0) 24 (fun i => some (rh i)) ++ (lzDoor G o q2 T E)))) (j := X) (T := tfS T (RS X)) (E := tfF E (RF X)) (hX24) hP hD
  refine lv_aload_n hx hb dX0_keep_13 rfl (lv_at hl 0 rfl) ?_
  refine lv_aload_n hx hb dX0_keep_14 rfl (lv_at hl 0 rfl) ?_
  refine lz_get (G := G) (ci := 0) (v := .int (S 1)) (C := RX0) (T := TX0) (N := 3) hx hb hu_wsX00 (fun _ h9 => h9) hown hK hP 0 rfl rfl 1 (by decide) hw2 rfl rfl dX0_keep_15 ?_
  refine lz_top (y := nI X) (hX) ?_
  refine lv_iconst (v := 1) hx hb dX0_keep_18 (by decide) ?_
  refine lv_iadd hx hb dX0_keep_19 ?_
  refine lv_bipush (v := 24) hx hb dX0_keep_20 (by decide) ?_
  refine lv_irem hx hb dX0_keep_22 (by decide) ?_
  refine lz_top (y := nI ((X + 1) % 24)) (nxt_24 hX24) ?_
  refine lz_put (G := G) (ci := 0) (C := RX0) (T := TX0) (N := 3) hx hb hu_wsX00 (fun _ h9 => h9) tyX0 tyX0_ok nmX0 hown hK hP hD hS 0 rfl rfl 1 (by decide) hw2 rfl rfl (by decide +kernel) (Nat.le_of_ble_eq_true rfl) dX0_keep_23 ((lzAc a q (upd S 1 (nI ((X + 1) % 24))) ++ (lzQ G 3 (q 0) 24 (fun i => some (rh i)) ++ (lzDoor G o q2 T E))) ++ ringW G rh rq (lzF RS X (tfS T (RS X))) (lz3 RF X (tfF E (RF X)))) rfl (fun H locs hP hD hS => ?_)
  refine lv_aload_n hx hb dX0_keep_26 rfl (lv_at hl 0 rfl) ?_
  refine lv_aload_n hx hb dX0_keep_27 rfl (lv_at hl 0 rfl) ?_
  refine lz_get (G := G) (ci := 0) (v := .int (S 2)) (C := RX0) (T := TX0) (N := 3) hx hb hu_wsX00 (fun _ h9 => h9) hown hK hP 0 rfl rfl 2 (by decide) hw3 rfl rfl dX0_keep_28 ?_
  refine lz_top (y := nI K) (hK0) ?_
  refine lv_iconst (v := 1) hx hb dX0_keep_31 (by decide) ?_
  refine lv_iadd hx hb dX0_keep_32 ?_
  refine lv_bipush (v := 24) hx hb dX0_keep_33 (by decide) ?_
  refine va_mmin hx hb (hml.trans hl.1.symm) hown hw4 hw5 hw6 hw7 (Nat.le_of_ble_eq_true rfl) (Nat.le_of_ble_eq_true rfl) (Nat.zero_le _) (Nat.zero_le _) dX0_keep_35 ?_
  refine lz_top (y := nI (min (K + 1) 24)) (kept_24 hK24) ?_
  refine lz_put (G := G) (ci := 0) (C := RX0) (T := TX0) (N := 3) hx hb hu_wsX00 (fun _ h9 => h9) tyX0 tyX0_ok nmX0 hown hK hP hD hS 0 rfl rfl 2 (by decide) hw3 rfl rfl (by decide +kernel) (Nat.le_of_ble_eq_true rfl) dX0_keep_38 ((lzAc a q (upd (upd S 1 (nI ((X + 1) % 24))) 2 (nI (min (K + 1) 24))) ++ (lzQ G 3 (q 0) 24 (fun i => some (rh i)) ++ (lzDoor G o q2 T E))) ++ ringW G rh rq (lzF RS X (tfS T (RS X))) (lz3 RF X (tfF E (RF X)))) rfl (fun H locs hP hD hS => ?_)
  exact rw_vret (S := Unit) (G := G) (Wd := fun _ : Unit => ((lzAc a q (upd (upd S 1 (nI ((X + 1) % 24))) 2 (nI (min (K + 1) 24))) ++ (lzQ G 3 (q 0) 24 (fun i => some (rh i)) ++ (lzDoor G o q2 T E))) ++ ringW G rh rq (lzF RS X (tfS T (RS X))) (lz3 RF X (tfF E (RF X))))) () hx hb hr hlk dX0_keep_41 hS (hP) (trivial)
set_option maxHeartbeats 4000000 in
set_option maxRecDepth 100000 in
theorem c_X0_forgetAll (l : Launch) (G : lzG) (a : Nat) (q : Nat → Nat) (S : Nat → Int32)  : Met l yX0_forgetAll wsX0_forgetAll ({ frames := 0, cells := 0, slots := 0, locals := 0 }) (va_Pc [.ref a] (rwP G (lzAc a q S))) (va_Qv (S := Unit) (fun _ : Unit => True) (rwB G (fun _ : Unit => lzAc a q (upd S 2 0))) (lzA (lzAc a q S))) 0 0 (lzA (lzAc a q S)) := by
  refine rw_start (S := Unit) (cc := cX0_forgetAll) (maxL := 1) (ret := none) (by decide) rfl (Nat.le_of_ble_eq_true rfl) ?_
  intro pp ee ss mm bl me cd A hx hb hr hlk hml hts hown hP hK hD hAe hS ls hl
  have hA0 : ∀ zz : Nat, lzA (lzAc a q S) zz → A zz := fun zz h9 => by rw [hAe]; exact h9
  rw [← hAe]
  clear hAe
  have hown : ss.vm.findClass RX0 = some mm.cls := hown
  have hw1 := hts (.fieldLink RX0 21 "LampSquares$Acts" "kept" "I") (List.mem_of_getElem? (i := 1) rfl)
  have hu_wsX00 : ∀ w ∈ wsX00, w.before ([.ref a] : List Value).toArray ss = true := fun w h9 => hts w (List.mem_cons_of_mem _ (List.mem_append_right _ h9))
  have hl : lv_has ls 1 [(0, .ref a)] := hl
  refine lv_aload_n hx hb dX0_forgetAll_0 rfl (lv_at hl 0 rfl) ?_
  refine lv_iconst (v := 0) hx hb dX0_forgetAll_1 (by decide) ?_
  refine lz_put (G := G) (ci := 0) (C := RX0) (T := TX0) (N := 3) hx hb hu_wsX00 (fun _ h9 => h9) tyX0 tyX0_ok nmX0 hown hK hP hD hS 0 rfl rfl 2 (by decide) hw1 rfl rfl (by decide +kernel) (Nat.le_of_ble_eq_true rfl) dX0_forgetAll_2 (lzAc a q (upd S 2 0)) rfl (fun H locs hP hD hS => ?_)
  exact rw_vret (S := Unit) (G := G) (Wd := fun _ : Unit => lzAc a q (upd S 2 0)) () hx hb hr hlk dX0_forgetAll_5 hS (hP) (trivial)
set_option maxHeartbeats 4000000 in
set_option maxRecDepth 100000 in
theorem c_X0_takeBackInto (l : Launch) (G : lzG) (a : Nat) (q : Nat → Nat) (S : Nat → Int32) (o : Nat) (q2 : Nat → Nat) (T : Nat → Int32) (E : Nat → Nat → Int32) (rh : Nat → Nat) (rq : Nat → Nat → Nat) (RS : Nat → Nat → Int32) (RF : Nat → Nat → Nat → Int32) (X K : Nat) (hX : S 1 = nI X) (hX24 : X < 24) (hK0 : S 2 = nI K) (hK24 : K ≤ 24) (hK1 : 1 ≤ K) : Met l yX0_takeBackInto wsX0_takeBackInto ({ frames := 2, cells := 0, slots := 0, locals := 61 }) (va_Pc [.ref a, .ref o] (rwP G ((lzAc a q S ++ (lzQ G 3 (q 0) 24 (fun i => some (rh i)) ++ (lzDoor G o q2 T E))) ++ ringW G rh rq RS RF))) (va_Qv (S := Unit) (fun _ : Unit => True) (rwB G (fun _ : Unit => ((lzAc a q (upd (upd S 1 (nI ((X + 23) % 24))) 2 (nI (K - 1))) ++ (lzQ G 3 (q 0) 24 (fun i => some (rh i)) ++ (lzDoor G o q2 (tfS (RS ((X + 23) % 24)) T) (tfF (RF ((X + 23) % 24)) E)))) ++ ringW G rh rq RS RF))) (lzA ((lzAc a q S ++ (lzQ G 3 (q 0) 24 (fun i => some (rh i)) ++ (lzDoor G o q2 T E))) ++ ringW G rh rq RS RF))) 0 0 (lzA ((lzAc a q S ++ (lzQ G 3 (q 0) 24 (fun i => some (rh i)) ++ (lzDoor G o q2 T E))) ++ ringW G rh rq RS RF)) := by
  refine rw_start (S := Unit) (cc := cX0_takeBackInto) (maxL := 2) (ret := none) (by decide) rfl (Nat.le_of_ble_eq_true rfl) ?_
  intro pp ee ss mm bl me cd A hx hb hr hlk hml hts hown hP hK hD hAe hS ls hl
  have hA0 : ∀ zz : Nat, lzA ((lzAc a q S ++ (lzQ G 3 (q 0) 24 (fun i => some (rh i)) ++ (lzDoor G o q2 T E))) ++ ringW G rh rq RS RF) zz → A zz := fun zz h9 => by rw [hAe]; exact h9
  rw [← hAe]
  clear hAe
  have hown : ss.vm.findClass RX0 = some mm.cls := hown
  have hw1 := hts (.fieldLink RX0 17 "LampSquares$Acts" "next" "I") (List.mem_of_getElem? (i := 1) rfl)
  have hw2 := hts (.fieldLink RX0 11 "LampSquares$Acts" "ahead" "[LLampSquares$Door;") (List.mem_of_getElem? (i := 2) rfl)
  have hw3 := hts (.fieldLink RX0 21 "LampSquares$Acts" "kept" "I") (List.mem_of_getElem? (i := 3) rfl)
  have hu_wsX00 : ∀ w ∈ wsX00, w.before ([.ref a, .ref o] : List Value).toArray ss = true := fun w h9 => hts w (List.mem_cons_of_mem _ (List.mem_append_left _ (List.mem_append_right _ h9)))
  have hl : lv_has ls 2 [(0, .ref a), (1, .ref o)] := hl
  refine lv_aload_n hx hb dX0_takeBackInto_0 rfl (lv_at hl 0 rfl) ?_
  refine lv_aload_n hx hb dX0_takeBackInto_1 rfl (lv_at hl 0 rfl) ?_
  refine lz_get (G := G) (ci := 0) (v := .int (S 1)) (C := RX0) (T := TX0) (N := 3) hx hb hu_wsX00 (fun _ h9 => h9) hown hK hP 0 rfl rfl 1 (by decide) hw1 rfl rfl dX0_takeBackInto_2 ?_
  refine lz_top (y := nI X) (hX) ?_
  refine lv_bipush (v := 24) hx hb dX0_takeBackInto_5 (by decide) ?_
  refine lv_iadd hx hb dX0_takeBackInto_7 ?_
  refine lv_iconst (v := 1) hx hb dX0_takeBackInto_8 (by decide) ?_
  refine lv_isub hx hb dX0_takeBackInto_9 ?_
  refine lv_bipush (v := 24) hx hb dX0_takeBackInto_10 (by decide) ?_
  refine lv_irem hx hb dX0_takeBackInto_12 (by decide) ?_
  refine lz_top (y := nI ((X + 23) % 24)) (prv_24 hX24) ?_
  have hj : (X + 23) % 24 < 24 := Nat.mod_lt _ (by decide)
  refine lz_put (G := G) (ci := 0) (C := RX0) (T := TX0) (N := 3) hx hb hu_wsX00 (fun _ h9 => h9) tyX0 tyX0_ok nmX0 hown hK hP hD hS 0 rfl rfl 1 (by decide) hw1 rfl rfl (by decide +kernel) (Nat.le_of_ble_eq_true rfl) dX0_takeBackInto_13 ((lzAc a q (upd S 1 (nI ((X + 23) % 24))) ++ (lzQ G 3 (q 0) 24 (fun i => some (rh i)) ++ (lzDoor G o q2 T E))) ++ ringW G rh rq RS RF) rfl (fun H locs hP hD hS => ?_)
  refine lv_aload_n hx hb dX0_takeBackInto_16 rfl (lv_at hl 1 rfl) ?_
  refine lv_aload_n hx hb dX0_takeBackInto_17 rfl (lv_at hl 0 rfl) ?_
  refine lz_get (G := G) (ci := 0) (v := .ref (q 0)) (C := RX0) (T := TX0) (N := 3) hx hb hu_wsX00 (fun _ h9 => h9) hown hK hP 0 rfl rfl 0 (by decide) hw2 rfl rfl dX0_takeBackInto_18 ?_
  refine lv_aload_n hx hb dX0_takeBackInto_21 rfl (lv_at hl 0 rfl) ?_
  refine lz_get (G := G) (ci := 0) (v := .int (nI ((X + 23) % 24))) (C := RX0) (T := TX0) (N := 3) hx hb hu_wsX00 (fun _ h9 => h9) hown hK hP 0 rfl rfl 1 (by decide) hw1 rfl rfl dX0_takeBackInto_22 ?_
  refine lz_aald (f := fun i => some (rh i)) hx hb hK hP 1 rfl ((X + 23) % 24) (rh ((X + 23) % 24)) rfl (hj) (Nat.le_of_ble_eq_true rfl) dX0_takeBackInto_25 ?_
  obtain ⟨hP, hD⟩ := ring_open (X := (lzAc a q (upd S 1 (nI ((X + 23) % 24))) ++ (lzQ G 3 (q 0) 24 (fun i => some (rh i)) ++ (lzDoor G o q2 T E)))) (j := (X + 23) % 24) (hj) hP hD
  replace hP : va_P G.1 lzC ((lzAc a q (upd S 1 (nI ((X + 23) % 24))) ++ (lzQ G 3 (q 0) 24 (fun i => some (rh i)) ++ (lzDoor G o q2 T E ++ (lzDoor G (rh ((X + 23) % 24)) (rq ((X + 23) % 24)) (RS ((X + 23) % 24)) (RF ((X + 23) % 24)))))) ++ ringR G rh rq RS RF ((X + 23) % 24)) H := hP
  replace hD : va_D A ((lzAc a q (upd S 1 (nI ((X + 23) % 24))) ++ (lzQ G 3 (q 0) 24 (fun i => some (rh i)) ++ (lzDoor G o q2 T E ++ (lzDoor G (rh ((X + 23) % 24)) (rq ((X + 23) % 24)) (RS ((X + 23) % 24)) (RF ((X + 23) % 24)))))) ++ ringR G rh rq RS RF ((X + 23) % 24)) := hD
  have hPc := hP.sub (ws' := (lzDoor G o q2 T E ++ lzDoor G (rh ((X + 23) % 24)) (rq ((X + 23) % 24)) (RS ((X + 23) % 24)) (RF ((X + 23) % 24)))) [2, 3, 4, 5, 6, 7, 8, 9, 10, 11, 12, 13, 14, 15, 16, 17, 18, 19, 20, 21, 22, 23] rfl
  have hDc := hD.sub (ws' := (lzDoor G o q2 T E ++ lzDoor G (rh ((X + 23) % 24)) (rq ((X + 23) % 24)) (RS ((X + 23) % 24)) (RF ((X + 23) % 24)))) [2, 3, 4, 5, 6, 7, 8, 9, 10, 11, 12, 13, 14, 15, 16, 17, 18, 19, 20, 21, 22, 23] (by decide) rfl
  have hFc : ∀ zz : Nat, lzA (lzDoor G o q2 T E ++ lzDoor G (rh ((X + 23) % 24)) (rq ((X + 23) % 24)) (RS ((X + 23) % 24)) (RF ((X + 23) % 24))) zz → A zz := lz_free hD [2, 3, 4, 5, 6, 7, 8, 9, 10, 11, 12, 13, 14, 15, 16, 17, 18, 19, 20, 21, 22, 23] rfl
  refine va_callv (va_runV (As := [.ref (rh ((X + 23) % 24))]) (rest := []) ⟨hx, hb, hml, hown, hts⟩ (c_X1_takeFrom l G o q2 T E (rh ((X + 23) % 24)) (rq ((X + 23) % 24)) (RS ((X + 23) % 24)) (RF ((X + 23) % 24)) ) (cwV 1 hts gX0_takeBackInto_X1_takeFrom rfl rfl rfl (by decide +kernel) ⟨Nat.le_of_ble_eq_true rfl, Nat.le_of_ble_eq_true rfl⟩) (rw_preV hK hPc hDc hP (ci := 1) (q0 := 2) rfl rfl) rfl rfl hl.1 rfl (lv_room (Nat.le_of_ble_eq_true rfl)) dX0_takeBackInto_26 ⟨Nat.zero_le _, Nat.zero_le _⟩) hS (fun q _ h => hFc q h) hFc (fun u_2 t9 H1 locs ht hvm hr_1 hB hz1 hk1 hS => ?_)
  replace hB : va_P G.1 lzC _ t9.heap := hB
  rw [ht] at hB
  obtain ⟨hP, hD⟩ := lz_joinT (wc := (lzDoor G o q2 T E ++ lzDoor G (rh ((X + 23) % 24)) (rq ((X + 23) % 24)) (RS ((X + 23) % 24)) (RF ((X + 23) % 24)))) (wr := ([(a, .inr (0, [.ref (q 0), .int (nI ((X + 23) % 24)), .int (S 2)])), (q 0, .inl (G.2 3, 24, .inr (.inr (.inr (.inr (fun i => some (rh i)))))))] : va_W)) (w1 := (lzDoor G o q2 (upd (upd (upd (upd T 0 ((RS ((X + 23) % 24)) 0)) 1 ((RS ((X + 23) % 24)) 1)) 2 ((RS ((X + 23) % 24)) 2)) 3 ((RS ((X + 23) % 24)) 3)) (lzF (lzF (lzF (lzF (lzF (lzF (lzF (lzF (lzF E 4 (va_cpy (((RF ((X + 23) % 24)) 4)) ((E 4)) 0 0 8)) 5 (va_cpy (((RF ((X + 23) % 24)) 5)) ((E 5)) 0 0 8)) 6 (va_cpy (((RF ((X + 23) % 24)) 6)) ((E 6)) 0 0 8)) 7 (va_cpy (((RF ((X + 23) % 24)) 7)) ((E 7)) 0 0 8)) 8 (va_cpy (((RF ((X + 23) % 24)) 8)) ((E 8)) 0 0 8)) 9 (va_cpy (((RF ((X + 23) % 24)) 9)) ((E 9)) 0 0 5)) 10 (va_cpy (((RF ((X + 23) % 24)) 10)) ((E 10)) 0 0 5)) 11 (va_cpy (((RF ((X + 23) % 24)) 11)) ((E 11)) 0 0 5)) 12 (va_cpy (((RF ((X + 23) % 24)) 12)) ((E 12)) 0 0 5)) ++ lzDoor G (rh ((X + 23) % 24)) (rq ((X + 23) % 24)) (RS ((X + 23) % 24)) (RF ((X + 23) % 24)))) hP hD [2, 3, 4, 5, 6, 7, 8, 9, 10, 11, 12, 13, 14, 15, 16, 17, 18, 19, 20, 21, 22, 23] [0, 1] rfl rfl (by decide) (by decide) rfl hk1 hB
  replace hP := P_subT (ws' := (lzAc a q (upd S 1 (nI ((X + 23) % 24))) ++ (lzQ G 3 (q 0) 24 (fun i => some (rh i)) ++ (lzDoor G o q2 (upd (upd (upd (upd T 0 ((RS ((X + 23) % 24)) 0)) 1 ((RS ((X + 23) % 24)) 1)) 2 ((RS ((X + 23) % 24)) 2)) 3 ((RS ((X + 23) % 24)) 3)) (lzF (lzF (lzF (lzF (lzF (lzF (lzF (lzF (lzF E 4 (va_cpy (((RF ((X + 23) % 24)) 4)) ((E 4)) 0 0 8)) 5 (va_cpy (((RF ((X + 23) % 24)) 5)) ((E 5)) 0 0 8)) 6 (va_cpy (((RF ((X + 23) % 24)) 6)) ((E 6)) 0 0 8)) 7 (va_cpy (((RF ((X + 23) % 24)) 7)) ((E 7)) 0 0 8)) 8 (va_cpy (((RF ((X + 23) % 24)) 8)) ((E 8)) 0 0 8)) 9 (va_cpy (((RF ((X + 23) % 24)) 9)) ((E 9)) 0 0 5)) 10 (va_cpy (((RF ((X + 23) % 24)) 10)) ((E 10)) 0 0 5)) 11 (va_cpy (((RF ((X + 23) % 24)) 11)) ((E 11)) 0 0 5)) 12 (va_cpy (((RF ((X + 23) % 24)) 12)) ((E 12)) 0 0 5)) ++ (lzDoor G (rh ((X + 23) % 24)) (rq ((X + 23) % 24)) (RS ((X + 23) % 24)) (RF ((X + 23) % 24))))))) hP [0, 1, 2, 3, 4, 5, 6, 7, 8, 9, 10, 11, 12, 13, 14, 15, 16, 17, 18, 19, 20, 21, 22, 23] rfl
  replace hD := D_subT (ws' := (lzAc a q (upd S 1 (nI ((X + 23) % 24))) ++ (lzQ G 3 (q 0) 24 (fun i => some (rh i)) ++ (lzDoor G o q2 (upd (upd (upd (upd T 0 ((RS ((X + 23) % 24)) 0)) 1 ((RS ((X + 23) % 24)) 1)) 2 ((RS ((X + 23) % 24)) 2)) 3 ((RS ((X + 23) % 24)) 3)) (lzF (lzF (lzF (lzF (lzF (lzF (lzF (lzF (lzF E 4 (va_cpy (((RF ((X + 23) % 24)) 4)) ((E 4)) 0 0 8)) 5 (va_cpy (((RF ((X + 23) % 24)) 5)) ((E 5)) 0 0 8)) 6 (va_cpy (((RF ((X + 23) % 24)) 6)) ((E 6)) 0 0 8)) 7 (va_cpy (((RF ((X + 23) % 24)) 7)) ((E 7)) 0 0 8)) 8 (va_cpy (((RF ((X + 23) % 24)) 8)) ((E 8)) 0 0 8)) 9 (va_cpy (((RF ((X + 23) % 24)) 9)) ((E 9)) 0 0 5)) 10 (va_cpy (((RF ((X + 23) % 24)) 10)) ((E 10)) 0 0 5)) 11 (va_cpy (((RF ((X + 23) % 24)) 11)) ((E 11)) 0 0 5)) 12 (va_cpy (((RF ((X + 23) % 24)) 12)) ((E 12)) 0 0 5)) ++ (lzDoor G (rh ((X + 23) % 24)) (rq ((X + 23) % 24)) (RS ((X + 23) % 24)) (RF ((X + 23) % 24))))))) hD [0, 1, 2, 3, 4, 5, 6, 7, 8, 9, 10, 11, 12, 13, 14, 15, 16, 17, 18, 19, 20, 21, 22, 23] (by decide) rfl
  clear ht hvm hB hz1 hk1
  generalize H1 = H at hP hS ⊢
  obtain ⟨hP, hD⟩ := ring_close0 (X := (lzAc a q (upd S 1 (nI ((X + 23) % 24))) ++ (lzQ G 3 (q 0) 24 (fun i => some (rh i)) ++ (lzDoor G o q2 (upd (upd (upd (upd T 0 ((RS ((X + 23) % 24)) 0)) 1 ((RS ((X + 23) % 24)) 1)) 2 ((RS ((X + 23) % 24)) 2)) 3 ((RS ((X + 23) % 24)) 3)) (lzF (lzF (lzF (lzF (lzF (lzF (lzF (lzF (lzF E 4 (va_cpy (((RF ((X + 23) % 24)) 4)) ((E 4)) 0 0 8)) 5 (va_cpy (((RF ((X + 23) % 24)) 5)) ((E 5)) 0 0 8)) 6 (va_cpy (((RF ((X + 23) % 24)) 6)) ((E 6)) 0 0 8)) 7 (va_cpy (((RF ((X + 23) % 24)) 7)) ((E 7)) 0 0 8)) 8 (va_cpy (((RF ((X + 23) % 24)) 8)) ((E 8)) 0 0 8)) 9 (va_cpy (((RF ((X + 23) % 24)) 9)) ((E 9)) 0 0 5)) 10 (va_cpy (((RF ((X + 23) % 24)) 10)) ((E 10)) 0 0 5)) 11 (va_cpy (((RF ((X + 23) % 24)) 11)) ((E 11)) 0 0 5)) 12 (va_cpy (((RF ((X + 23) % 24)) 12)) ((E 12)) 0 0 5)))))) (j := (X + 23) % 24) hj hP hD
  refine lv_aload_n hx hb dX0_takeBackInto_29 rfl (lv_at hl 0 rfl) ?_
  refine lv_dup hx hb dX0_takeBackInto_30 rfl ?_
  refine lz_get (G := G) (ci := 0) (v := .int (S 2)) (C := RX0) (T := TX0) (N := 3) hx hb hu_wsX00 (fun _ h9 => h9) hown hK hP 0 rfl rfl 2 (by decide) hw3 rfl rfl dX0_takeBackInto_31 ?_
  refine lz_top (y := nI K) (hK0) ?_
  refine lv_iconst (v := 1) hx hb dX0_takeBackInto_34 (by decide) ?_
  refine lv_isub hx hb dX0_takeBackInto_35 ?_
  refine lz_top (y := nI (K - 1)) (pk_sub (b := 1) hK1) ?_
  refine lz_put (G := G) (ci := 0) (C := RX0) (T := TX0) (N := 3) hx hb hu_wsX00 (fun _ h9 => h9) tyX0 tyX0_ok nmX0 hown hK hP hD hS 0 rfl rfl 2 (by decide) hw3 rfl rfl (by decide +kernel) (Nat.le_of_ble_eq_true rfl) dX0_takeBackInto_36 ((lzAc a q (upd (upd S 1 (nI ((X + 23) % 24))) 2 (nI (K - 1))) ++ (lzQ G 3 (q 0) 24 (fun i => some (rh i)) ++ (lzDoor G o q2 (upd (upd (upd (upd T 0 ((RS ((X + 23) % 24)) 0)) 1 ((RS ((X + 23) % 24)) 1)) 2 ((RS ((X + 23) % 24)) 2)) 3 ((RS ((X + 23) % 24)) 3)) (lzF (lzF (lzF (lzF (lzF (lzF (lzF (lzF (lzF E 4 (va_cpy (((RF ((X + 23) % 24)) 4)) ((E 4)) 0 0 8)) 5 (va_cpy (((RF ((X + 23) % 24)) 5)) ((E 5)) 0 0 8)) 6 (va_cpy (((RF ((X + 23) % 24)) 6)) ((E 6)) 0 0 8)) 7 (va_cpy (((RF ((X + 23) % 24)) 7)) ((E 7)) 0 0 8)) 8 (va_cpy (((RF ((X + 23) % 24)) 8)) ((E 8)) 0 0 8)) 9 (va_cpy (((RF ((X + 23) % 24)) 9)) ((E 9)) 0 0 5)) 10 (va_cpy (((RF ((X + 23) % 24)) 10)) ((E 10)) 0 0 5)) 11 (va_cpy (((RF ((X + 23) % 24)) 11)) ((E 11)) 0 0 5)) 12 (va_cpy (((RF ((X + 23) % 24)) 12)) ((E 12)) 0 0 5))))) ++ ringW G rh rq RS RF) rfl (fun H locs hP hD hS => ?_)
  exact rw_vret (S := Unit) (G := G) (Wd := fun _ : Unit => ((lzAc a q (upd (upd S 1 (nI ((X + 23) % 24))) 2 (nI (K - 1))) ++ (lzQ G 3 (q 0) 24 (fun i => some (rh i)) ++ (lzDoor G o q2 (tfS (RS ((X + 23) % 24)) T) (tfF (RF ((X + 23) % 24)) E)))) ++ ringW G rh rq RS RF)) () hx hb hr hlk dX0_takeBackInto_39 hS (hP) (trivial)
